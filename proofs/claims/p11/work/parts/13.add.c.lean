set_option maxHeartbeats 4000000 in
set_option maxRecDepth 100000 in
theorem a_growIK (l : Launch) (G : gw_G) (M : gw_M) (o : Nat) (k : Int32) (hf_o : M o = some (5, .inr (4, [.int k, .ref (G.2.2.1 0), .int (nI 0)]))) : Met l y_AL_grow [.code y_AL_grow b_AL_grow 4 (some (.array (.object "java/lang/Object")))] ({ frames := 1, cells := 1, slots := 10, locals := 14 }) (gw_Pc G M [.ref o, .int ((nI 0) + 1)]) (gw_Qr G (fun r M2 => ∃ (ar : Nat), ar = r ∧ M2 o = some (5, .inr (4, [.int k, .ref ar, .int (nI 0)])) ∧ M2 ar = some (7, .inl (G.2.1 1, 10, .inr (.inr (.inr (.inr (fun _ => none)))))) ∧ gw_fg (gw_out [5, 7]) M M2)) 1 10 (gw_A G) := by
  refine gw_start (by decide) (Nat.le_of_ble_eq_true rfl) (fun p9 e9 s m b9 mt9 c9 hx hb hr hml hown hlocks hin hE hB hW ls hl => ?_)
  have hts := hE.ts ([.ref o, .int ((nI 0) + 1)] : List Value).toArray
  have hl : lv_has ls 4 [(0, .ref o), (1, .int ((nI 0) + 1))] := hl
  have hS : va_S (gw_A G) s.heap s.heap [] := va_S.rf
  have hown : s.vm.findClass "java/util/ArrayList" = some m.cls := hown
  refine lv_aload_n hx hb d_AL_grow_0 rfl (lv_at hl 0 rfl) ?_
  refine gw_get (ci := 4) (fs := [.int k, .ref (G.2.2.1 0), .int (nI 0)]) hx hb hts in_AL hown hE.K hW hf_o rfl 1 (by decide) (hts _ mw5) (fun _ h9 => h9) rfl d_AL_grow_1 ?_
  refine va_tlen (v := 0) hx hb hE.2.2.2.1 hS rfl d_AL_grow_4 ?_
  refine lv_istore_n (lv' := [(2, .int 0), (0, .ref o), (1, .int ((nI 0) + 1))]) hx hb d_AL_grow_5 rfl hl (by decide) rfl (fun ls hl => ?_)
  refine lv_iload_n hx hb d_AL_grow_6 rfl (lv_at hl 0 rfl) ?_
  refine lv_if_gt (tgt := 20) hx hb d_AL_grow_7 (by decide) (fun c7 => ?_) (fun c7 => ?_)
  · exact absurd c7 (by decide)
  · refine lv_aload_n hx hb d_AL_grow_10 rfl (lv_at hl 1 rfl) ?_
    refine gw_get (ci := 4) (fs := [.int k, .ref (G.2.2.1 0), .int (nI 0)]) hx hb hts in_AL hown hE.K hW hf_o rfl 1 (by decide) (hts _ mw5) (fun _ h9 => h9) rfl d_AL_grow_11 ?_
    refine va_gets hx hb hE.2.2.1 hS hown (hts _ mw67) (fun _ h9 => h9) d_AL_grow_14 ?_
    refine lv_acmp_eq (rx := some (G.2.2.1 0)) (ry := some (G.2.2.1 0)) (tgt := 45) hx hb d_AL_grow_17 (by decide) (fun c17 => ?_) (fun c17 => ?_)
    · refine lv_aload_n hx hb d_AL_grow_45 rfl (lv_at hl 1 rfl) ?_
      refine lv_bipush (v := 10) hx hb d_AL_grow_46 (by decide) ?_
      refine lv_iload_n hx hb d_AL_grow_48 rfl (lv_at hl 2 rfl) ?_
      refine va_mmax (x := 10) (y := (nI 0) + 1) hx hb (hml.trans hl.1.symm) hown (hts _ mw68) (hts _ mw69) (hts _ mw70) (hts _ mw71) (Nat.le_of_ble_eq_true rfl) (Nat.le_of_ble_eq_true rfl) (Nat.le_of_ble_eq_true rfl) (Nat.le_of_ble_eq_true rfl) d_AL_grow_49 ?_
      refine gw_newq (N' := 10) hx hb hown (hts _ mw72) hE.ao hE.K hW hS hB (by decide) (by decide) (Nat.le_of_ble_eq_true rfl) (Nat.le_of_ble_eq_true rfl) (Nat.le_of_ble_eq_true rfl) d_AL_grow_52 1 rfl 7 (fun q1 H hq2 hW hS => ?_)
      refine W.widen (k := 1) (n := 10) (Nat.le_refl _) (Nat.le_refl _) ?_
      have hF3 : gw_fg (gw_out [5, 7]) M (gw_up M q1 7 (.inl (G.2.1 1, 10, .inr (.inr (.inr (.inr (fun _ => none))))))) := gw_fg.new gw_fg.rf hq2 (show ¬ ((gw_out [5, 7]) 7) by decide)
      obtain ⟨M4, eM4⟩ : ∃ z, z = gw_up M q1 7 (.inl (G.2.1 1, 10, .inr (.inr (.inr (.inr (fun _ => none)))))) := ⟨_, rfl⟩
      replace hW : gw_P G.1 vwCl G.2.2.2 M4 H := by rw [eM4]; exact hW
      have hf_o : M4 o = some (5, .inr (4, [.int k, .ref (G.2.2.1 0), .int (nI 0)])) := by rw [eM4]; exact gw_keepN hf_o hq2
      have hf_q1 : M4 q1 = some (7, .inl (G.2.1 1, 10, .inr (.inr (.inr (.inr (fun _ => none)))))) := by rw [eM4]; exact gw_up_self _ _ _ _
      rw [← eM4] at hF3
      refine lv_dup_x1 hx hb d_AL_grow_55 rfl rfl ?_
      refine gw_put (ci := 4) (fs := [.int k, .ref (G.2.2.1 0), .int (nI 0)]) (v := .ref q1) (ty := .array (.object "java/lang/Object")) hx hb hts in_AL t_AL t_AL_ok n_AL hown hE.K hW hS hf_o rfl 1 (by decide) (hts _ mw5) (fun _ h9 => h9) rfl (by decide +kernel) rfl rfl (Nat.le_of_ble_eq_true rfl) d_AL_grow_56 (fun H locs hW hS => ?_)
      have hF5 : gw_fg (gw_out [5, 7]) M (gw_up M4 o 5 (.inr (4, [.int k, .ref q1, .int (nI 0)]))) := gw_fg.up hF3 hf_o (show ¬ ((gw_out [5, 7]) 5) by decide) (show ¬ ((gw_out [5, 7]) 5) by decide)
      obtain ⟨M6, eM6⟩ : ∃ z, z = gw_up M4 o 5 (.inr (4, [.int k, .ref q1, .int (nI 0)])) := ⟨_, rfl⟩
      replace hW : gw_P G.1 vwCl G.2.2.2 M6 H := by rw [eM6]; exact hW
      have hf_q1 : M6 q1 = some (7, .inl (G.2.1 1, 10, .inr (.inr (.inr (.inr (fun _ => none)))))) := by rw [eM6]; exact gw_keep hf_q1 hf_o (by decide)
      have hf_o : M6 o = some (5, .inr (4, [.int k, .ref q1, .int (nI 0)])) := by rw [eM6]; exact gw_up_self _ _ _ _
      rw [← eM6] at hF5
      exact gw_aret hx hb hr hlocks (Or.inr ⟨_, rfl⟩) hS hW (Nat.le_of_ble_eq_true rfl) (Nat.le_of_ble_eq_true rfl) d_AL_grow_59 (⟨q1, rfl, hf_o, hf_q1, hF5⟩)
    · exact absurd rfl c17

set_option maxHeartbeats 4000000 in
set_option maxRecDepth 100000 in
theorem a_growK (l : Launch) (G : gw_G) (M : gw_M) (o : Nat) (k : Int32) (hf_o : M o = some (5, .inr (4, [.int k, .ref (G.2.2.1 0), .int (nI 0)]))) : Met l y_AL_grow2 [.code y_AL_grow2 b_AL_grow2 1 (some (.array (.object "java/lang/Object")))] ({ frames := 2, cells := 1, slots := 10, locals := 37 }) (gw_Pc G M [.ref o]) (gw_Qr G (fun r M2 => ∃ (ar : Nat), ar = r ∧ M2 o = some (5, .inr (4, [.int k, .ref ar, .int (nI 0)])) ∧ M2 ar = some (7, .inl (G.2.1 1, 10, .inr (.inr (.inr (.inr (fun _ => none)))))) ∧ gw_fg (gw_out [5, 7]) M M2)) 1 10 (gw_A G) := by
  refine gw_start (by decide) (Nat.le_of_ble_eq_true rfl) (fun p9 e9 s m b9 mt9 c9 hx hb hr hml hown hlocks hin hE hB hW ls hl => ?_)
  have hts := hE.ts ([.ref o] : List Value).toArray
  have hl : lv_has ls 1 [(0, .ref o)] := hl
  have hS : va_S (gw_A G) s.heap s.heap [] := va_S.rf
  have hown : s.vm.findClass "java/util/ArrayList" = some m.cls := hown
  refine lv_aload_n hx hb d_AL_grow2_0 rfl (lv_at hl 0 rfl) ?_
  refine lv_aload_n hx hb d_AL_grow2_1 rfl (lv_at hl 0 rfl) ?_
  refine gw_get (ci := 4) (fs := [.int k, .ref (G.2.2.1 0), .int (nI 0)]) hx hb hts in_AL hown hE.K hW hf_o rfl 2 (by decide) (hts _ mw0) (fun _ h9 => h9) rfl d_AL_grow2_2 ?_
  refine lv_iconst (v := 1) hx hb d_AL_grow2_5 (by decide) ?_
  refine lv_iadd hx hb d_AL_grow2_6 ?_
  refine gw_callr hS (va_runV (As := [.int ((nI 0) + 1)]) (rest := []) ⟨hx, hb, hml, hown, hts⟩ (a_growIK l G M o k hf_o ) (cwV 1 hts (gw_gv mw74 mw75 mw76 mw14 mw73) rfl rfl rfl (by decide +kernel) ⟨Nat.le_of_ble_eq_true rfl, Nat.le_of_ble_eq_true rfl⟩) (gw_pv hE hB hS hW rfl hf_o) rfl rfl hl.1 rfl (lv_room (Nat.le_of_ble_eq_true rfl)) d_AL_grow2_7 ⟨Nat.le_of_ble_eq_true rfl, Nat.le_of_ble_eq_true rfl⟩) (fun r1 M2 H locs hw3 hW hS => ?_)
  refine W.widen (k := 1) (n := 10) (Nat.le_refl _) (Nat.le_refl _) ?_
  obtain ⟨ar4, rfl, hf_o', hf_ar4', hfr5⟩ := hw3
  have hf_o : M2 o = some (5, .inr (4, [.int k, .ref ar4, .int (nI 0)])) := hf_o'
  have hf_ar4 : M2 ar4 = some (7, .inl (G.2.1 1, 10, .inr (.inr (.inr (.inr (fun _ => none)))))) := hf_ar4'
  have hF6 : gw_fg (gw_out [5, 7]) M M2 := gw_fg.tr gw_fg.rf (gw_fg.wk hfr5 (by decide))
  exact gw_aret hx hb hr hlocks (Or.inr ⟨_, rfl⟩) hS hW (Nat.le_of_ble_eq_true rfl) (Nat.le_of_ble_eq_true rfl) d_AL_grow2_10 (⟨ar4, rfl, hf_o, hf_ar4, hF6⟩)

set_option maxHeartbeats 4000000 in
set_option maxRecDepth 100000 in
theorem a_add3K (l : Launch) (G : gw_G) (M : gw_M) (o : Nat) (k : Int32) (g : Nat) (v1 : Int32) (v2 : Int32) (v3 : Int32) (v4 : Int32) (v5 : Int32) (hf_o : M o = some (5, .inr (4, [.int k, .ref (G.2.2.1 0), .int (nI 0)]))) (hf_g : M g = some (9, .inr (2, [.int v1, .int v2, .int v3, .int v4, .int v5]))) : Met l y_AL_add [.code y_AL_add b_AL_add 4 none] ({ frames := 3, cells := 1, slots := 10, locals := 57 }) (gw_Pc G M [.ref o, .ref g, .ref (G.2.2.1 0), .int (nI 0)]) (gw_Qv G (fun M2 => ∃ (ar : Nat), M2 o = some (5, .inr (4, [.int k, .ref ar, .int ((nI 0) + 1)])) ∧ M2 ar = some (7, .inl (G.2.1 1, 10, .inr (.inr (.inr (.inr (va_up (fun _ => none) (nI 0 : Int32).toNatClampNeg (some g))))))) ∧ gw_fg (gw_out [5, 7]) M M2)) 1 10 (gw_A G) := by
  refine gw_start (by decide) (Nat.le_of_ble_eq_true rfl) (fun p9 e9 s m b9 mt9 c9 hx hb hr hml hown hlocks hin hE hB hW ls hl => ?_)
  have hts := hE.ts ([.ref o, .ref g, .ref (G.2.2.1 0), .int (nI 0)] : List Value).toArray
  have hl : lv_has ls 4 [(0, .ref o), (1, .ref g), (2, .ref (G.2.2.1 0)), (3, .int (nI 0))] := hl
  have hS : va_S (gw_A G) s.heap s.heap [] := va_S.rf
  have hown : s.vm.findClass "java/util/ArrayList" = some m.cls := hown
  refine lv_iload_n hx hb d_AL_add_0 rfl (lv_at hl 3 rfl) ?_
  refine lv_aload_n hx hb d_AL_add_1 rfl (lv_at hl 2 rfl) ?_
  refine va_tlen (v := 0) hx hb hE.2.2.2.1 hS rfl d_AL_add_2 ?_
  refine lv_icmp_ne (tgt := 11) hx hb d_AL_add_3 (by decide) (fun c3 => ?_) (fun c3 => ?_)
  · exact absurd (by decide) c3
  · refine lv_aload_n hx hb d_AL_add_6 rfl (lv_at hl 0 rfl) ?_
    refine gw_callr hS (va_runV (As := []) (rest := []) ⟨hx, hb, hml, hown, hts⟩ (a_growK l G M o k hf_o ) (cwV 0 hts (gw_gv mw78 mw79 mw80 mw14 mw77) rfl rfl rfl (by decide +kernel) ⟨Nat.le_of_ble_eq_true rfl, Nat.le_of_ble_eq_true rfl⟩) (gw_pv hE hB hS hW rfl hf_o) rfl rfl hl.1 rfl (lv_room (Nat.le_of_ble_eq_true rfl)) d_AL_add_7 ⟨Nat.le_of_ble_eq_true rfl, Nat.le_of_ble_eq_true rfl⟩) (fun r1 M2 H locs hw3 hW hS => ?_)
    refine W.widen (k := 1) (n := 10) (Nat.le_refl _) (Nat.le_refl _) ?_
    obtain ⟨ar4, rfl, hf_o', hf_ar4', hfr5⟩ := hw3
    have hf_g : M2 g = some (9, .inr (2, [.int v1, .int v2, .int v3, .int v4, .int v5])) := (hfr5.1 _ _ _ (by decide)).mp hf_g
    have hf_o : M2 o = some (5, .inr (4, [.int k, .ref ar4, .int (nI 0)])) := hf_o'
    have hf_ar4 : M2 ar4 = some (7, .inl (G.2.1 1, 10, .inr (.inr (.inr (.inr (fun _ => none)))))) := hf_ar4'
    have hF6 : gw_fg (gw_out [5, 7]) M M2 := gw_fg.tr gw_fg.rf (gw_fg.wk hfr5 (by decide))
    refine lv_astore_n (lv' := [(2, .ref ar4), (0, .ref o), (1, .ref g), (3, .int (nI 0))]) hx hb d_AL_add_10 rfl hl (by decide) rfl (fun ls hl => ?_)
    refine lv_aload_n hx hb d_AL_add_11 rfl (lv_at hl 0 rfl) ?_
    refine lv_iload_n hx hb d_AL_add_12 rfl (lv_at hl 3 rfl) ?_
    refine lv_aload_n hx hb d_AL_add_13 rfl (lv_at hl 2 rfl) ?_
    refine gw_aastO (i := nI 0) (v := g) hx hb hE.K hW hS 1 2 hf_ar4 rfl (hE.nw mw81) hf_g rfl (show ¬ (nI 0 < 0 ∨ 10 ≤ (nI 0).toNatClampNeg) by decide) d_AL_add_14 (fun H locs hW hS => ?_)
    have hF7 : gw_fg (gw_out [5, 7]) M (gw_up M2 ar4 7 (.inl (G.2.1 1, 10, .inr (.inr (.inr (.inr (va_up (fun _ => none) (nI 0 : Int32).toNatClampNeg (some g)))))))) := gw_fg.up hF6 hf_ar4 (show ¬ ((gw_out [5, 7]) 7) by decide) (show ¬ ((gw_out [5, 7]) 7) by decide)
    obtain ⟨M8, eM8⟩ : ∃ z, z = gw_up M2 ar4 7 (.inl (G.2.1 1, 10, .inr (.inr (.inr (.inr (va_up (fun _ => none) (nI 0 : Int32).toNatClampNeg (some g))))))) := ⟨_, rfl⟩
    replace hW : gw_P G.1 vwCl G.2.2.2 M8 H := by rw [eM8]; exact hW
    have hf_o : M8 o = some (5, .inr (4, [.int k, .ref ar4, .int (nI 0)])) := by rw [eM8]; exact gw_keep hf_o hf_ar4 (by decide)
    have hf_g : M8 g = some (9, .inr (2, [.int v1, .int v2, .int v3, .int v4, .int v5])) := by rw [eM8]; exact gw_keep hf_g hf_ar4 (by decide)
    have hf_ar4 : M8 ar4 = some (7, .inl (G.2.1 1, 10, .inr (.inr (.inr (.inr (va_up (fun _ => none) (nI 0 : Int32).toNatClampNeg (some g))))))) := by rw [eM8]; exact gw_up_self _ _ _ _
    rw [← eM8] at hF7
    refine lv_aload_n hx hb d_AL_add_15 rfl (lv_at hl 1 rfl) ?_
    refine lv_iload_n hx hb d_AL_add_16 rfl (lv_at hl 3 rfl) ?_
    refine lv_iconst (v := 1) hx hb d_AL_add_17 (by decide) ?_
    refine lv_iadd hx hb d_AL_add_18 ?_
    refine gw_put (ci := 4) (fs := [.int k, .ref ar4, .int (nI 0)]) (v := .int ((nI 0) + 1)) (ty := .int) hx hb hts in_AL t_AL t_AL_ok n_AL hown hE.K hW hS hf_o rfl 2 (by decide) (hts _ mw0) (fun _ h9 => h9) rfl (by decide +kernel) rfl rfl (Nat.le_of_ble_eq_true rfl) d_AL_add_19 (fun H locs hW hS => ?_)
    have hF9 : gw_fg (gw_out [5, 7]) M (gw_up M8 o 5 (.inr (4, [.int k, .ref ar4, .int ((nI 0) + 1)]))) := gw_fg.up hF7 hf_o (show ¬ ((gw_out [5, 7]) 5) by decide) (show ¬ ((gw_out [5, 7]) 5) by decide)
    obtain ⟨M10, eM10⟩ : ∃ z, z = gw_up M8 o 5 (.inr (4, [.int k, .ref ar4, .int ((nI 0) + 1)])) := ⟨_, rfl⟩
    replace hW : gw_P G.1 vwCl G.2.2.2 M10 H := by rw [eM10]; exact hW
    have hf_g : M10 g = some (9, .inr (2, [.int v1, .int v2, .int v3, .int v4, .int v5])) := by rw [eM10]; exact gw_keep hf_g hf_o (by decide)
    have hf_ar4 : M10 ar4 = some (7, .inl (G.2.1 1, 10, .inr (.inr (.inr (.inr (va_up (fun _ => none) (nI 0 : Int32).toNatClampNeg (some g))))))) := by rw [eM10]; exact gw_keep hf_ar4 hf_o (by decide)
    have hf_o : M10 o = some (5, .inr (4, [.int k, .ref ar4, .int ((nI 0) + 1)])) := by rw [eM10]; exact gw_up_self _ _ _ _
    rw [← eM10] at hF9
    exact gw_vret hx hb hr hlocks hS hW (Nat.le_of_ble_eq_true rfl) (Nat.le_of_ble_eq_true rfl) d_AL_add_22 (⟨ar4, hf_o, hf_ar4, hF9⟩)

set_option maxHeartbeats 4000000 in
set_option maxRecDepth 100000 in
theorem a_addK (l : Launch) (G : gw_G) (M : gw_M) (o : Nat) (k : Int32) (g : Nat) (v1 : Int32) (v2 : Int32) (v3 : Int32) (v4 : Int32) (v5 : Int32) (hf_o : M o = some (5, .inr (4, [.int k, .ref (G.2.2.1 0), .int (nI 0)]))) (hf_g : M g = some (9, .inr (2, [.int v1, .int v2, .int v3, .int v4, .int v5]))) : Met l y_AL_add2 [.code y_AL_add2 b_AL_add2 2 (some .boolean)] ({ frames := 6, cells := 1, slots := 1000, locals := 200 }) (gw_Pc G M [.ref o, .ref g]) (gw_Qi G (fun r M2 => ∃ (ar : Nat), 1 = r ∧ M2 o = some (5, .inr (4, [.int (k + 1), .ref ar, .int ((nI 0) + 1)])) ∧ M2 ar = some (7, .inl (G.2.1 1, 10, .inr (.inr (.inr (.inr (va_up (fun _ => none) (nI 0 : Int32).toNatClampNeg (some g))))))) ∧ gw_fg (gw_out [5, 7]) M M2)) 1 1000 (gw_A G) := by
  refine gw_start (by decide) (Nat.le_of_ble_eq_true rfl) (fun p9 e9 s m b9 mt9 c9 hx hb hr hml hown hlocks hin hE hB hW ls hl => ?_)
  have hts := hE.ts ([.ref o, .ref g] : List Value).toArray
  have hl : lv_has ls 2 [(0, .ref o), (1, .ref g)] := hl
  have hS : va_S (gw_A G) s.heap s.heap [] := va_S.rf
  have hown : s.vm.findClass "java/util/ArrayList" = some m.cls := hown
  refine lv_aload_n hx hb d_AL_add2_0 rfl (lv_at hl 0 rfl) ?_
  refine lv_dup hx hb d_AL_add2_1 rfl ?_
  refine gw_get (ci := 4) (fs := [.int k, .ref (G.2.2.1 0), .int (nI 0)]) hx hb hts in_AL hown hE.K hW hf_o rfl 0 (by decide) (hts _ mw83) (fun x h9 => u_same (hts _ mw82) x h9) rfl d_AL_add2_2 ?_
  refine lv_iconst (v := 1) hx hb d_AL_add2_5 (by decide) ?_
  refine lv_iadd hx hb d_AL_add2_6 ?_
  refine gw_put (ci := 4) (fs := [.int k, .ref (G.2.2.1 0), .int (nI 0)]) (v := .int (k + 1)) (ty := .int) hx hb hts in_AL t_AL t_AL_ok n_AL hown hE.K hW hS hf_o rfl 0 (by decide) (hts _ mw83) (fun x h9 => u_same (hts _ mw82) x h9) rfl (by decide +kernel) rfl rfl (Nat.le_of_ble_eq_true rfl) d_AL_add2_7 (fun H locs hW hS => ?_)
  have hF1 : gw_fg (gw_out [5, 7]) M (gw_up M o 5 (.inr (4, [.int (k + 1), .ref (G.2.2.1 0), .int (nI 0)]))) := gw_fg.up gw_fg.rf hf_o (show ¬ ((gw_out [5, 7]) 5) by decide) (show ¬ ((gw_out [5, 7]) 5) by decide)
  obtain ⟨M2, eM2⟩ : ∃ z, z = gw_up M o 5 (.inr (4, [.int (k + 1), .ref (G.2.2.1 0), .int (nI 0)])) := ⟨_, rfl⟩
  replace hW : gw_P G.1 vwCl G.2.2.2 M2 H := by rw [eM2]; exact hW
  have hf_g : M2 g = some (9, .inr (2, [.int v1, .int v2, .int v3, .int v4, .int v5])) := by rw [eM2]; exact gw_keep hf_g hf_o (by decide)
  have hf_o : M2 o = some (5, .inr (4, [.int (k + 1), .ref (G.2.2.1 0), .int (nI 0)])) := by rw [eM2]; exact gw_up_self _ _ _ _
  rw [← eM2] at hF1
  refine lv_aload_n hx hb d_AL_add2_10 rfl (lv_at hl 0 rfl) ?_
  refine lv_aload_n hx hb d_AL_add2_11 rfl (lv_at hl 1 rfl) ?_
  refine lv_aload_n hx hb d_AL_add2_12 rfl (lv_at hl 0 rfl) ?_
  refine gw_get (ci := 4) (fs := [.int (k + 1), .ref (G.2.2.1 0), .int (nI 0)]) hx hb hts in_AL hown hE.K hW hf_o rfl 1 (by decide) (hts _ mw5) (fun _ h9 => h9) rfl d_AL_add2_13 ?_
  refine lv_aload_n hx hb d_AL_add2_16 rfl (lv_at hl 0 rfl) ?_
  refine gw_get (ci := 4) (fs := [.int (k + 1), .ref (G.2.2.1 0), .int (nI 0)]) hx hb hts in_AL hown hE.K hW hf_o rfl 2 (by decide) (hts _ mw0) (fun _ h9 => h9) rfl d_AL_add2_17 ?_
  refine gw_callv hS (va_runV (As := [.ref g, .ref (G.2.2.1 0), .int (nI 0)]) (rest := []) ⟨hx, hb, hml, hown, hts⟩ (a_add3K l G M2 o (k + 1) g v1 v2 v3 v4 v5 hf_o hf_g ) (cwV 3 hts (gw_gv mw85 mw86 mw87 mw14 mw84) rfl rfl rfl (by decide +kernel) ⟨Nat.le_of_ble_eq_true rfl, Nat.le_of_ble_eq_true rfl⟩) (gw_pv hE hB hS hW rfl hf_o) rfl rfl hl.1 rfl (lv_room (Nat.le_of_ble_eq_true rfl)) d_AL_add2_20 ⟨Nat.le_of_ble_eq_true rfl, Nat.le_of_ble_eq_true rfl⟩) (fun M4 H locs hw5 hW hS => ?_)
  refine W.widen (k := 1) (n := 10) (Nat.le_refl _) (Nat.le_refl _) ?_
  obtain ⟨ar6, hf_o', hf_ar6', hfr7⟩ := hw5
  have hf_g : M4 g = some (9, .inr (2, [.int v1, .int v2, .int v3, .int v4, .int v5])) := (hfr7.1 _ _ _ (by decide)).mp hf_g
  have hf_o : M4 o = some (5, .inr (4, [.int (k + 1), .ref ar6, .int ((nI 0) + 1)])) := hf_o'
  have hf_ar6 : M4 ar6 = some (7, .inl (G.2.1 1, 10, .inr (.inr (.inr (.inr (va_up (fun _ => none) (nI 0 : Int32).toNatClampNeg (some g))))))) := hf_ar6'
  have hF8 : gw_fg (gw_out [5, 7]) M M4 := gw_fg.tr hF1 (gw_fg.wk hfr7 (by decide))
  refine lv_iconst (v := 1) hx hb d_AL_add2_23 (by decide) ?_
  exact gw_zret hx hb hr hlocks rfl hS hW (Nat.le_of_ble_eq_true rfl) (Nat.le_of_ble_eq_true rfl) d_AL_add2_24 (⟨ar6, rfl, hf_o, hf_ar6, hF8⟩)

set_option maxHeartbeats 4000000 in
set_option maxRecDepth 100000 in
theorem a_growIJ (l : Launch) (G : gw_G) (M : gw_M) (o : Nat) (k : Int32) (hf_o : M o = some (4, .inr (4, [.int k, .ref (G.2.2.1 0), .int (nI 0)]))) : Met l y_AL_grow [.code y_AL_grow b_AL_grow 4 (some (.array (.object "java/lang/Object")))] ({ frames := 1, cells := 1, slots := 10, locals := 14 }) (gw_Pc G M [.ref o, .int ((nI 0) + 1)]) (gw_Qr G (fun r M2 => ∃ (ar : Nat), ar = r ∧ M2 o = some (4, .inr (4, [.int k, .ref ar, .int (nI 0)])) ∧ M2 ar = some (6, .inl (G.2.1 1, 10, .inr (.inr (.inr (.inr (fun _ => none)))))) ∧ gw_fg (gw_out [4, 6]) M M2)) 1 10 (gw_A G) := by
  refine gw_start (by decide) (Nat.le_of_ble_eq_true rfl) (fun p9 e9 s m b9 mt9 c9 hx hb hr hml hown hlocks hin hE hB hW ls hl => ?_)
  have hts := hE.ts ([.ref o, .int ((nI 0) + 1)] : List Value).toArray
  have hl : lv_has ls 4 [(0, .ref o), (1, .int ((nI 0) + 1))] := hl
  have hS : va_S (gw_A G) s.heap s.heap [] := va_S.rf
  have hown : s.vm.findClass "java/util/ArrayList" = some m.cls := hown
  refine lv_aload_n hx hb d_AL_grow_0 rfl (lv_at hl 0 rfl) ?_
  refine gw_get (ci := 4) (fs := [.int k, .ref (G.2.2.1 0), .int (nI 0)]) hx hb hts in_AL hown hE.K hW hf_o rfl 1 (by decide) (hts _ mw5) (fun _ h9 => h9) rfl d_AL_grow_1 ?_
  refine va_tlen (v := 0) hx hb hE.2.2.2.1 hS rfl d_AL_grow_4 ?_
  refine lv_istore_n (lv' := [(2, .int 0), (0, .ref o), (1, .int ((nI 0) + 1))]) hx hb d_AL_grow_5 rfl hl (by decide) rfl (fun ls hl => ?_)
  refine lv_iload_n hx hb d_AL_grow_6 rfl (lv_at hl 0 rfl) ?_
  refine lv_if_gt (tgt := 20) hx hb d_AL_grow_7 (by decide) (fun c7 => ?_) (fun c7 => ?_)
  · exact absurd c7 (by decide)
  · refine lv_aload_n hx hb d_AL_grow_10 rfl (lv_at hl 1 rfl) ?_
    refine gw_get (ci := 4) (fs := [.int k, .ref (G.2.2.1 0), .int (nI 0)]) hx hb hts in_AL hown hE.K hW hf_o rfl 1 (by decide) (hts _ mw5) (fun _ h9 => h9) rfl d_AL_grow_11 ?_
    refine va_gets hx hb hE.2.2.1 hS hown (hts _ mw67) (fun _ h9 => h9) d_AL_grow_14 ?_
    refine lv_acmp_eq (rx := some (G.2.2.1 0)) (ry := some (G.2.2.1 0)) (tgt := 45) hx hb d_AL_grow_17 (by decide) (fun c17 => ?_) (fun c17 => ?_)
    · refine lv_aload_n hx hb d_AL_grow_45 rfl (lv_at hl 1 rfl) ?_
      refine lv_bipush (v := 10) hx hb d_AL_grow_46 (by decide) ?_
      refine lv_iload_n hx hb d_AL_grow_48 rfl (lv_at hl 2 rfl) ?_
      refine va_mmax (x := 10) (y := (nI 0) + 1) hx hb (hml.trans hl.1.symm) hown (hts _ mw68) (hts _ mw69) (hts _ mw70) (hts _ mw71) (Nat.le_of_ble_eq_true rfl) (Nat.le_of_ble_eq_true rfl) (Nat.le_of_ble_eq_true rfl) (Nat.le_of_ble_eq_true rfl) d_AL_grow_49 ?_
      refine gw_newq (N' := 10) hx hb hown (hts _ mw72) hE.ao hE.K hW hS hB (by decide) (by decide) (Nat.le_of_ble_eq_true rfl) (Nat.le_of_ble_eq_true rfl) (Nat.le_of_ble_eq_true rfl) d_AL_grow_52 1 rfl 6 (fun q1 H hq2 hW hS => ?_)
      refine W.widen (k := 1) (n := 10) (Nat.le_refl _) (Nat.le_refl _) ?_
      have hF3 : gw_fg (gw_out [4, 6]) M (gw_up M q1 6 (.inl (G.2.1 1, 10, .inr (.inr (.inr (.inr (fun _ => none))))))) := gw_fg.new gw_fg.rf hq2 (show ¬ ((gw_out [4, 6]) 6) by decide)
      obtain ⟨M4, eM4⟩ : ∃ z, z = gw_up M q1 6 (.inl (G.2.1 1, 10, .inr (.inr (.inr (.inr (fun _ => none)))))) := ⟨_, rfl⟩
      replace hW : gw_P G.1 vwCl G.2.2.2 M4 H := by rw [eM4]; exact hW
      have hf_o : M4 o = some (4, .inr (4, [.int k, .ref (G.2.2.1 0), .int (nI 0)])) := by rw [eM4]; exact gw_keepN hf_o hq2
      have hf_q1 : M4 q1 = some (6, .inl (G.2.1 1, 10, .inr (.inr (.inr (.inr (fun _ => none)))))) := by rw [eM4]; exact gw_up_self _ _ _ _
      rw [← eM4] at hF3
      refine lv_dup_x1 hx hb d_AL_grow_55 rfl rfl ?_
      refine gw_put (ci := 4) (fs := [.int k, .ref (G.2.2.1 0), .int (nI 0)]) (v := .ref q1) (ty := .array (.object "java/lang/Object")) hx hb hts in_AL t_AL t_AL_ok n_AL hown hE.K hW hS hf_o rfl 1 (by decide) (hts _ mw5) (fun _ h9 => h9) rfl (by decide +kernel) rfl rfl (Nat.le_of_ble_eq_true rfl) d_AL_grow_56 (fun H locs hW hS => ?_)
      have hF5 : gw_fg (gw_out [4, 6]) M (gw_up M4 o 4 (.inr (4, [.int k, .ref q1, .int (nI 0)]))) := gw_fg.up hF3 hf_o (show ¬ ((gw_out [4, 6]) 4) by decide) (show ¬ ((gw_out [4, 6]) 4) by decide)
      obtain ⟨M6, eM6⟩ : ∃ z, z = gw_up M4 o 4 (.inr (4, [.int k, .ref q1, .int (nI 0)])) := ⟨_, rfl⟩
      replace hW : gw_P G.1 vwCl G.2.2.2 M6 H := by rw [eM6]; exact hW
      have hf_q1 : M6 q1 = some (6, .inl (G.2.1 1, 10, .inr (.inr (.inr (.inr (fun _ => none)))))) := by rw [eM6]; exact gw_keep hf_q1 hf_o (by decide)
      have hf_o : M6 o = some (4, .inr (4, [.int k, .ref q1, .int (nI 0)])) := by rw [eM6]; exact gw_up_self _ _ _ _
      rw [← eM6] at hF5
      exact gw_aret hx hb hr hlocks (Or.inr ⟨_, rfl⟩) hS hW (Nat.le_of_ble_eq_true rfl) (Nat.le_of_ble_eq_true rfl) d_AL_grow_59 (⟨q1, rfl, hf_o, hf_q1, hF5⟩)
    · exact absurd rfl c17

set_option maxHeartbeats 4000000 in
set_option maxRecDepth 100000 in
theorem a_growJ (l : Launch) (G : gw_G) (M : gw_M) (o : Nat) (k : Int32) (hf_o : M o = some (4, .inr (4, [.int k, .ref (G.2.2.1 0), .int (nI 0)]))) : Met l y_AL_grow2 [.code y_AL_grow2 b_AL_grow2 1 (some (.array (.object "java/lang/Object")))] ({ frames := 2, cells := 1, slots := 10, locals := 37 }) (gw_Pc G M [.ref o]) (gw_Qr G (fun r M2 => ∃ (ar : Nat), ar = r ∧ M2 o = some (4, .inr (4, [.int k, .ref ar, .int (nI 0)])) ∧ M2 ar = some (6, .inl (G.2.1 1, 10, .inr (.inr (.inr (.inr (fun _ => none)))))) ∧ gw_fg (gw_out [4, 6]) M M2)) 1 10 (gw_A G) := by
  refine gw_start (by decide) (Nat.le_of_ble_eq_true rfl) (fun p9 e9 s m b9 mt9 c9 hx hb hr hml hown hlocks hin hE hB hW ls hl => ?_)
  have hts := hE.ts ([.ref o] : List Value).toArray
  have hl : lv_has ls 1 [(0, .ref o)] := hl
  have hS : va_S (gw_A G) s.heap s.heap [] := va_S.rf
  have hown : s.vm.findClass "java/util/ArrayList" = some m.cls := hown
  refine lv_aload_n hx hb d_AL_grow2_0 rfl (lv_at hl 0 rfl) ?_
  refine lv_aload_n hx hb d_AL_grow2_1 rfl (lv_at hl 0 rfl) ?_
  refine gw_get (ci := 4) (fs := [.int k, .ref (G.2.2.1 0), .int (nI 0)]) hx hb hts in_AL hown hE.K hW hf_o rfl 2 (by decide) (hts _ mw0) (fun _ h9 => h9) rfl d_AL_grow2_2 ?_
  refine lv_iconst (v := 1) hx hb d_AL_grow2_5 (by decide) ?_
  refine lv_iadd hx hb d_AL_grow2_6 ?_
  refine gw_callr hS (va_runV (As := [.int ((nI 0) + 1)]) (rest := []) ⟨hx, hb, hml, hown, hts⟩ (a_growIJ l G M o k hf_o ) (cwV 1 hts (gw_gv mw74 mw75 mw76 mw14 mw73) rfl rfl rfl (by decide +kernel) ⟨Nat.le_of_ble_eq_true rfl, Nat.le_of_ble_eq_true rfl⟩) (gw_pv hE hB hS hW rfl hf_o) rfl rfl hl.1 rfl (lv_room (Nat.le_of_ble_eq_true rfl)) d_AL_grow2_7 ⟨Nat.le_of_ble_eq_true rfl, Nat.le_of_ble_eq_true rfl⟩) (fun r1 M2 H locs hw3 hW hS => ?_)
  refine W.widen (k := 1) (n := 10) (Nat.le_refl _) (Nat.le_refl _) ?_
  obtain ⟨ar4, rfl, hf_o', hf_ar4', hfr5⟩ := hw3
  have hf_o : M2 o = some (4, .inr (4, [.int k, .ref ar4, .int (nI 0)])) := hf_o'
  have hf_ar4 : M2 ar4 = some (6, .inl (G.2.1 1, 10, .inr (.inr (.inr (.inr (fun _ => none)))))) := hf_ar4'
  have hF6 : gw_fg (gw_out [4, 6]) M M2 := gw_fg.tr gw_fg.rf (gw_fg.wk hfr5 (by decide))
  exact gw_aret hx hb hr hlocks (Or.inr ⟨_, rfl⟩) hS hW (Nat.le_of_ble_eq_true rfl) (Nat.le_of_ble_eq_true rfl) d_AL_grow2_10 (⟨ar4, rfl, hf_o, hf_ar4, hF6⟩)

set_option maxHeartbeats 4000000 in
set_option maxRecDepth 100000 in
theorem a_add3J (l : Launch) (G : gw_G) (M : gw_M) (o : Nat) (k : Int32) (g : Nat) (v1 : Nat) (v2 : Int32) (hf_o : M o = some (4, .inr (4, [.int k, .ref (G.2.2.1 0), .int (nI 0)]))) (hf_g : M g = some (10, .inr (3, [.ref v1, .int v2]))) : Met l y_AL_add [.code y_AL_add b_AL_add 4 none] ({ frames := 3, cells := 1, slots := 10, locals := 57 }) (gw_Pc G M [.ref o, .ref g, .ref (G.2.2.1 0), .int (nI 0)]) (gw_Qv G (fun M2 => ∃ (ar : Nat), M2 o = some (4, .inr (4, [.int k, .ref ar, .int ((nI 0) + 1)])) ∧ M2 ar = some (6, .inl (G.2.1 1, 10, .inr (.inr (.inr (.inr (va_up (fun _ => none) (nI 0 : Int32).toNatClampNeg (some g))))))) ∧ gw_fg (gw_out [4, 6]) M M2)) 1 10 (gw_A G) := by
  refine gw_start (by decide) (Nat.le_of_ble_eq_true rfl) (fun p9 e9 s m b9 mt9 c9 hx hb hr hml hown hlocks hin hE hB hW ls hl => ?_)
  have hts := hE.ts ([.ref o, .ref g, .ref (G.2.2.1 0), .int (nI 0)] : List Value).toArray
  have hl : lv_has ls 4 [(0, .ref o), (1, .ref g), (2, .ref (G.2.2.1 0)), (3, .int (nI 0))] := hl
  have hS : va_S (gw_A G) s.heap s.heap [] := va_S.rf
  have hown : s.vm.findClass "java/util/ArrayList" = some m.cls := hown
  refine lv_iload_n hx hb d_AL_add_0 rfl (lv_at hl 3 rfl) ?_
  refine lv_aload_n hx hb d_AL_add_1 rfl (lv_at hl 2 rfl) ?_
  refine va_tlen (v := 0) hx hb hE.2.2.2.1 hS rfl d_AL_add_2 ?_
  refine lv_icmp_ne (tgt := 11) hx hb d_AL_add_3 (by decide) (fun c3 => ?_) (fun c3 => ?_)
  · exact absurd (by decide) c3
  · refine lv_aload_n hx hb d_AL_add_6 rfl (lv_at hl 0 rfl) ?_
    refine gw_callr hS (va_runV (As := []) (rest := []) ⟨hx, hb, hml, hown, hts⟩ (a_growJ l G M o k hf_o ) (cwV 0 hts (gw_gv mw78 mw79 mw80 mw14 mw77) rfl rfl rfl (by decide +kernel) ⟨Nat.le_of_ble_eq_true rfl, Nat.le_of_ble_eq_true rfl⟩) (gw_pv hE hB hS hW rfl hf_o) rfl rfl hl.1 rfl (lv_room (Nat.le_of_ble_eq_true rfl)) d_AL_add_7 ⟨Nat.le_of_ble_eq_true rfl, Nat.le_of_ble_eq_true rfl⟩) (fun r1 M2 H locs hw3 hW hS => ?_)
    refine W.widen (k := 1) (n := 10) (Nat.le_refl _) (Nat.le_refl _) ?_
    obtain ⟨ar4, rfl, hf_o', hf_ar4', hfr5⟩ := hw3
    have hf_g : M2 g = some (10, .inr (3, [.ref v1, .int v2])) := (hfr5.1 _ _ _ (by decide)).mp hf_g
    have hf_o : M2 o = some (4, .inr (4, [.int k, .ref ar4, .int (nI 0)])) := hf_o'
    have hf_ar4 : M2 ar4 = some (6, .inl (G.2.1 1, 10, .inr (.inr (.inr (.inr (fun _ => none)))))) := hf_ar4'
    have hF6 : gw_fg (gw_out [4, 6]) M M2 := gw_fg.tr gw_fg.rf (gw_fg.wk hfr5 (by decide))
    refine lv_astore_n (lv' := [(2, .ref ar4), (0, .ref o), (1, .ref g), (3, .int (nI 0))]) hx hb d_AL_add_10 rfl hl (by decide) rfl (fun ls hl => ?_)
    refine lv_aload_n hx hb d_AL_add_11 rfl (lv_at hl 0 rfl) ?_
    refine lv_iload_n hx hb d_AL_add_12 rfl (lv_at hl 3 rfl) ?_
    refine lv_aload_n hx hb d_AL_add_13 rfl (lv_at hl 2 rfl) ?_
    refine gw_aastO (i := nI 0) (v := g) hx hb hE.K hW hS 1 3 hf_ar4 rfl (hE.nw mw88) hf_g rfl (show ¬ (nI 0 < 0 ∨ 10 ≤ (nI 0).toNatClampNeg) by decide) d_AL_add_14 (fun H locs hW hS => ?_)
    have hF7 : gw_fg (gw_out [4, 6]) M (gw_up M2 ar4 6 (.inl (G.2.1 1, 10, .inr (.inr (.inr (.inr (va_up (fun _ => none) (nI 0 : Int32).toNatClampNeg (some g)))))))) := gw_fg.up hF6 hf_ar4 (show ¬ ((gw_out [4, 6]) 6) by decide) (show ¬ ((gw_out [4, 6]) 6) by decide)
    obtain ⟨M8, eM8⟩ : ∃ z, z = gw_up M2 ar4 6 (.inl (G.2.1 1, 10, .inr (.inr (.inr (.inr (va_up (fun _ => none) (nI 0 : Int32).toNatClampNeg (some g))))))) := ⟨_, rfl⟩
    replace hW : gw_P G.1 vwCl G.2.2.2 M8 H := by rw [eM8]; exact hW
    have hf_o : M8 o = some (4, .inr (4, [.int k, .ref ar4, .int (nI 0)])) := by rw [eM8]; exact gw_keep hf_o hf_ar4 (by decide)
    have hf_g : M8 g = some (10, .inr (3, [.ref v1, .int v2])) := by rw [eM8]; exact gw_keep hf_g hf_ar4 (by decide)
    have hf_ar4 : M8 ar4 = some (6, .inl (G.2.1 1, 10, .inr (.inr (.inr (.inr (va_up (fun _ => none) (nI 0 : Int32).toNatClampNeg (some g))))))) := by rw [eM8]; exact gw_up_self _ _ _ _
    rw [← eM8] at hF7
    refine lv_aload_n hx hb d_AL_add_15 rfl (lv_at hl 1 rfl) ?_
    refine lv_iload_n hx hb d_AL_add_16 rfl (lv_at hl 3 rfl) ?_
    refine lv_iconst (v := 1) hx hb d_AL_add_17 (by decide) ?_
    refine lv_iadd hx hb d_AL_add_18 ?_
    refine gw_put (ci := 4) (fs := [.int k, .ref ar4, .int (nI 0)]) (v := .int ((nI 0) + 1)) (ty := .int) hx hb hts in_AL t_AL t_AL_ok n_AL hown hE.K hW hS hf_o rfl 2 (by decide) (hts _ mw0) (fun _ h9 => h9) rfl (by decide +kernel) rfl rfl (Nat.le_of_ble_eq_true rfl) d_AL_add_19 (fun H locs hW hS => ?_)
    have hF9 : gw_fg (gw_out [4, 6]) M (gw_up M8 o 4 (.inr (4, [.int k, .ref ar4, .int ((nI 0) + 1)]))) := gw_fg.up hF7 hf_o (show ¬ ((gw_out [4, 6]) 4) by decide) (show ¬ ((gw_out [4, 6]) 4) by decide)
    obtain ⟨M10, eM10⟩ : ∃ z, z = gw_up M8 o 4 (.inr (4, [.int k, .ref ar4, .int ((nI 0) + 1)])) := ⟨_, rfl⟩
    replace hW : gw_P G.1 vwCl G.2.2.2 M10 H := by rw [eM10]; exact hW
    have hf_g : M10 g = some (10, .inr (3, [.ref v1, .int v2])) := by rw [eM10]; exact gw_keep hf_g hf_o (by decide)
    have hf_ar4 : M10 ar4 = some (6, .inl (G.2.1 1, 10, .inr (.inr (.inr (.inr (va_up (fun _ => none) (nI 0 : Int32).toNatClampNeg (some g))))))) := by rw [eM10]; exact gw_keep hf_ar4 hf_o (by decide)
    have hf_o : M10 o = some (4, .inr (4, [.int k, .ref ar4, .int ((nI 0) + 1)])) := by rw [eM10]; exact gw_up_self _ _ _ _
    rw [← eM10] at hF9
    exact gw_vret hx hb hr hlocks hS hW (Nat.le_of_ble_eq_true rfl) (Nat.le_of_ble_eq_true rfl) d_AL_add_22 (⟨ar4, hf_o, hf_ar4, hF9⟩)

set_option maxHeartbeats 4000000 in
set_option maxRecDepth 100000 in
theorem a_addJ (l : Launch) (G : gw_G) (M : gw_M) (o : Nat) (k : Int32) (g : Nat) (v1 : Nat) (v2 : Int32) (hf_o : M o = some (4, .inr (4, [.int k, .ref (G.2.2.1 0), .int (nI 0)]))) (hf_g : M g = some (10, .inr (3, [.ref v1, .int v2]))) : Met l y_AL_add2 [.code y_AL_add2 b_AL_add2 2 (some .boolean)] ({ frames := 6, cells := 1, slots := 1000, locals := 200 }) (gw_Pc G M [.ref o, .ref g]) (gw_Qi G (fun r M2 => ∃ (ar : Nat), 1 = r ∧ M2 o = some (4, .inr (4, [.int (k + 1), .ref ar, .int ((nI 0) + 1)])) ∧ M2 ar = some (6, .inl (G.2.1 1, 10, .inr (.inr (.inr (.inr (va_up (fun _ => none) (nI 0 : Int32).toNatClampNeg (some g))))))) ∧ gw_fg (gw_out [4, 6]) M M2)) 1 1000 (gw_A G) := by
  refine gw_start (by decide) (Nat.le_of_ble_eq_true rfl) (fun p9 e9 s m b9 mt9 c9 hx hb hr hml hown hlocks hin hE hB hW ls hl => ?_)
  have hts := hE.ts ([.ref o, .ref g] : List Value).toArray
  have hl : lv_has ls 2 [(0, .ref o), (1, .ref g)] := hl
  have hS : va_S (gw_A G) s.heap s.heap [] := va_S.rf
  have hown : s.vm.findClass "java/util/ArrayList" = some m.cls := hown
  refine lv_aload_n hx hb d_AL_add2_0 rfl (lv_at hl 0 rfl) ?_
  refine lv_dup hx hb d_AL_add2_1 rfl ?_
  refine gw_get (ci := 4) (fs := [.int k, .ref (G.2.2.1 0), .int (nI 0)]) hx hb hts in_AL hown hE.K hW hf_o rfl 0 (by decide) (hts _ mw83) (fun x h9 => u_same (hts _ mw82) x h9) rfl d_AL_add2_2 ?_
  refine lv_iconst (v := 1) hx hb d_AL_add2_5 (by decide) ?_
  refine lv_iadd hx hb d_AL_add2_6 ?_
  refine gw_put (ci := 4) (fs := [.int k, .ref (G.2.2.1 0), .int (nI 0)]) (v := .int (k + 1)) (ty := .int) hx hb hts in_AL t_AL t_AL_ok n_AL hown hE.K hW hS hf_o rfl 0 (by decide) (hts _ mw83) (fun x h9 => u_same (hts _ mw82) x h9) rfl (by decide +kernel) rfl rfl (Nat.le_of_ble_eq_true rfl) d_AL_add2_7 (fun H locs hW hS => ?_)
  have hF1 : gw_fg (gw_out [4, 6]) M (gw_up M o 4 (.inr (4, [.int (k + 1), .ref (G.2.2.1 0), .int (nI 0)]))) := gw_fg.up gw_fg.rf hf_o (show ¬ ((gw_out [4, 6]) 4) by decide) (show ¬ ((gw_out [4, 6]) 4) by decide)
  obtain ⟨M2, eM2⟩ : ∃ z, z = gw_up M o 4 (.inr (4, [.int (k + 1), .ref (G.2.2.1 0), .int (nI 0)])) := ⟨_, rfl⟩
  replace hW : gw_P G.1 vwCl G.2.2.2 M2 H := by rw [eM2]; exact hW
  have hf_g : M2 g = some (10, .inr (3, [.ref v1, .int v2])) := by rw [eM2]; exact gw_keep hf_g hf_o (by decide)
  have hf_o : M2 o = some (4, .inr (4, [.int (k + 1), .ref (G.2.2.1 0), .int (nI 0)])) := by rw [eM2]; exact gw_up_self _ _ _ _
  rw [← eM2] at hF1
  refine lv_aload_n hx hb d_AL_add2_10 rfl (lv_at hl 0 rfl) ?_
  refine lv_aload_n hx hb d_AL_add2_11 rfl (lv_at hl 1 rfl) ?_
  refine lv_aload_n hx hb d_AL_add2_12 rfl (lv_at hl 0 rfl) ?_
  refine gw_get (ci := 4) (fs := [.int (k + 1), .ref (G.2.2.1 0), .int (nI 0)]) hx hb hts in_AL hown hE.K hW hf_o rfl 1 (by decide) (hts _ mw5) (fun _ h9 => h9) rfl d_AL_add2_13 ?_
  refine lv_aload_n hx hb d_AL_add2_16 rfl (lv_at hl 0 rfl) ?_
  refine gw_get (ci := 4) (fs := [.int (k + 1), .ref (G.2.2.1 0), .int (nI 0)]) hx hb hts in_AL hown hE.K hW hf_o rfl 2 (by decide) (hts _ mw0) (fun _ h9 => h9) rfl d_AL_add2_17 ?_
  refine gw_callv hS (va_runV (As := [.ref g, .ref (G.2.2.1 0), .int (nI 0)]) (rest := []) ⟨hx, hb, hml, hown, hts⟩ (a_add3J l G M2 o (k + 1) g v1 v2 hf_o hf_g ) (cwV 3 hts (gw_gv mw85 mw86 mw87 mw14 mw84) rfl rfl rfl (by decide +kernel) ⟨Nat.le_of_ble_eq_true rfl, Nat.le_of_ble_eq_true rfl⟩) (gw_pv hE hB hS hW rfl hf_o) rfl rfl hl.1 rfl (lv_room (Nat.le_of_ble_eq_true rfl)) d_AL_add2_20 ⟨Nat.le_of_ble_eq_true rfl, Nat.le_of_ble_eq_true rfl⟩) (fun M4 H locs hw5 hW hS => ?_)
  refine W.widen (k := 1) (n := 10) (Nat.le_refl _) (Nat.le_refl _) ?_
  obtain ⟨ar6, hf_o', hf_ar6', hfr7⟩ := hw5
  have hf_g : M4 g = some (10, .inr (3, [.ref v1, .int v2])) := (hfr7.1 _ _ _ (by decide)).mp hf_g
  have hf_o : M4 o = some (4, .inr (4, [.int (k + 1), .ref ar6, .int ((nI 0) + 1)])) := hf_o'
  have hf_ar6 : M4 ar6 = some (6, .inl (G.2.1 1, 10, .inr (.inr (.inr (.inr (va_up (fun _ => none) (nI 0 : Int32).toNatClampNeg (some g))))))) := hf_ar6'
  have hF8 : gw_fg (gw_out [4, 6]) M M4 := gw_fg.tr hF1 (gw_fg.wk hfr7 (by decide))
  refine lv_iconst (v := 1) hx hb d_AL_add2_23 (by decide) ?_
  exact gw_zret hx hb hr hlocks rfl hS hW (Nat.le_of_ble_eq_true rfl) (Nat.le_of_ble_eq_true rfl) d_AL_add2_24 (⟨ar6, rfl, hf_o, hf_ar6, hF8⟩)

set_option maxHeartbeats 4000000 in
set_option maxRecDepth 100000 in
theorem b_add3K (l : Launch) (G : gw_G) (M : gw_M) (o : Nat) (k : Int32) (a : Nat) (n : Nat) (cap : Nat) (f : Nat → Option Nat) (g : Nat) (v1 : Int32) (v2 : Int32) (v3 : Int32) (v4 : Int32) (v5 : Int32) (hf_o : M o = some (5, .inr (4, [.int k, .ref a, .int (nI n)]))) (hf_a : M a = some (7, .inl (G.2.1 1, cap, .inr (.inr (.inr (.inr f)))))) (hf_g : M g = some (9, .inr (2, [.int v1, .int v2, .int v3, .int v4, .int v5]))) (hn : n < cap) (hc : cap ≤ 1000) : Met l y_AL_add [.code y_AL_add b_AL_add 4 none] ({ frames := 0, cells := 0, slots := 0, locals := 0 }) (gw_Pc G M [.ref o, .ref g, .ref a, .int (nI n)]) (gw_Qv G (fun M2 => M2 o = some (5, .inr (4, [.int k, .ref a, .int ((nI n) + 1)])) ∧ M2 a = some (7, .inl (G.2.1 1, cap, .inr (.inr (.inr (.inr (va_up f (nI n : Int32).toNatClampNeg (some g))))))) ∧ gw_fg (gw_out [5, 7]) M M2)) 0 0 (gw_A G) := by
  refine gw_start (by decide) (Nat.le_of_ble_eq_true rfl) (fun p9 e9 s m b9 mt9 c9 hx hb hr hml hown hlocks hin hE hB hW ls hl => ?_)
  have hts := hE.ts ([.ref o, .ref g, .ref a, .int (nI n)] : List Value).toArray
  have hl : lv_has ls 4 [(0, .ref o), (1, .ref g), (2, .ref a), (3, .int (nI n))] := hl
  have hS : va_S (gw_A G) s.heap s.heap [] := va_S.rf
  have hown : s.vm.findClass "java/util/ArrayList" = some m.cls := hown
  refine lv_iload_n hx hb d_AL_add_0 rfl (lv_at hl 3 rfl) ?_
  refine lv_aload_n hx hb d_AL_add_1 rfl (lv_at hl 2 rfl) ?_
  refine gw_alen (v := nI cap) hx hb hE.K hW 1 hf_a rfl rfl d_AL_add_2 ?_
  refine lv_icmp_ne (tgt := 11) hx hb d_AL_add_3 (by decide) (fun c3 => ?_) (fun c3 => ?_)
  · refine lv_aload_n hx hb d_AL_add_11 rfl (lv_at hl 2 rfl) ?_
    refine lv_iload_n hx hb d_AL_add_12 rfl (lv_at hl 3 rfl) ?_
    refine lv_aload_n hx hb d_AL_add_13 rfl (lv_at hl 1 rfl) ?_
    refine gw_aastO (i := nI n) (v := g) hx hb hE.K hW hS 1 2 hf_a rfl (hE.nw mw81) hf_g rfl (vp_in_nI hn (by omega)) d_AL_add_14 (fun H locs hW hS => ?_)
    have hF1 : gw_fg (gw_out [5, 7]) M (gw_up M a 7 (.inl (G.2.1 1, cap, .inr (.inr (.inr (.inr (va_up f (nI n : Int32).toNatClampNeg (some g)))))))) := gw_fg.up gw_fg.rf hf_a (show ¬ ((gw_out [5, 7]) 7) by decide) (show ¬ ((gw_out [5, 7]) 7) by decide)
    obtain ⟨M2, eM2⟩ : ∃ z, z = gw_up M a 7 (.inl (G.2.1 1, cap, .inr (.inr (.inr (.inr (va_up f (nI n : Int32).toNatClampNeg (some g))))))) := ⟨_, rfl⟩
    replace hW : gw_P G.1 vwCl G.2.2.2 M2 H := by rw [eM2]; exact hW
    have hf_o : M2 o = some (5, .inr (4, [.int k, .ref a, .int (nI n)])) := by rw [eM2]; exact gw_keep hf_o hf_a (by decide)
    have hf_g : M2 g = some (9, .inr (2, [.int v1, .int v2, .int v3, .int v4, .int v5])) := by rw [eM2]; exact gw_keep hf_g hf_a (by decide)
    have hf_a : M2 a = some (7, .inl (G.2.1 1, cap, .inr (.inr (.inr (.inr (va_up f (nI n : Int32).toNatClampNeg (some g))))))) := by rw [eM2]; exact gw_up_self _ _ _ _
    rw [← eM2] at hF1
    refine lv_aload_n hx hb d_AL_add_15 rfl (lv_at hl 0 rfl) ?_
    refine lv_iload_n hx hb d_AL_add_16 rfl (lv_at hl 3 rfl) ?_
    refine lv_iconst (v := 1) hx hb d_AL_add_17 (by decide) ?_
    refine lv_iadd hx hb d_AL_add_18 ?_
    refine gw_put (ci := 4) (fs := [.int k, .ref a, .int (nI n)]) (v := .int ((nI n) + 1)) (ty := .int) hx hb hts in_AL t_AL t_AL_ok n_AL hown hE.K hW hS hf_o rfl 2 (by decide) (hts _ mw0) (fun _ h9 => h9) rfl (by decide +kernel) rfl rfl (Nat.le_of_ble_eq_true rfl) d_AL_add_19 (fun H locs hW hS => ?_)
    have hF3 : gw_fg (gw_out [5, 7]) M (gw_up M2 o 5 (.inr (4, [.int k, .ref a, .int ((nI n) + 1)]))) := gw_fg.up hF1 hf_o (show ¬ ((gw_out [5, 7]) 5) by decide) (show ¬ ((gw_out [5, 7]) 5) by decide)
    obtain ⟨M4, eM4⟩ : ∃ z, z = gw_up M2 o 5 (.inr (4, [.int k, .ref a, .int ((nI n) + 1)])) := ⟨_, rfl⟩
    replace hW : gw_P G.1 vwCl G.2.2.2 M4 H := by rw [eM4]; exact hW
    have hf_g : M4 g = some (9, .inr (2, [.int v1, .int v2, .int v3, .int v4, .int v5])) := by rw [eM4]; exact gw_keep hf_g hf_o (by decide)
    have hf_a : M4 a = some (7, .inl (G.2.1 1, cap, .inr (.inr (.inr (.inr (va_up f (nI n : Int32).toNatClampNeg (some g))))))) := by rw [eM4]; exact gw_keep hf_a hf_o (by decide)
    have hf_o : M4 o = some (5, .inr (4, [.int k, .ref a, .int ((nI n) + 1)])) := by rw [eM4]; exact gw_up_self _ _ _ _
    rw [← eM4] at hF3
    exact gw_vret hx hb hr hlocks hS hW (Nat.le_of_ble_eq_true rfl) (Nat.le_of_ble_eq_true rfl) d_AL_add_22 (⟨hf_o, hf_a, hF3⟩)
  · exact absurd ((nI_eq (by omega) (by omega)).mp c3) (by omega)

set_option maxHeartbeats 4000000 in
set_option maxRecDepth 100000 in
theorem b_addK (l : Launch) (G : gw_G) (M : gw_M) (o : Nat) (k : Int32) (a : Nat) (n : Nat) (cap : Nat) (f : Nat → Option Nat) (g : Nat) (v1 : Int32) (v2 : Int32) (v3 : Int32) (v4 : Int32) (v5 : Int32) (hf_o : M o = some (5, .inr (4, [.int k, .ref a, .int (nI n)]))) (hf_a : M a = some (7, .inl (G.2.1 1, cap, .inr (.inr (.inr (.inr f)))))) (hf_g : M g = some (9, .inr (2, [.int v1, .int v2, .int v3, .int v4, .int v5]))) (hn : n < cap) (hc : cap ≤ 1000) : Met l y_AL_add2 [.code y_AL_add2 b_AL_add2 2 (some .boolean)] ({ frames := 6, cells := 1, slots := 1000, locals := 200 }) (gw_Pc G M [.ref o, .ref g]) (gw_Qi G (fun r M2 => 1 = r ∧ M2 o = some (5, .inr (4, [.int (k + 1), .ref a, .int ((nI n) + 1)])) ∧ M2 a = some (7, .inl (G.2.1 1, cap, .inr (.inr (.inr (.inr (va_up f (nI n : Int32).toNatClampNeg (some g))))))) ∧ gw_fg (gw_out [5, 7]) M M2)) 1 1000 (gw_A G) := by
  refine gw_start (by decide) (Nat.le_of_ble_eq_true rfl) (fun p9 e9 s m b9 mt9 c9 hx hb hr hml hown hlocks hin hE hB hW ls hl => ?_)
  have hts := hE.ts ([.ref o, .ref g] : List Value).toArray
  have hl : lv_has ls 2 [(0, .ref o), (1, .ref g)] := hl
  have hS : va_S (gw_A G) s.heap s.heap [] := va_S.rf
  have hown : s.vm.findClass "java/util/ArrayList" = some m.cls := hown
  refine lv_aload_n hx hb d_AL_add2_0 rfl (lv_at hl 0 rfl) ?_
  refine lv_dup hx hb d_AL_add2_1 rfl ?_
  refine gw_get (ci := 4) (fs := [.int k, .ref a, .int (nI n)]) hx hb hts in_AL hown hE.K hW hf_o rfl 0 (by decide) (hts _ mw83) (fun x h9 => u_same (hts _ mw82) x h9) rfl d_AL_add2_2 ?_
  refine lv_iconst (v := 1) hx hb d_AL_add2_5 (by decide) ?_
  refine lv_iadd hx hb d_AL_add2_6 ?_
  refine gw_put (ci := 4) (fs := [.int k, .ref a, .int (nI n)]) (v := .int (k + 1)) (ty := .int) hx hb hts in_AL t_AL t_AL_ok n_AL hown hE.K hW hS hf_o rfl 0 (by decide) (hts _ mw83) (fun x h9 => u_same (hts _ mw82) x h9) rfl (by decide +kernel) rfl rfl (Nat.le_of_ble_eq_true rfl) d_AL_add2_7 (fun H locs hW hS => ?_)
  have hF1 : gw_fg (gw_out [5, 7]) M (gw_up M o 5 (.inr (4, [.int (k + 1), .ref a, .int (nI n)]))) := gw_fg.up gw_fg.rf hf_o (show ¬ ((gw_out [5, 7]) 5) by decide) (show ¬ ((gw_out [5, 7]) 5) by decide)
  obtain ⟨M2, eM2⟩ : ∃ z, z = gw_up M o 5 (.inr (4, [.int (k + 1), .ref a, .int (nI n)])) := ⟨_, rfl⟩
  replace hW : gw_P G.1 vwCl G.2.2.2 M2 H := by rw [eM2]; exact hW
  have hf_a : M2 a = some (7, .inl (G.2.1 1, cap, .inr (.inr (.inr (.inr f))))) := by rw [eM2]; exact gw_keep hf_a hf_o (by decide)
  have hf_g : M2 g = some (9, .inr (2, [.int v1, .int v2, .int v3, .int v4, .int v5])) := by rw [eM2]; exact gw_keep hf_g hf_o (by decide)
  have hf_o : M2 o = some (5, .inr (4, [.int (k + 1), .ref a, .int (nI n)])) := by rw [eM2]; exact gw_up_self _ _ _ _
  rw [← eM2] at hF1
  refine lv_aload_n hx hb d_AL_add2_10 rfl (lv_at hl 0 rfl) ?_
  refine lv_aload_n hx hb d_AL_add2_11 rfl (lv_at hl 1 rfl) ?_
  refine lv_aload_n hx hb d_AL_add2_12 rfl (lv_at hl 0 rfl) ?_
  refine gw_get (ci := 4) (fs := [.int (k + 1), .ref a, .int (nI n)]) hx hb hts in_AL hown hE.K hW hf_o rfl 1 (by decide) (hts _ mw5) (fun _ h9 => h9) rfl d_AL_add2_13 ?_
  refine lv_aload_n hx hb d_AL_add2_16 rfl (lv_at hl 0 rfl) ?_
  refine gw_get (ci := 4) (fs := [.int (k + 1), .ref a, .int (nI n)]) hx hb hts in_AL hown hE.K hW hf_o rfl 2 (by decide) (hts _ mw0) (fun _ h9 => h9) rfl d_AL_add2_17 ?_
  refine gw_callv hS (va_runV (As := [.ref g, .ref a, .int (nI n)]) (rest := []) ⟨hx, hb, hml, hown, hts⟩ (b_add3K l G M2 o (k + 1) a n cap f g v1 v2 v3 v4 v5 hf_o hf_a hf_g (by assumption) (by assumption)) (cwV 3 hts (gw_gv mw85 mw86 mw87 mw14 mw84) rfl rfl rfl (by decide +kernel) ⟨Nat.le_of_ble_eq_true rfl, Nat.le_of_ble_eq_true rfl⟩) (gw_pv hE hB hS hW rfl hf_o) rfl rfl hl.1 rfl (lv_room (Nat.le_of_ble_eq_true rfl)) d_AL_add2_20 ⟨Nat.le_of_ble_eq_true rfl, Nat.le_of_ble_eq_true rfl⟩) (fun M4 H locs hw5 hW hS => ?_)
  obtain ⟨hf_o', hf_a', hfr6⟩ := hw5
  have hf_g : M4 g = some (9, .inr (2, [.int v1, .int v2, .int v3, .int v4, .int v5])) := (hfr6.1 _ _ _ (by decide)).mp hf_g
  have hf_o : M4 o = some (5, .inr (4, [.int (k + 1), .ref a, .int ((nI n) + 1)])) := hf_o'
  have hf_a : M4 a = some (7, .inl (G.2.1 1, cap, .inr (.inr (.inr (.inr (va_up f (nI n : Int32).toNatClampNeg (some g))))))) := hf_a'
  have hF7 : gw_fg (gw_out [5, 7]) M M4 := gw_fg.tr hF1 (gw_fg.wk hfr6 (by decide))
  refine lv_iconst (v := 1) hx hb d_AL_add2_23 (by decide) ?_
  exact gw_zret hx hb hr hlocks rfl hS hW (Nat.le_of_ble_eq_true rfl) (Nat.le_of_ble_eq_true rfl) d_AL_add2_24 (⟨rfl, hf_o, hf_a, hF7⟩)

set_option maxHeartbeats 4000000 in
set_option maxRecDepth 100000 in
theorem b_add3J (l : Launch) (G : gw_G) (M : gw_M) (o : Nat) (k : Int32) (a : Nat) (n : Nat) (cap : Nat) (f : Nat → Option Nat) (g : Nat) (v1 : Nat) (v2 : Int32) (hf_o : M o = some (4, .inr (4, [.int k, .ref a, .int (nI n)]))) (hf_a : M a = some (6, .inl (G.2.1 1, cap, .inr (.inr (.inr (.inr f)))))) (hf_g : M g = some (10, .inr (3, [.ref v1, .int v2]))) (hn : n < cap) (hc : cap ≤ 1000) : Met l y_AL_add [.code y_AL_add b_AL_add 4 none] ({ frames := 0, cells := 0, slots := 0, locals := 0 }) (gw_Pc G M [.ref o, .ref g, .ref a, .int (nI n)]) (gw_Qv G (fun M2 => M2 o = some (4, .inr (4, [.int k, .ref a, .int ((nI n) + 1)])) ∧ M2 a = some (6, .inl (G.2.1 1, cap, .inr (.inr (.inr (.inr (va_up f (nI n : Int32).toNatClampNeg (some g))))))) ∧ gw_fg (gw_out [4, 6]) M M2)) 0 0 (gw_A G) := by
  refine gw_start (by decide) (Nat.le_of_ble_eq_true rfl) (fun p9 e9 s m b9 mt9 c9 hx hb hr hml hown hlocks hin hE hB hW ls hl => ?_)
  have hts := hE.ts ([.ref o, .ref g, .ref a, .int (nI n)] : List Value).toArray
  have hl : lv_has ls 4 [(0, .ref o), (1, .ref g), (2, .ref a), (3, .int (nI n))] := hl
  have hS : va_S (gw_A G) s.heap s.heap [] := va_S.rf
  have hown : s.vm.findClass "java/util/ArrayList" = some m.cls := hown
  refine lv_iload_n hx hb d_AL_add_0 rfl (lv_at hl 3 rfl) ?_
  refine lv_aload_n hx hb d_AL_add_1 rfl (lv_at hl 2 rfl) ?_
  refine gw_alen (v := nI cap) hx hb hE.K hW 1 hf_a rfl rfl d_AL_add_2 ?_
  refine lv_icmp_ne (tgt := 11) hx hb d_AL_add_3 (by decide) (fun c3 => ?_) (fun c3 => ?_)
  · refine lv_aload_n hx hb d_AL_add_11 rfl (lv_at hl 2 rfl) ?_
    refine lv_iload_n hx hb d_AL_add_12 rfl (lv_at hl 3 rfl) ?_
    refine lv_aload_n hx hb d_AL_add_13 rfl (lv_at hl 1 rfl) ?_
    refine gw_aastO (i := nI n) (v := g) hx hb hE.K hW hS 1 3 hf_a rfl (hE.nw mw88) hf_g rfl (vp_in_nI hn (by omega)) d_AL_add_14 (fun H locs hW hS => ?_)
    have hF1 : gw_fg (gw_out [4, 6]) M (gw_up M a 6 (.inl (G.2.1 1, cap, .inr (.inr (.inr (.inr (va_up f (nI n : Int32).toNatClampNeg (some g)))))))) := gw_fg.up gw_fg.rf hf_a (show ¬ ((gw_out [4, 6]) 6) by decide) (show ¬ ((gw_out [4, 6]) 6) by decide)
    obtain ⟨M2, eM2⟩ : ∃ z, z = gw_up M a 6 (.inl (G.2.1 1, cap, .inr (.inr (.inr (.inr (va_up f (nI n : Int32).toNatClampNeg (some g))))))) := ⟨_, rfl⟩
    replace hW : gw_P G.1 vwCl G.2.2.2 M2 H := by rw [eM2]; exact hW
    have hf_o : M2 o = some (4, .inr (4, [.int k, .ref a, .int (nI n)])) := by rw [eM2]; exact gw_keep hf_o hf_a (by decide)
    have hf_g : M2 g = some (10, .inr (3, [.ref v1, .int v2])) := by rw [eM2]; exact gw_keep hf_g hf_a (by decide)
    have hf_a : M2 a = some (6, .inl (G.2.1 1, cap, .inr (.inr (.inr (.inr (va_up f (nI n : Int32).toNatClampNeg (some g))))))) := by rw [eM2]; exact gw_up_self _ _ _ _
    rw [← eM2] at hF1
    refine lv_aload_n hx hb d_AL_add_15 rfl (lv_at hl 0 rfl) ?_
    refine lv_iload_n hx hb d_AL_add_16 rfl (lv_at hl 3 rfl) ?_
    refine lv_iconst (v := 1) hx hb d_AL_add_17 (by decide) ?_
    refine lv_iadd hx hb d_AL_add_18 ?_
    refine gw_put (ci := 4) (fs := [.int k, .ref a, .int (nI n)]) (v := .int ((nI n) + 1)) (ty := .int) hx hb hts in_AL t_AL t_AL_ok n_AL hown hE.K hW hS hf_o rfl 2 (by decide) (hts _ mw0) (fun _ h9 => h9) rfl (by decide +kernel) rfl rfl (Nat.le_of_ble_eq_true rfl) d_AL_add_19 (fun H locs hW hS => ?_)
    have hF3 : gw_fg (gw_out [4, 6]) M (gw_up M2 o 4 (.inr (4, [.int k, .ref a, .int ((nI n) + 1)]))) := gw_fg.up hF1 hf_o (show ¬ ((gw_out [4, 6]) 4) by decide) (show ¬ ((gw_out [4, 6]) 4) by decide)
    obtain ⟨M4, eM4⟩ : ∃ z, z = gw_up M2 o 4 (.inr (4, [.int k, .ref a, .int ((nI n) + 1)])) := ⟨_, rfl⟩
    replace hW : gw_P G.1 vwCl G.2.2.2 M4 H := by rw [eM4]; exact hW
    have hf_g : M4 g = some (10, .inr (3, [.ref v1, .int v2])) := by rw [eM4]; exact gw_keep hf_g hf_o (by decide)
    have hf_a : M4 a = some (6, .inl (G.2.1 1, cap, .inr (.inr (.inr (.inr (va_up f (nI n : Int32).toNatClampNeg (some g))))))) := by rw [eM4]; exact gw_keep hf_a hf_o (by decide)
    have hf_o : M4 o = some (4, .inr (4, [.int k, .ref a, .int ((nI n) + 1)])) := by rw [eM4]; exact gw_up_self _ _ _ _
    rw [← eM4] at hF3
    exact gw_vret hx hb hr hlocks hS hW (Nat.le_of_ble_eq_true rfl) (Nat.le_of_ble_eq_true rfl) d_AL_add_22 (⟨hf_o, hf_a, hF3⟩)
  · exact absurd ((nI_eq (by omega) (by omega)).mp c3) (by omega)

set_option maxHeartbeats 4000000 in
set_option maxRecDepth 100000 in
theorem b_addJ (l : Launch) (G : gw_G) (M : gw_M) (o : Nat) (k : Int32) (a : Nat) (n : Nat) (cap : Nat) (f : Nat → Option Nat) (g : Nat) (v1 : Nat) (v2 : Int32) (hf_o : M o = some (4, .inr (4, [.int k, .ref a, .int (nI n)]))) (hf_a : M a = some (6, .inl (G.2.1 1, cap, .inr (.inr (.inr (.inr f)))))) (hf_g : M g = some (10, .inr (3, [.ref v1, .int v2]))) (hn : n < cap) (hc : cap ≤ 1000) : Met l y_AL_add2 [.code y_AL_add2 b_AL_add2 2 (some .boolean)] ({ frames := 6, cells := 1, slots := 1000, locals := 200 }) (gw_Pc G M [.ref o, .ref g]) (gw_Qi G (fun r M2 => 1 = r ∧ M2 o = some (4, .inr (4, [.int (k + 1), .ref a, .int ((nI n) + 1)])) ∧ M2 a = some (6, .inl (G.2.1 1, cap, .inr (.inr (.inr (.inr (va_up f (nI n : Int32).toNatClampNeg (some g))))))) ∧ gw_fg (gw_out [4, 6]) M M2)) 1 1000 (gw_A G) := by
  refine gw_start (by decide) (Nat.le_of_ble_eq_true rfl) (fun p9 e9 s m b9 mt9 c9 hx hb hr hml hown hlocks hin hE hB hW ls hl => ?_)
  have hts := hE.ts ([.ref o, .ref g] : List Value).toArray
  have hl : lv_has ls 2 [(0, .ref o), (1, .ref g)] := hl
  have hS : va_S (gw_A G) s.heap s.heap [] := va_S.rf
  have hown : s.vm.findClass "java/util/ArrayList" = some m.cls := hown
  refine lv_aload_n hx hb d_AL_add2_0 rfl (lv_at hl 0 rfl) ?_
  refine lv_dup hx hb d_AL_add2_1 rfl ?_
  refine gw_get (ci := 4) (fs := [.int k, .ref a, .int (nI n)]) hx hb hts in_AL hown hE.K hW hf_o rfl 0 (by decide) (hts _ mw83) (fun x h9 => u_same (hts _ mw82) x h9) rfl d_AL_add2_2 ?_
  refine lv_iconst (v := 1) hx hb d_AL_add2_5 (by decide) ?_
  refine lv_iadd hx hb d_AL_add2_6 ?_
  refine gw_put (ci := 4) (fs := [.int k, .ref a, .int (nI n)]) (v := .int (k + 1)) (ty := .int) hx hb hts in_AL t_AL t_AL_ok n_AL hown hE.K hW hS hf_o rfl 0 (by decide) (hts _ mw83) (fun x h9 => u_same (hts _ mw82) x h9) rfl (by decide +kernel) rfl rfl (Nat.le_of_ble_eq_true rfl) d_AL_add2_7 (fun H locs hW hS => ?_)
  have hF1 : gw_fg (gw_out [4, 6]) M (gw_up M o 4 (.inr (4, [.int (k + 1), .ref a, .int (nI n)]))) := gw_fg.up gw_fg.rf hf_o (show ¬ ((gw_out [4, 6]) 4) by decide) (show ¬ ((gw_out [4, 6]) 4) by decide)
  obtain ⟨M2, eM2⟩ : ∃ z, z = gw_up M o 4 (.inr (4, [.int (k + 1), .ref a, .int (nI n)])) := ⟨_, rfl⟩
  replace hW : gw_P G.1 vwCl G.2.2.2 M2 H := by rw [eM2]; exact hW
  have hf_a : M2 a = some (6, .inl (G.2.1 1, cap, .inr (.inr (.inr (.inr f))))) := by rw [eM2]; exact gw_keep hf_a hf_o (by decide)
  have hf_g : M2 g = some (10, .inr (3, [.ref v1, .int v2])) := by rw [eM2]; exact gw_keep hf_g hf_o (by decide)
  have hf_o : M2 o = some (4, .inr (4, [.int (k + 1), .ref a, .int (nI n)])) := by rw [eM2]; exact gw_up_self _ _ _ _
  rw [← eM2] at hF1
  refine lv_aload_n hx hb d_AL_add2_10 rfl (lv_at hl 0 rfl) ?_
  refine lv_aload_n hx hb d_AL_add2_11 rfl (lv_at hl 1 rfl) ?_
  refine lv_aload_n hx hb d_AL_add2_12 rfl (lv_at hl 0 rfl) ?_
  refine gw_get (ci := 4) (fs := [.int (k + 1), .ref a, .int (nI n)]) hx hb hts in_AL hown hE.K hW hf_o rfl 1 (by decide) (hts _ mw5) (fun _ h9 => h9) rfl d_AL_add2_13 ?_
  refine lv_aload_n hx hb d_AL_add2_16 rfl (lv_at hl 0 rfl) ?_
  refine gw_get (ci := 4) (fs := [.int (k + 1), .ref a, .int (nI n)]) hx hb hts in_AL hown hE.K hW hf_o rfl 2 (by decide) (hts _ mw0) (fun _ h9 => h9) rfl d_AL_add2_17 ?_
  refine gw_callv hS (va_runV (As := [.ref g, .ref a, .int (nI n)]) (rest := []) ⟨hx, hb, hml, hown, hts⟩ (b_add3J l G M2 o (k + 1) a n cap f g v1 v2 hf_o hf_a hf_g (by assumption) (by assumption)) (cwV 3 hts (gw_gv mw85 mw86 mw87 mw14 mw84) rfl rfl rfl (by decide +kernel) ⟨Nat.le_of_ble_eq_true rfl, Nat.le_of_ble_eq_true rfl⟩) (gw_pv hE hB hS hW rfl hf_o) rfl rfl hl.1 rfl (lv_room (Nat.le_of_ble_eq_true rfl)) d_AL_add2_20 ⟨Nat.le_of_ble_eq_true rfl, Nat.le_of_ble_eq_true rfl⟩) (fun M4 H locs hw5 hW hS => ?_)
  obtain ⟨hf_o', hf_a', hfr6⟩ := hw5
  have hf_g : M4 g = some (10, .inr (3, [.ref v1, .int v2])) := (hfr6.1 _ _ _ (by decide)).mp hf_g
  have hf_o : M4 o = some (4, .inr (4, [.int (k + 1), .ref a, .int ((nI n) + 1)])) := hf_o'
  have hf_a : M4 a = some (6, .inl (G.2.1 1, cap, .inr (.inr (.inr (.inr (va_up f (nI n : Int32).toNatClampNeg (some g))))))) := hf_a'
  have hF7 : gw_fg (gw_out [4, 6]) M M4 := gw_fg.tr hF1 (gw_fg.wk hfr6 (by decide))
  refine lv_iconst (v := 1) hx hb d_AL_add2_23 (by decide) ?_
  exact gw_zret hx hb hr hlocks rfl hS hW (Nat.le_of_ble_eq_true rfl) (Nat.le_of_ble_eq_true rfl) d_AL_add2_24 (⟨rfl, hf_o, hf_a, hF7⟩)
