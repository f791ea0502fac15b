set_option maxHeartbeats 4000000 in
set_option maxRecDepth 100000 in
theorem c_placeFor (l : Launch) (G : gw_G) (M : gw_M) (x : Nat) (row : Nat) (jobs : Nat) (known : Nat) (nowh : Nat) (gone : Nat) (lim : Int32) (sc : Int32) (k : Int32) (hf_x : M x = some (1, .inr (0, [.int lim, .int sc, .int 0, .ref row, .ref jobs, .ref known, .ref nowh, .ref gone, .int 0]))) (hf_known : M known = some (5, .inr (4, [.int 0, .ref (G.2.2.1 0), .int 0]))) (hf_nowh : M nowh = some (12, .inr (2, [.int 0, .int 0, .int 0, .int 0, .int 0]))) (hk : ¬ (0 : Int32) = k) : Met l y_X_placeFor [.code y_X_placeFor b_X_placeFor 3 (some (.object "Generations$Generation"))] ({ frames := 5, cells := 2, slots := 15, locals := 101 }) (gw_Pc G M [.ref x, .int k]) (gw_Qr G (fun r M2 => ∃ (g : Nat), g = r ∧ M2 g = some (9, .inr (2, [.int k, .int 0, .int 0, .int 0, .int 0])) ∧ gw_fr (gw_out [5, 7, 9]) M M2)) 2 15 (gw_A G) := by
  refine gw_start (by decide) (Nat.le_of_ble_eq_true rfl) (fun p9 e9 s m b9 mt9 c9 hx hb hr hml hown hlocks hin hE hB hW ls hl => ?_)
  have hts := hE.ts ([.ref x, .int k] : List Value).toArray
  have hl : lv_has ls 3 [(0, .ref x), (1, .int k)] := hl
  have hS : va_S (gw_A G) s.heap s.heap [] := va_S.rf
  have hown : s.vm.findClass "Generations" = some m.cls := hown
  refine lv_aload_n hx hb d_X_placeFor_0 rfl (lv_at hl 0 rfl) ?_
  refine lv_iload_n hx hb d_X_placeFor_1 rfl (lv_at hl 1 rfl) ?_
  refine gw_callr hS (va_runV (As := [.int k]) (rest := []) ⟨hx, hb, hml, hown, hts⟩ (c_find l G M x row jobs known nowh gone lim sc k hf_x hf_known ) (cwV 1 hts (gw_gv mw80 mw81 mw82 mw83 mw79) rfl rfl rfl (by decide +kernel) ⟨Nat.le_of_ble_eq_true rfl, Nat.le_of_ble_eq_true rfl⟩) (gw_pv hE hB hS hW rfl hf_x) rfl rfl hl.1 rfl (lv_room (Nat.le_of_ble_eq_true rfl)) d_X_placeFor_2 ⟨Nat.le_of_ble_eq_true rfl, Nat.le_of_ble_eq_true rfl⟩) (fun r1 M2 H locs hw3 hW hS => ?_)
  obtain ⟨rfl, rfl⟩ := hw3
  refine lv_astore_n (lv' := [(2, .ref nowh), (0, .ref x), (1, .int k)]) hx hb d_X_placeFor_5 rfl hl (by decide) rfl (fun ls hl => ?_)
  refine lv_aload_n hx hb d_X_placeFor_6 rfl (lv_at hl 0 rfl) ?_
  refine gw_getN (ci := 2) (fs := [.int 0, .int 0, .int 0, .int 0, .int 0]) hx hb hts in_Gen hown hE.K hW hf_nowh rfl 0 (by decide) (hts _ mw84) (fun _ h9 => h9) rfl d_X_placeFor_7 ?_
  refine lv_iload_n hx hb d_X_placeFor_10 rfl (lv_at hl 2 rfl) ?_
  refine lv_icmp_eq (tgt := 32) hx hb d_X_placeFor_11 (by decide) (fun c11 => ?_) (fun c11 => ?_)
  · exact absurd c11 hk
  · refine gw_new (ci := 2) (fs := [.int 0, .int 0, .int 0, .int 0, .int 0]) hx hb hts in_Gen t_Gen t_Gen_ok hown (hts _ mw37) (hts _ mw38) (hts _ mw39) hE.K hW hS hB rfl (fun j hj => by rcases (show j = 0 ∨ j = 1 ∨ j = 2 ∨ j = 3 ∨ j = 4 by omega) with rfl | rfl | rfl | rfl | rfl <;> rfl) (Nat.le_of_ble_eq_true rfl) (Nat.le_of_ble_eq_true rfl) d_X_placeFor_14 9 (fun q4 H hq5 hW hS => ?_)
    refine W.widen (k := 1) (n := 5) (Nat.le_refl _) (Nat.le_refl _) ?_
    have hF6 : gw_fr (gw_out [5, 7, 9]) M (gw_up M q4 9 (.inr (2, [.int 0, .int 0, .int 0, .int 0, .int 0]))) := gw_fr.new gw_fr.rf hq5 (show ¬ ((gw_out [5, 7, 9]) 9) by decide)
    obtain ⟨M7, eM7⟩ : ∃ z, z = gw_up M q4 9 (.inr (2, [.int 0, .int 0, .int 0, .int 0, .int 0])) := ⟨_, rfl⟩
    replace hW : gw_P G.1 vwCl G.2.2.2 M7 H := by rw [eM7]; exact hW
    have hf_x : M7 x = some (1, .inr (0, [.int lim, .int sc, .int 0, .ref row, .ref jobs, .ref known, .ref nowh, .ref gone, .int 0])) := by rw [eM7]; exact gw_keepN hf_x hq5
    have hf_known : M7 known = some (5, .inr (4, [.int 0, .ref (G.2.2.1 0), .int 0])) := by rw [eM7]; exact gw_keepN hf_known hq5
    have hf_nowh : M7 nowh = some (12, .inr (2, [.int 0, .int 0, .int 0, .int 0, .int 0])) := by rw [eM7]; exact gw_keepN hf_nowh hq5
    have hf_q4 : M7 q4 = some (9, .inr (2, [.int 0, .int 0, .int 0, .int 0, .int 0])) := by rw [eM7]; exact gw_up_self _ _ _ _
    rw [← eM7] at hF6
    refine lv_dup hx hb d_X_placeFor_17 rfl ?_
    refine lv_iload_n hx hb d_X_placeFor_18 rfl (lv_at hl 2 rfl) ?_
    refine gw_callv hS (va_runIN (As := [.int k]) (rest := [.ref q4]) ⟨hx, hb, hml, hown, hts⟩ (c_Gen_initG l G M7 q4 k hf_q4 ) ⟨va_cnB 1 hts (gw_g1 mw40) rfl rfl rfl (hE.nw mw41) (hts _ mw39) (by decide +kernel) ⟨Nat.le_of_ble_eq_true rfl, Nat.le_of_ble_eq_true rfl⟩, rfl, hts _ mw42⟩ (gw_ps hE hB hS hW) rfl rfl hl.1 rfl (lv_room (Nat.le_of_ble_eq_true rfl)) d_X_placeFor_19 ⟨Nat.le_of_ble_eq_true rfl, Nat.le_of_ble_eq_true rfl⟩) (fun M9 H locs hw10 hW hS => ?_)
    obtain ⟨hf_q4', hfr11⟩ := hw10
    have hf_x : M9 x = some (1, .inr (0, [.int lim, .int sc, .int 0, .ref row, .ref jobs, .ref known, .ref nowh, .ref gone, .int 0])) := (hfr11 _ _ _ (by decide)).mp hf_x
    have hf_known : M9 known = some (5, .inr (4, [.int 0, .ref (G.2.2.1 0), .int 0])) := (hfr11 _ _ _ (by decide)).mp hf_known
    have hf_nowh : M9 nowh = some (12, .inr (2, [.int 0, .int 0, .int 0, .int 0, .int 0])) := (hfr11 _ _ _ (by decide)).mp hf_nowh
    have hf_q4 : M9 q4 = some (9, .inr (2, [.int k, .int 0, .int 0, .int 0, .int 0])) := hf_q4'
    have hF12 : gw_fr (gw_out [5, 7, 9]) M M9 := gw_fr.tr hF6 (gw_fr.wk hfr11 (by decide))
    refine lv_astore_n (lv' := [(2, .ref q4), (0, .ref x), (1, .int k)]) hx hb d_X_placeFor_22 rfl hl (by decide) rfl (fun ls hl => ?_)
    refine lv_aload_n hx hb d_X_placeFor_23 rfl (lv_at hl 1 rfl) ?_
    refine gw_get (ci := 0) (fs := [.int lim, .int sc, .int 0, .ref row, .ref jobs, .ref known, .ref nowh, .ref gone, .int 0]) hx hb hts in_X hown hE.K hW hf_x rfl 5 (by decide) (hts _ mw36) (fun _ h9 => h9) rfl d_X_placeFor_24 ?_
    refine lv_aload_n hx hb d_X_placeFor_27 rfl (lv_at hl 0 rfl) ?_
    refine gw_calli hS (va_runV (As := [.ref q4]) (rest := []) ⟨hx, hb, hml, hown, hts⟩ (c_AL_addK l G M9 known q4 k hf_known hf_q4 ) (cwV 1 hts (gw_gv mw86 mw87 mw88 mw31 mw85) rfl rfl rfl (by decide +kernel) ⟨Nat.le_of_ble_eq_true rfl, Nat.le_of_ble_eq_true rfl⟩) (gw_pv hE hB hS hW rfl hf_known) rfl rfl hl.1 rfl (lv_room (Nat.le_of_ble_eq_true rfl)) d_X_placeFor_28 ⟨Nat.le_of_ble_eq_true rfl, Nat.le_of_ble_eq_true rfl⟩) (fun r13 M14 H locs hw15 hW hS => ?_)
    refine W.widen (k := 2) (n := 15) (Nat.le_refl _) (Nat.le_refl _) ?_
    obtain ⟨ar16, rfl, hf_known', hf_ar16', hfr17⟩ := hw15
    have hf_q4 : M14 q4 = some (9, .inr (2, [.int k, .int 0, .int 0, .int 0, .int 0])) := (hfr17 _ _ _ (by decide)).mp hf_q4
    have hf_x : M14 x = some (1, .inr (0, [.int lim, .int sc, .int 0, .ref row, .ref jobs, .ref known, .ref nowh, .ref gone, .int 0])) := (hfr17 _ _ _ (by decide)).mp hf_x
    have hf_nowh : M14 nowh = some (12, .inr (2, [.int 0, .int 0, .int 0, .int 0, .int 0])) := (hfr17 _ _ _ (by decide)).mp hf_nowh
    have hf_known : M14 known = some (5, .inr (4, [.int (0 + 1), .ref ar16, .int (0 + 1)])) := hf_known'
    have hf_ar16 : M14 ar16 = some (7, .inl (G.2.1 1, 10, .inr (.inr (.inr (.inr (va_up (fun _ => none) (0 : Int32).toNatClampNeg (some q4))))))) := hf_ar16'
    have hF18 : gw_fr (gw_out [5, 7, 9]) M M14 := gw_fr.tr hF12 (gw_fr.wk hfr17 (by decide))
    refine lv_pop hx hb d_X_placeFor_31 rfl ?_
    refine lv_aload_n hx hb d_X_placeFor_32 rfl (lv_at hl 0 rfl) ?_
    exact gw_aret hx hb hr hlocks (Or.inl ⟨_, rfl⟩) hS hW (Nat.le_of_ble_eq_true rfl) (Nat.le_of_ble_eq_true rfl) d_X_placeFor_33 (⟨q4, rfl, hf_q4, hF18⟩)

set_option maxHeartbeats 4000000 in
set_option maxRecDepth 100000 in
theorem c_Row_put (l : Launch) (G : gw_G) (M : gw_M) (row : Nat) (nums : Nat) (k : Int32) (hf_row : M row = some (2, .inr (1, [.ref nums, .int 0]))) (hf_nums : M nums = some (3, .inl (G.2.1 0, 256, .inl (fun _ => 0)))) : Met l y_Row_put [.code y_Row_put b_Row_put 3 none] ({ frames := 0, cells := 0, slots := 0, locals := 0 }) (gw_Pc G M [.ref row, .int k]) (gw_Qv G (fun M2 => M2 row = some (2, .inr (1, [.ref nums, .int (0 + 1)])) ∧ M2 nums = some (3, .inl (G.2.1 0, 256, .inl (upd (fun _ => 0) (0 : Int32).toNatClampNeg k))) ∧ gw_fr (gw_out [2, 3]) M M2)) 0 0 (gw_A G) := by
  refine gw_start (by decide) (Nat.le_of_ble_eq_true rfl) (fun p9 e9 s m b9 mt9 c9 hx hb hr hml hown hlocks hin hE hB hW ls hl => ?_)
  have hts := hE.ts ([.ref row, .int k] : List Value).toArray
  have hl : lv_has ls 3 [(0, .ref row), (1, .int k)] := hl
  have hS : va_S (gw_A G) s.heap s.heap [] := va_S.rf
  have hown : s.vm.findClass "Generations$Row" = some m.cls := hown
  refine lv_aload_n hx hb d_Row_put_0 rfl (lv_at hl 0 rfl) ?_
  refine gw_get (ci := 1) (fs := [.ref nums, .int 0]) hx hb hts in_Row hown hE.K hW hf_row rfl 1 (by decide) (hts _ mw89) (fun _ h9 => h9) rfl d_Row_put_1 ?_
  refine lv_aload_n hx hb d_Row_put_4 rfl (lv_at hl 0 rfl) ?_
  refine gw_get (ci := 1) (fs := [.ref nums, .int 0]) hx hb hts in_Row hown hE.K hW hf_row rfl 0 (by decide) (hts _ mw4) (fun _ h9 => h9) rfl d_Row_put_5 ?_
  refine gw_alen (v := 256) hx hb hE.K hW 0 hf_nums rfl rfl d_Row_put_8 ?_
  refine lv_icmp_lt (tgt := 13) hx hb d_Row_put_9 (by decide) (fun c9 => ?_) (fun c9 => ?_)
  · refine lv_aload_n hx hb d_Row_put_13 rfl (lv_at hl 0 rfl) ?_
    refine gw_get (ci := 1) (fs := [.ref nums, .int 0]) hx hb hts in_Row hown hE.K hW hf_row rfl 1 (by decide) (hts _ mw89) (fun _ h9 => h9) rfl d_Row_put_14 ?_
    refine lv_istore_n (lv' := [(2, .int 0), (0, .ref row), (1, .int k)]) hx hb d_Row_put_17 rfl hl (by decide) rfl (fun ls hl => ?_)
    refine lv_iload_n hx hb d_Row_put_18 rfl (lv_at hl 0 rfl) ?_
    refine lv_if_le (tgt := 57) hx hb d_Row_put_19 (by decide) (fun c19 => ?_) (fun c19 => ?_)
    · refine lv_aload_n hx hb d_Row_put_57 rfl (lv_at hl 1 rfl) ?_
      refine gw_get (ci := 1) (fs := [.ref nums, .int 0]) hx hb hts in_Row hown hE.K hW hf_row rfl 0 (by decide) (hts _ mw4) (fun _ h9 => h9) rfl d_Row_put_58 ?_
      refine lv_iload_n hx hb d_Row_put_61 rfl (lv_at hl 0 rfl) ?_
      refine lv_iload_n hx hb d_Row_put_62 rfl (lv_at hl 2 rfl) ?_
      refine gw_iast (i := 0) (x := k) hx hb hE.K hW hS 0 hf_nums rfl (show ¬ ((0 : Int32) < 0 ∨ 256 ≤ (0 : Int32).toNatClampNeg) by decide) d_Row_put_63 (fun H locs hW hS => ?_)
      have hF1 : gw_fr (gw_out [2, 3]) M (gw_up M nums 3 (.inl (G.2.1 0, 256, .inl (upd (fun _ => 0) (0 : Int32).toNatClampNeg k)))) := gw_fr.up gw_fr.rf hf_nums (show ¬ ((gw_out [2, 3]) 3) by decide) (show ¬ ((gw_out [2, 3]) 3) by decide)
      obtain ⟨M2, eM2⟩ : ∃ z, z = gw_up M nums 3 (.inl (G.2.1 0, 256, .inl (upd (fun _ => 0) (0 : Int32).toNatClampNeg k))) := ⟨_, rfl⟩
      replace hW : gw_P G.1 vwCl G.2.2.2 M2 H := by rw [eM2]; exact hW
      have hf_row : M2 row = some (2, .inr (1, [.ref nums, .int 0])) := by rw [eM2]; exact gw_keep hf_row hf_nums (by decide)
      have hf_nums : M2 nums = some (3, .inl (G.2.1 0, 256, .inl (upd (fun _ => 0) (0 : Int32).toNatClampNeg k))) := by rw [eM2]; exact gw_up_self _ _ _ _
      rw [← eM2] at hF1
      refine lv_aload_n hx hb d_Row_put_64 rfl (lv_at hl 1 rfl) ?_
      refine lv_dup hx hb d_Row_put_65 rfl ?_
      refine gw_get (ci := 1) (fs := [.ref nums, .int 0]) hx hb hts in_Row hown hE.K hW hf_row rfl 1 (by decide) (hts _ mw89) (fun _ h9 => h9) rfl d_Row_put_66 ?_
      refine lv_iconst (v := 1) hx hb d_Row_put_69 (by decide) ?_
      refine lv_iadd hx hb d_Row_put_70 ?_
      refine gw_put (ci := 1) (fs := [.ref nums, .int 0]) (v := .int (0 + 1)) (ty := .int) hx hb hts in_Row t_Row t_Row_ok n_Row hown hE.K hW hS hf_row rfl 1 (by decide) (hts _ mw89) (fun _ h9 => h9) rfl (by decide +kernel) rfl rfl (Nat.le_of_ble_eq_true rfl) d_Row_put_71 (fun H locs hW hS => ?_)
      have hF3 : gw_fr (gw_out [2, 3]) M (gw_up M2 row 2 (.inr (1, [.ref nums, .int (0 + 1)]))) := gw_fr.up hF1 hf_row (show ¬ ((gw_out [2, 3]) 2) by decide) (show ¬ ((gw_out [2, 3]) 2) by decide)
      obtain ⟨M4, eM4⟩ : ∃ z, z = gw_up M2 row 2 (.inr (1, [.ref nums, .int (0 + 1)])) := ⟨_, rfl⟩
      replace hW : gw_P G.1 vwCl G.2.2.2 M4 H := by rw [eM4]; exact hW
      have hf_nums : M4 nums = some (3, .inl (G.2.1 0, 256, .inl (upd (fun _ => 0) (0 : Int32).toNatClampNeg k))) := by rw [eM4]; exact gw_keep hf_nums hf_row (by decide)
      have hf_row : M4 row = some (2, .inr (1, [.ref nums, .int (0 + 1)])) := by rw [eM4]; exact gw_up_self _ _ _ _
      rw [← eM4] at hF3
      exact gw_vret hx hb hr hlocks hS hW (Nat.le_of_ble_eq_true rfl) (Nat.le_of_ble_eq_true rfl) d_Row_put_74 (⟨hf_row, hf_nums, hF3⟩)
    · exact absurd c19 (by decide)
  · exact absurd c9 (by decide)

set_option maxHeartbeats 4000000 in
set_option maxRecDepth 100000 in
theorem c_hold (l : Launch) (G : gw_G) (M : gw_M) (x : Nat) (row : Nat) (nums : Nat) (jobs : Nat) (known : Nat) (nowh : Nat) (gone : Nat) (lim : Int32) (sc : Int32) (hf_x : M x = some (1, .inr (0, [.int lim, .int sc, .int 0, .ref row, .ref jobs, .ref known, .ref nowh, .ref gone, .int 0]))) (hf_row : M row = some (2, .inr (1, [.ref nums, .int (0 + 1)]))) (hlim : ¬ lim < 0 + 1) : Met l y_X_holdToLimit [.code y_X_holdToLimit b_X_holdToLimit 3 none] ({ frames := 0, cells := 0, slots := 0, locals := 0 }) (gw_Pc G M [.ref x]) (gw_Qv G (fun M2 => M = M2)) 0 0 (gw_A G) := by
  refine gw_start (by decide) (Nat.le_of_ble_eq_true rfl) (fun p9 e9 s m b9 mt9 c9 hx hb hr hml hown hlocks hin hE hB hW ls hl => ?_)
  have hts := hE.ts ([.ref x] : List Value).toArray
  have hl : lv_has ls 3 [(0, .ref x)] := hl
  have hS : va_S (gw_A G) s.heap s.heap [] := va_S.rf
  have hown : s.vm.findClass "Generations" = some m.cls := hown
  refine lv_aload_n hx hb d_X_holdToLimit_0 rfl (lv_at hl 0 rfl) ?_
  refine gw_get (ci := 0) (fs := [.int lim, .int sc, .int 0, .ref row, .ref jobs, .ref known, .ref nowh, .ref gone, .int 0]) hx hb hts in_X hown hE.K hW hf_x rfl 3 (by decide) (hts _ mw28) (fun _ h9 => h9) rfl d_X_holdToLimit_1 ?_
  refine gw_getN (ci := 1) (fs := [.ref nums, .int (0 + 1)]) hx hb hts in_Row hown hE.K hW hf_row rfl 1 (by decide) (hts _ mw90) (fun _ h9 => h9) rfl d_X_holdToLimit_4 ?_
  refine lv_aload_n hx hb d_X_holdToLimit_7 rfl (lv_at hl 0 rfl) ?_
  refine gw_get (ci := 0) (fs := [.int lim, .int sc, .int 0, .ref row, .ref jobs, .ref known, .ref nowh, .ref gone, .int 0]) hx hb hts in_X hown hE.K hW hf_x rfl 0 (by decide) (hts _ mw52) (fun _ h9 => h9) rfl d_X_holdToLimit_8 ?_
  refine lv_icmp_gt (tgt := 15) hx hb d_X_holdToLimit_11 (by decide) (fun c11 => ?_) (fun c11 => ?_)
  · exact absurd c11 hlim
  · exact gw_vret hx hb hr hlocks hS hW (Nat.le_of_ble_eq_true rfl) (Nat.le_of_ble_eq_true rfl) d_X_holdToLimit_14 rfl

set_option maxHeartbeats 4000000 in
set_option maxRecDepth 100000 in
theorem c_bring (l : Launch) (G : gw_G) (M : gw_M) (x : Nat) (row : Nat) (nums : Nat) (jobs : Nat) (known : Nat) (nowh : Nat) (gone : Nat) (lim : Int32) (sc : Int32) (g : Nat) (k : Int32) (hf_x : M x = some (1, .inr (0, [.int lim, .int sc, .int 0, .ref row, .ref jobs, .ref known, .ref nowh, .ref gone, .int 0]))) (hf_row : M row = some (2, .inr (1, [.ref nums, .int 0]))) (hf_nums : M nums = some (3, .inl (G.2.1 0, 256, .inl (fun _ => 0)))) (hf_g : M g = some (9, .inr (2, [.int k, .int 0, .int 0, .int 0, .int 0]))) (hlim : ¬ lim < 0 + 1) : Met l y_X_bringIntoRow [.code y_X_bringIntoRow b_X_bringIntoRow 2 none] ({ frames := 1, cells := 0, slots := 0, locals := 22 }) (gw_Pc G M [.ref x, .ref g]) (gw_Qv G (fun M2 => M2 row = some (2, .inr (1, [.ref nums, .int (0 + 1)])) ∧ gw_fr (gw_out [2, 3, 9]) M M2)) 0 0 (gw_A G) := by
  refine gw_start (by decide) (Nat.le_of_ble_eq_true rfl) (fun p9 e9 s m b9 mt9 c9 hx hb hr hml hown hlocks hin hE hB hW ls hl => ?_)
  have hts := hE.ts ([.ref x, .ref g] : List Value).toArray
  have hl : lv_has ls 2 [(0, .ref x), (1, .ref g)] := hl
  have hS : va_S (gw_A G) s.heap s.heap [] := va_S.rf
  have hown : s.vm.findClass "Generations" = some m.cls := hown
  refine lv_aload_n hx hb d_X_bringIntoRow_0 rfl (lv_at hl 1 rfl) ?_
  refine lv_iconst (v := 1) hx hb d_X_bringIntoRow_1 (by decide) ?_
  refine gw_putN (ci := 2) (fs := [.int k, .int 0, .int 0, .int 0, .int 0]) (v := .int 1) (ty := .int) hx hb hts in_Gen t_Gen t_Gen_ok n_Gen hown hE.K hW hS hf_g rfl 1 (by decide) (hts _ mw91) (fun _ h9 => h9) rfl (by decide +kernel) rfl rfl (Nat.le_of_ble_eq_true rfl) d_X_bringIntoRow_2 (fun H locs hW hS => ?_)
  have hF1 : gw_fr (gw_out [2, 3, 9]) M (gw_up M g 9 (.inr (2, [.int k, .int 1, .int 0, .int 0, .int 0]))) := gw_fr.up gw_fr.rf hf_g (show ¬ ((gw_out [2, 3, 9]) 9) by decide) (show ¬ ((gw_out [2, 3, 9]) 9) by decide)
  obtain ⟨M2, eM2⟩ : ∃ z, z = gw_up M g 9 (.inr (2, [.int k, .int 1, .int 0, .int 0, .int 0])) := ⟨_, rfl⟩
  replace hW : gw_P G.1 vwCl G.2.2.2 M2 H := by rw [eM2]; exact hW
  have hf_x : M2 x = some (1, .inr (0, [.int lim, .int sc, .int 0, .ref row, .ref jobs, .ref known, .ref nowh, .ref gone, .int 0])) := by rw [eM2]; exact gw_keep hf_x hf_g (by decide)
  have hf_row : M2 row = some (2, .inr (1, [.ref nums, .int 0])) := by rw [eM2]; exact gw_keep hf_row hf_g (by decide)
  have hf_nums : M2 nums = some (3, .inl (G.2.1 0, 256, .inl (fun _ => 0))) := by rw [eM2]; exact gw_keep hf_nums hf_g (by decide)
  have hf_g : M2 g = some (9, .inr (2, [.int k, .int 1, .int 0, .int 0, .int 0])) := by rw [eM2]; exact gw_up_self _ _ _ _
  rw [← eM2] at hF1
  refine lv_aload_n hx hb d_X_bringIntoRow_5 rfl (lv_at hl 0 rfl) ?_
  refine gw_get (ci := 0) (fs := [.int lim, .int sc, .int 0, .ref row, .ref jobs, .ref known, .ref nowh, .ref gone, .int 0]) hx hb hts in_X hown hE.K hW hf_x rfl 3 (by decide) (hts _ mw28) (fun _ h9 => h9) rfl d_X_bringIntoRow_6 ?_
  refine lv_aload_n hx hb d_X_bringIntoRow_9 rfl (lv_at hl 1 rfl) ?_
  refine gw_getN (ci := 2) (fs := [.int k, .int 1, .int 0, .int 0, .int 0]) hx hb hts in_Gen hown hE.K hW hf_g rfl 0 (by decide) (hts _ mw84) (fun _ h9 => h9) rfl d_X_bringIntoRow_10 ?_
  refine gw_callv hS (va_runVN (As := [.int k]) (rest := []) ⟨hx, hb, hml, hown, hts⟩ (c_Row_put l G M2 row nums k hf_row hf_nums ) ⟨va_cnB 1 hts (gw_g1 mw92) rfl rfl rfl (hE.nw mw93) (hts _ mw24) (by decide +kernel) ⟨Nat.le_of_ble_eq_true rfl, Nat.le_of_ble_eq_true rfl⟩, hts _ mw94, hts _ mw95⟩ (gw_pv hE hB hS hW rfl hf_row) rfl rfl hl.1 rfl (lv_room (Nat.le_of_ble_eq_true rfl)) d_X_bringIntoRow_13 ⟨Nat.le_of_ble_eq_true rfl, Nat.le_of_ble_eq_true rfl⟩) (fun M4 H locs hw5 hW hS => ?_)
  obtain ⟨hf_row', hf_nums', hfr6⟩ := hw5
  have hf_x : M4 x = some (1, .inr (0, [.int lim, .int sc, .int 0, .ref row, .ref jobs, .ref known, .ref nowh, .ref gone, .int 0])) := (hfr6 _ _ _ (by decide)).mp hf_x
  have hf_g : M4 g = some (9, .inr (2, [.int k, .int 1, .int 0, .int 0, .int 0])) := (hfr6 _ _ _ (by decide)).mp hf_g
  have hf_row : M4 row = some (2, .inr (1, [.ref nums, .int (0 + 1)])) := hf_row'
  have hf_nums : M4 nums = some (3, .inl (G.2.1 0, 256, .inl (upd (fun _ => 0) (0 : Int32).toNatClampNeg k))) := hf_nums'
  have hF7 : gw_fr (gw_out [2, 3, 9]) M M4 := gw_fr.tr hF1 (gw_fr.wk hfr6 (by decide))
  refine lv_aload_n hx hb d_X_bringIntoRow_16 rfl (lv_at hl 0 rfl) ?_
  refine gw_callv hS (va_runV (As := []) (rest := []) ⟨hx, hb, hml, hown, hts⟩ (c_hold l G M4 x row nums jobs known nowh gone lim sc hf_x hf_row (by assumption)) (cwV 0 hts (gw_gv mw97 mw98 mw99 mw83 mw96) rfl rfl rfl (by decide +kernel) ⟨Nat.le_of_ble_eq_true rfl, Nat.le_of_ble_eq_true rfl⟩) (gw_pv hE hB hS hW rfl hf_x) rfl rfl hl.1 rfl (lv_room (Nat.le_of_ble_eq_true rfl)) d_X_bringIntoRow_17 ⟨Nat.le_of_ble_eq_true rfl, Nat.le_of_ble_eq_true rfl⟩) (fun M9 H locs hw10 hW hS => ?_)
  obtain rfl := hw10
  exact gw_vret hx hb hr hlocks hS hW (Nat.le_of_ble_eq_true rfl) (Nat.le_of_ble_eq_true rfl) d_X_bringIntoRow_20 (⟨hf_row, hF7⟩)

set_option maxHeartbeats 4000000 in
set_option maxRecDepth 100000 in
theorem c_catalogue (l : Launch) (G : gw_G) (M : gw_M) (x : Nat) (row : Nat) (nums : Nat) (jobs : Nat) (known : Nat) (nowh : Nat) (gone : Nat) (lim : Int32) (sc : Int32) (k : Int32) (hf_x : M x = some (1, .inr (0, [.int lim, .int sc, .int 0, .ref row, .ref jobs, .ref known, .ref nowh, .ref gone, .int 0]))) (hf_row : M row = some (2, .inr (1, [.ref nums, .int 0]))) (hf_nums : M nums = some (3, .inl (G.2.1 0, 256, .inl (fun _ => 0)))) (hf_known : M known = some (5, .inr (4, [.int 0, .ref (G.2.2.1 0), .int 0]))) (hf_nowh : M nowh = some (12, .inr (2, [.int 0, .int 0, .int 0, .int 0, .int 0]))) (hlim : ¬ lim < 0 + 1) : Met l y_X_catalogue [.code y_X_catalogue b_X_catalogue 3 (some .int)] ({ frames := 6, cells := 2, slots := 15, locals := 123 }) (gw_Pc G M [.ref x, .int k]) (gw_Qi G (fun r M2 => gx_cat k = r ∧ gw_fr (gw_out [2, 3, 5, 7, 9]) M M2)) 2 15 (gw_A G) := by
  refine gw_start (by decide) (Nat.le_of_ble_eq_true rfl) (fun p9 e9 s m b9 mt9 c9 hx hb hr hml hown hlocks hin hE hB hW ls hl => ?_)
  have hts := hE.ts ([.ref x, .int k] : List Value).toArray
  have hl : lv_has ls 3 [(0, .ref x), (1, .int k)] := hl
  have hS : va_S (gw_A G) s.heap s.heap [] := va_S.rf
  have hown : s.vm.findClass "Generations" = some m.cls := hown
  refine lv_iload_n hx hb d_X_catalogue_0 rfl (lv_at hl 1 rfl) ?_
  refine gw_calli hS (va_runS (As := [.int k]) (rest := []) ⟨hx, hb, hml, hown, hts⟩ (c_isNumber l G M k  ) (cwS 1 hts (gw_gs mw101 mw102 mw83 mw100) rfl rfl rfl (by decide +kernel) ⟨Nat.le_of_ble_eq_true rfl, Nat.le_of_ble_eq_true rfl⟩) (gw_ps hE hB hS hW) rfl rfl hl.1 rfl (lv_room (Nat.le_of_ble_eq_true rfl)) d_X_catalogue_1 ⟨Nat.le_of_ble_eq_true rfl, Nat.le_of_ble_eq_true rfl⟩) (fun r1 M2 H locs hw3 hW hS => ?_)
  obtain ⟨rfl, rfl⟩ := hw3
  refine lv_if_ne (tgt := 9) hx hb d_X_catalogue_4 (by decide) (fun c4 => ?_) (fun c4 => ?_)
  · refine lv_aload_n hx hb d_X_catalogue_9 rfl (lv_at hl 0 rfl) ?_
    refine lv_iload_n hx hb d_X_catalogue_10 rfl (lv_at hl 1 rfl) ?_
    refine gw_callr hS (va_runV (As := [.int k]) (rest := []) ⟨hx, hb, hml, hown, hts⟩ (c_find l G M x row jobs known nowh gone lim sc k hf_x hf_known ) (cwV 1 hts (gw_gv mw80 mw81 mw82 mw83 mw79) rfl rfl rfl (by decide +kernel) ⟨Nat.le_of_ble_eq_true rfl, Nat.le_of_ble_eq_true rfl⟩) (gw_pv hE hB hS hW rfl hf_x) rfl rfl hl.1 rfl (lv_room (Nat.le_of_ble_eq_true rfl)) d_X_catalogue_11 ⟨Nat.le_of_ble_eq_true rfl, Nat.le_of_ble_eq_true rfl⟩) (fun r4 M5 H locs hw6 hW hS => ?_)
    obtain ⟨rfl, rfl⟩ := hw6
    refine lv_astore_n (lv' := [(2, .ref nowh), (0, .ref x), (1, .int k)]) hx hb d_X_catalogue_14 rfl hl (by decide) rfl (fun ls hl => ?_)
    refine lv_aload_n hx hb d_X_catalogue_15 rfl (lv_at hl 0 rfl) ?_
    refine gw_getN (ci := 2) (fs := [.int 0, .int 0, .int 0, .int 0, .int 0]) hx hb hts in_Gen hown hE.K hW hf_nowh rfl 1 (by decide) (hts _ mw91) (fun _ h9 => h9) rfl d_X_catalogue_16 ?_
    refine lv_iconst (v := 1) hx hb d_X_catalogue_19 (by decide) ?_
    refine lv_icmp_eq (tgt := 30) hx hb d_X_catalogue_20 (by decide) (fun c20 => ?_) (fun c20 => ?_)
    · exact absurd c20 (by decide)
    · refine lv_aload_n hx hb d_X_catalogue_23 rfl (lv_at hl 0 rfl) ?_
      refine gw_calli hS (va_runVN (As := []) (rest := []) ⟨hx, hb, hml, hown, hts⟩ (c_isDeferred l G M nowh 12 hf_nowh ) ⟨va_cnB 0 hts (gw_g1 mw103) rfl rfl rfl (hE.nw mw104) (hts _ mw39) (by decide +kernel) ⟨Nat.le_of_ble_eq_true rfl, Nat.le_of_ble_eq_true rfl⟩, hts _ mw105, hts _ mw106⟩ (gw_pv hE hB hS hW rfl hf_nowh) rfl rfl hl.1 rfl (lv_room (Nat.le_of_ble_eq_true rfl)) d_X_catalogue_24 ⟨Nat.le_of_ble_eq_true rfl, Nat.le_of_ble_eq_true rfl⟩) (fun r7 M8 H locs hw9 hW hS => ?_)
      obtain ⟨rfl, rfl⟩ := hw9
      refine lv_if_eq (tgt := 32) hx hb d_X_catalogue_27 (by decide) (fun c27 => ?_) (fun c27 => ?_)
      · refine lv_aload_n hx hb d_X_catalogue_32 rfl (lv_at hl 0 rfl) ?_
        refine gw_getN (ci := 2) (fs := [.int 0, .int 0, .int 0, .int 0, .int 0]) hx hb hts in_Gen hown hE.K hW hf_nowh rfl 1 (by decide) (hts _ mw91) (fun _ h9 => h9) rfl d_X_catalogue_33 ?_
        refine lv_if_ne (tgt := 50) hx hb d_X_catalogue_36 (by decide) (fun c36 => ?_) (fun c36 => ?_)
        · exact absurd c36 (by decide)
        · refine lv_aload_n hx hb d_X_catalogue_39 rfl (lv_at hl 1 rfl) ?_
          refine lv_iload_n hx hb d_X_catalogue_40 rfl (lv_at hl 2 rfl) ?_
          refine gw_callr hS (va_runV (As := [.int k]) (rest := []) ⟨hx, hb, hml, hown, hts⟩ (c_placeFor l G M x row jobs known nowh gone lim sc k hf_x hf_known hf_nowh (gx_ne0 c4)) (cwV 1 hts (gw_gv mw108 mw109 mw110 mw83 mw107) rfl rfl rfl (by decide +kernel) ⟨Nat.le_of_ble_eq_true rfl, Nat.le_of_ble_eq_true rfl⟩) (gw_pv hE hB hS hW rfl hf_x) rfl rfl hl.1 rfl (lv_room (Nat.le_of_ble_eq_true rfl)) d_X_catalogue_41 ⟨Nat.le_of_ble_eq_true rfl, Nat.le_of_ble_eq_true rfl⟩) (fun r10 M11 H locs hw12 hW hS => ?_)
          refine W.widen (k := 2) (n := 15) (Nat.le_refl _) (Nat.le_refl _) ?_
          obtain ⟨g13, rfl, hf_g13', hfr14⟩ := hw12
          have hf_x : M11 x = some (1, .inr (0, [.int lim, .int sc, .int 0, .ref row, .ref jobs, .ref known, .ref nowh, .ref gone, .int 0])) := (hfr14 _ _ _ (by decide)).mp hf_x
          have hf_row : M11 row = some (2, .inr (1, [.ref nums, .int 0])) := (hfr14 _ _ _ (by decide)).mp hf_row
          have hf_nums : M11 nums = some (3, .inl (G.2.1 0, 256, .inl (fun _ => 0))) := (hfr14 _ _ _ (by decide)).mp hf_nums
          have hf_nowh : M11 nowh = some (12, .inr (2, [.int 0, .int 0, .int 0, .int 0, .int 0])) := (hfr14 _ _ _ (by decide)).mp hf_nowh
          have hf_g13 : M11 g13 = some (9, .inr (2, [.int k, .int 0, .int 0, .int 0, .int 0])) := hf_g13'
          have hF15 : gw_fr (gw_out [2, 3, 5, 7, 9]) M M11 := gw_fr.tr gw_fr.rf (gw_fr.wk hfr14 (by decide))
          refine lv_astore_n (lv' := [(2, .ref g13), (0, .ref x), (1, .int k)]) hx hb d_X_catalogue_44 rfl hl (by decide) rfl (fun ls hl => ?_)
          refine lv_aload_n hx hb d_X_catalogue_45 rfl (lv_at hl 0 rfl) ?_
          refine lv_iconst (v := 0) hx hb d_X_catalogue_46 (by decide) ?_
          refine gw_callv hS (va_runVN (As := [.int 0]) (rest := []) ⟨hx, hb, hml, hown, hts⟩ (c_beginAnew l G M11 g13 k hf_g13 ) ⟨va_cnB 1 hts (gw_g1 mw111) rfl rfl rfl (hE.nw mw112) (hts _ mw39) (by decide +kernel) ⟨Nat.le_of_ble_eq_true rfl, Nat.le_of_ble_eq_true rfl⟩, hts _ mw113, hts _ mw114⟩ (gw_pv hE hB hS hW rfl hf_g13) rfl rfl hl.1 rfl (lv_room (Nat.le_of_ble_eq_true rfl)) d_X_catalogue_47 ⟨Nat.le_of_ble_eq_true rfl, Nat.le_of_ble_eq_true rfl⟩) (fun M17 H locs hw18 hW hS => ?_)
          obtain ⟨hf_g13', hfr19⟩ := hw18
          have hf_x : M17 x = some (1, .inr (0, [.int lim, .int sc, .int 0, .ref row, .ref jobs, .ref known, .ref nowh, .ref gone, .int 0])) := (hfr19 _ _ _ (by decide)).mp hf_x
          have hf_row : M17 row = some (2, .inr (1, [.ref nums, .int 0])) := (hfr19 _ _ _ (by decide)).mp hf_row
          have hf_nums : M17 nums = some (3, .inl (G.2.1 0, 256, .inl (fun _ => 0))) := (hfr19 _ _ _ (by decide)).mp hf_nums
          have hf_nowh : M17 nowh = some (12, .inr (2, [.int 0, .int 0, .int 0, .int 0, .int 0])) := (hfr19 _ _ _ (by decide)).mp hf_nowh
          have hf_g13 : M17 g13 = some (9, .inr (2, [.int k, .int 0, .int 0, .int 0, .int 0])) := hf_g13'
          have hF20 : gw_fr (gw_out [2, 3, 5, 7, 9]) M M17 := gw_fr.tr hF15 (gw_fr.wk hfr19 (by decide))
          refine lv_aload_n hx hb d_X_catalogue_50 rfl (lv_at hl 1 rfl) ?_
          refine lv_aload_n hx hb d_X_catalogue_51 rfl (lv_at hl 0 rfl) ?_
          refine gw_callv hS (va_runV (As := [.ref g13]) (rest := []) ⟨hx, hb, hml, hown, hts⟩ (c_bring l G M17 x row nums jobs known nowh gone lim sc g13 k hf_x hf_row hf_nums hf_g13 (by assumption)) (cwV 1 hts (gw_gv mw116 mw117 mw118 mw83 mw115) rfl rfl rfl (by decide +kernel) ⟨Nat.le_of_ble_eq_true rfl, Nat.le_of_ble_eq_true rfl⟩) (gw_pv hE hB hS hW rfl hf_x) rfl rfl hl.1 rfl (lv_room (Nat.le_of_ble_eq_true rfl)) d_X_catalogue_52 ⟨Nat.le_of_ble_eq_true rfl, Nat.le_of_ble_eq_true rfl⟩) (fun M22 H locs hw23 hW hS => ?_)
          obtain ⟨hf_row', hfr24⟩ := hw23
          have hf_x : M22 x = some (1, .inr (0, [.int lim, .int sc, .int 0, .ref row, .ref jobs, .ref known, .ref nowh, .ref gone, .int 0])) := (hfr24 _ _ _ (by decide)).mp hf_x
          have hf_nowh : M22 nowh = some (12, .inr (2, [.int 0, .int 0, .int 0, .int 0, .int 0])) := (hfr24 _ _ _ (by decide)).mp hf_nowh
          have hf_row : M22 row = some (2, .inr (1, [.ref nums, .int (0 + 1)])) := hf_row'
          have hF25 : gw_fr (gw_out [2, 3, 5, 7, 9]) M M22 := gw_fr.tr hF20 (gw_fr.wk hfr24 (by decide))
          refine lv_aload_n hx hb d_X_catalogue_55 rfl (lv_at hl 1 rfl) ?_
          refine gw_get (ci := 0) (fs := [.int lim, .int sc, .int 0, .ref row, .ref jobs, .ref known, .ref nowh, .ref gone, .int 0]) hx hb hts in_X hown hE.K hW hf_x rfl 3 (by decide) (hts _ mw28) (fun _ h9 => h9) rfl d_X_catalogue_56 ?_
          refine gw_getN (ci := 1) (fs := [.ref nums, .int (0 + 1)]) hx hb hts in_Row hown hE.K hW hf_row rfl 1 (by decide) (hts _ mw90) (fun _ h9 => h9) rfl d_X_catalogue_59 ?_
          exact gw_iret hx hb hr hlocks hS hW (Nat.le_of_ble_eq_true rfl) (Nat.le_of_ble_eq_true rfl) d_X_catalogue_62 (⟨((gx_cat1 c4).trans (by decide)), hF25⟩)
      · exact absurd c27 (by decide)
  · refine lv_iconst (v := -1) hx hb d_X_catalogue_7 (by decide) ?_
    exact gw_iret hx hb hr hlocks hS hW (Nat.le_of_ble_eq_true rfl) (Nat.le_of_ble_eq_true rfl) d_X_catalogue_8 (⟨(gx_cat0 c4), gw_fr.rf⟩)
