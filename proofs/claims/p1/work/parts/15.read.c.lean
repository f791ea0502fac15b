set_option maxHeartbeats 4000000 in
set_option maxRecDepth 100000 in
theorem c_dropped (l : Launch) (G : gw_G) (M : gw_M) (x : Nat) (row : Nat) (jobs : Nat) (known : Nat) (nowh : Nat) (gone : Nat) (lim : Int32) (sc : Int32) (k : Int32) (hf_x : M x = some (1, .inr (0, [.int lim, .int sc, .int 0, .ref row, .ref jobs, .ref known, .ref nowh, .ref gone, .int 0]))) : Met l y_X_dropped [.code y_X_dropped b_X_dropped 2 (some .int)] ({ frames := 0, cells := 0, slots := 0, locals := 0 }) (gw_Pc G M [.ref x, .int k]) (gw_Qi G (fun r M2 => (-1) = r ∧ M = M2)) 0 0 (gw_A G) := by
  refine gw_start (by decide) (Nat.le_of_ble_eq_true rfl) (fun p9 e9 s m b9 mt9 c9 hx hb hr hml hown hlocks hin hE hB hW ls hl => ?_)
  have hts := hE.ts ([.ref x, .int k] : List Value).toArray
  have hl : lv_has ls 2 [(0, .ref x), (1, .int k)] := hl
  have hS : va_S (gw_A G) s.heap s.heap [] := va_S.rf
  have hown : s.vm.findClass "Generations" = some m.cls := hown
  refine lv_iload_n hx hb d_X_dropped_0 rfl (lv_at hl 1 rfl) ?_
  refine lv_if_lt (tgt := 21) hx hb d_X_dropped_1 (by decide) (fun c1 => ?_) (fun c1 => ?_)
  · refine lv_iconst (v := -1) hx hb d_X_dropped_21 (by decide) ?_
    exact gw_iret hx hb hr hlocks hS hW (Nat.le_of_ble_eq_true rfl) (Nat.le_of_ble_eq_true rfl) d_X_dropped_22 (⟨rfl, rfl⟩)
  · refine lv_iload_n hx hb d_X_dropped_4 rfl (lv_at hl 1 rfl) ?_
    refine lv_aload_n hx hb d_X_dropped_5 rfl (lv_at hl 0 rfl) ?_
    refine gw_get (ci := 0) (fs := [.int lim, .int sc, .int 0, .ref row, .ref jobs, .ref known, .ref nowh, .ref gone, .int 0]) hx hb hts in_X hown hE.K hW hf_x rfl 8 (by decide) (hts _ mw140) (fun _ h9 => h9) rfl d_X_dropped_6 ?_
    refine lv_icmp_ge (tgt := 21) hx hb d_X_dropped_9 (by decide) (fun c9 => ?_) (fun c9 => ?_)
    · refine lv_iconst (v := -1) hx hb d_X_dropped_21 (by decide) ?_
      exact gw_iret hx hb hr hlocks hS hW (Nat.le_of_ble_eq_true rfl) (Nat.le_of_ble_eq_true rfl) d_X_dropped_22 (⟨rfl, rfl⟩)
    · exact absurd (gx_nn c1) c9

set_option maxHeartbeats 4000000 in
set_option maxRecDepth 100000 in
theorem c_Row_at (l : Launch) (G : gw_G) (M : gw_M) (row : Nat) (nums : Nat) (k : Int32) (hf_row : M row = some (2, .inr (1, [.ref nums, .int 0]))) : Met l y_Row_at [.code y_Row_at b_Row_at 2 (some .int)] ({ frames := 0, cells := 0, slots := 0, locals := 0 }) (gw_Pc G M [.ref row, .int k]) (gw_Qi G (fun r M2 => (-1) = r ∧ M = M2)) 0 0 (gw_A G) := by
  refine gw_start (by decide) (Nat.le_of_ble_eq_true rfl) (fun p9 e9 s m b9 mt9 c9 hx hb hr hml hown hlocks hin hE hB hW ls hl => ?_)
  have hts := hE.ts ([.ref row, .int k] : List Value).toArray
  have hl : lv_has ls 2 [(0, .ref row), (1, .int k)] := hl
  have hS : va_S (gw_A G) s.heap s.heap [] := va_S.rf
  have hown : s.vm.findClass "Generations$Row" = some m.cls := hown
  refine lv_iload_n hx hb d_Row_at_0 rfl (lv_at hl 1 rfl) ?_
  refine lv_if_lt (tgt := 21) hx hb d_Row_at_1 (by decide) (fun c1 => ?_) (fun c1 => ?_)
  · refine lv_iconst (v := -1) hx hb d_Row_at_21 (by decide) ?_
    exact gw_iret hx hb hr hlocks hS hW (Nat.le_of_ble_eq_true rfl) (Nat.le_of_ble_eq_true rfl) d_Row_at_22 (⟨rfl, rfl⟩)
  · refine lv_iload_n hx hb d_Row_at_4 rfl (lv_at hl 1 rfl) ?_
    refine lv_aload_n hx hb d_Row_at_5 rfl (lv_at hl 0 rfl) ?_
    refine gw_get (ci := 1) (fs := [.ref nums, .int 0]) hx hb hts in_Row hown hE.K hW hf_row rfl 1 (by decide) (hts _ mw89) (fun _ h9 => h9) rfl d_Row_at_6 ?_
    refine lv_icmp_ge (tgt := 21) hx hb d_Row_at_9 (by decide) (fun c9 => ?_) (fun c9 => ?_)
    · refine lv_iconst (v := -1) hx hb d_Row_at_21 (by decide) ?_
      exact gw_iret hx hb hr hlocks hS hW (Nat.le_of_ble_eq_true rfl) (Nat.le_of_ble_eq_true rfl) d_Row_at_22 (⟨rfl, rfl⟩)
    · exact absurd (gx_nn c1) c9

set_option maxHeartbeats 4000000 in
set_option maxRecDepth 100000 in
theorem c_list (l : Launch) (G : gw_G) (M : gw_M) (x : Nat) (row : Nat) (nums : Nat) (jobs : Nat) (known : Nat) (nowh : Nat) (gone : Nat) (lim : Int32) (sc : Int32) (k : Int32) (hf_x : M x = some (1, .inr (0, [.int lim, .int sc, .int 0, .ref row, .ref jobs, .ref known, .ref nowh, .ref gone, .int 0]))) (hf_row : M row = some (2, .inr (1, [.ref nums, .int 0]))) : Met l y_X_list [.code y_X_list b_X_list 2 (some .int)] ({ frames := 1, cells := 0, slots := 0, locals := 21 }) (gw_Pc G M [.ref x, .int k]) (gw_Qi G (fun r M2 => (-1) = r ∧ M = M2)) 0 0 (gw_A G) := by
  refine gw_start (by decide) (Nat.le_of_ble_eq_true rfl) (fun p9 e9 s m b9 mt9 c9 hx hb hr hml hown hlocks hin hE hB hW ls hl => ?_)
  have hts := hE.ts ([.ref x, .int k] : List Value).toArray
  have hl : lv_has ls 2 [(0, .ref x), (1, .int k)] := hl
  have hS : va_S (gw_A G) s.heap s.heap [] := va_S.rf
  have hown : s.vm.findClass "Generations" = some m.cls := hown
  refine lv_aload_n hx hb d_X_list_0 rfl (lv_at hl 0 rfl) ?_
  refine gw_get (ci := 0) (fs := [.int lim, .int sc, .int 0, .ref row, .ref jobs, .ref known, .ref nowh, .ref gone, .int 0]) hx hb hts in_X hown hE.K hW hf_x rfl 3 (by decide) (hts _ mw28) (fun _ h9 => h9) rfl d_X_list_1 ?_
  refine lv_iload_n hx hb d_X_list_4 rfl (lv_at hl 1 rfl) ?_
  refine gw_calli hS (va_runVN (As := [.int k]) (rest := []) ⟨hx, hb, hml, hown, hts⟩ (c_Row_at l G M row nums k hf_row ) ⟨va_cnB 1 hts (gw_g1 mw141) rfl rfl rfl (hE.nw mw142) (hts _ mw24) (by decide +kernel) ⟨Nat.le_of_ble_eq_true rfl, Nat.le_of_ble_eq_true rfl⟩, hts _ mw143, hts _ mw144⟩ (gw_pv hE hB hS hW rfl hf_row) rfl rfl hl.1 rfl (lv_room (Nat.le_of_ble_eq_true rfl)) d_X_list_5 ⟨Nat.le_of_ble_eq_true rfl, Nat.le_of_ble_eq_true rfl⟩) (fun r1 M2 H locs hw3 hW hS => ?_)
  obtain ⟨rfl, rfl⟩ := hw3
  exact gw_iret hx hb hr hlocks hS hW (Nat.le_of_ble_eq_true rfl) (Nat.le_of_ble_eq_true rfl) d_X_list_8 (⟨rfl, rfl⟩)

set_option maxHeartbeats 4000000 in
set_option maxRecDepth 100000 in
theorem c_reclaim (l : Launch) (G : gw_G) (M : gw_M) (x : Nat) (row : Nat) (jobs : Nat) (known : Nat) (nowh : Nat) (gone : Nat) (lim : Int32) (sc : Int32) (k : Int32) (hf_x : M x = some (1, .inr (0, [.int lim, .int sc, .int 0, .ref row, .ref jobs, .ref known, .ref nowh, .ref gone, .int 0]))) (hf_known : M known = some (5, .inr (4, [.int 0, .ref (G.2.2.1 0), .int 0]))) (hf_nowh : M nowh = some (12, .inr (2, [.int 0, .int 0, .int 0, .int 0, .int 0]))) : Met l y_X_reclaim [.code y_X_reclaim b_X_reclaim 3 (some .int)] ({ frames := 2, cells := 0, slots := 0, locals := 43 }) (gw_Pc G M [.ref x, .int k]) (gw_Qi G (fun r M2 => 0 = r ∧ M = M2)) 0 0 (gw_A G) := by
  refine gw_start (by decide) (Nat.le_of_ble_eq_true rfl) (fun p9 e9 s m b9 mt9 c9 hx hb hr hml hown hlocks hin hE hB hW ls hl => ?_)
  have hts := hE.ts ([.ref x, .int k] : List Value).toArray
  have hl : lv_has ls 3 [(0, .ref x), (1, .int k)] := hl
  have hS : va_S (gw_A G) s.heap s.heap [] := va_S.rf
  have hown : s.vm.findClass "Generations" = some m.cls := hown
  refine lv_aload_n hx hb d_X_reclaim_0 rfl (lv_at hl 0 rfl) ?_
  refine lv_iload_n hx hb d_X_reclaim_1 rfl (lv_at hl 1 rfl) ?_
  refine gw_callr hS (va_runV (As := [.int k]) (rest := []) ⟨hx, hb, hml, hown, hts⟩ (c_find l G M x row jobs known nowh gone lim sc k hf_x hf_known ) (cwV 1 hts (gw_gv mw80 mw81 mw82 mw83 mw79) rfl rfl rfl (by decide +kernel) ⟨Nat.le_of_ble_eq_true rfl, Nat.le_of_ble_eq_true rfl⟩) (gw_pv hE hB hS hW rfl hf_x) rfl rfl hl.1 rfl (lv_room (Nat.le_of_ble_eq_true rfl)) d_X_reclaim_2 ⟨Nat.le_of_ble_eq_true rfl, Nat.le_of_ble_eq_true rfl⟩) (fun r1 M2 H locs hw3 hW hS => ?_)
  obtain ⟨rfl, rfl⟩ := hw3
  refine lv_astore_n (lv' := [(2, .ref nowh), (0, .ref x), (1, .int k)]) hx hb d_X_reclaim_5 rfl hl (by decide) rfl (fun ls hl => ?_)
  refine lv_aload_n hx hb d_X_reclaim_6 rfl (lv_at hl 0 rfl) ?_
  refine gw_getN (ci := 2) (fs := [.int 0, .int 0, .int 0, .int 0, .int 0]) hx hb hts in_Gen hown hE.K hW hf_nowh rfl 1 (by decide) (hts _ mw91) (fun _ h9 => h9) rfl d_X_reclaim_7 ?_
  refine lv_iconst (v := 3) hx hb d_X_reclaim_10 (by decide) ?_
  refine lv_icmp_eq (tgt := 24) hx hb d_X_reclaim_11 (by decide) (fun c11 => ?_) (fun c11 => ?_)
  · exact absurd c11 (by decide)
  · refine lv_aload_n hx hb d_X_reclaim_14 rfl (lv_at hl 0 rfl) ?_
    refine gw_getN (ci := 2) (fs := [.int 0, .int 0, .int 0, .int 0, .int 0]) hx hb hts in_Gen hown hE.K hW hf_nowh rfl 1 (by decide) (hts _ mw91) (fun _ h9 => h9) rfl d_X_reclaim_15 ?_
    refine lv_iconst (v := 4) hx hb d_X_reclaim_18 (by decide) ?_
    refine lv_icmp_eq (tgt := 24) hx hb d_X_reclaim_19 (by decide) (fun c19 => ?_) (fun c19 => ?_)
    · exact absurd c19 (by decide)
    · refine lv_iconst (v := 0) hx hb d_X_reclaim_22 (by decide) ?_
      exact gw_iret hx hb hr hlocks hS hW (Nat.le_of_ble_eq_true rfl) (Nat.le_of_ble_eq_true rfl) d_X_reclaim_23 (⟨rfl, rfl⟩)

set_option maxHeartbeats 4000000 in
set_option maxRecDepth 100000 in
theorem c_empty (l : Launch) (G : gw_G) (M : gw_M) (x : Nat) (row : Nat) (jobs : Nat) (known : Nat) (nowh : Nat) (gone : Nat) (lim : Int32) (sc : Int32) (on : Int32) (hf_x : M x = some (1, .inr (0, [.int lim, .int sc, .int 0, .ref row, .ref jobs, .ref known, .ref nowh, .ref gone, .int 0]))) (hn_z : narrow .boolean (.int on) = .int on) (hf_z : fits .boolean (.int on) = true) : Met l y_X_empty [.code y_X_empty b_X_empty 3 (some .int)] ({ frames := 0, cells := 0, slots := 0, locals := 0 }) (gw_Pc G M [.ref x, .int on]) (gw_Qi G (fun r M2 => 0 = r ∧ gw_fr (gw_out [1]) M M2)) 0 0 (gw_A G) := by
  refine gw_start (by decide) (Nat.le_of_ble_eq_true rfl) (fun p9 e9 s m b9 mt9 c9 hx hb hr hml hown hlocks hin hE hB hW ls hl => ?_)
  have hts := hE.ts ([.ref x, .int on] : List Value).toArray
  have hl : lv_has ls 3 [(0, .ref x), (1, .int on)] := hl
  have hS : va_S (gw_A G) s.heap s.heap [] := va_S.rf
  have hown : s.vm.findClass "Generations" = some m.cls := hown
  refine lv_aload_n hx hb d_X_empty_0 rfl (lv_at hl 0 rfl) ?_
  refine gw_get (ci := 0) (fs := [.int lim, .int sc, .int 0, .ref row, .ref jobs, .ref known, .ref nowh, .ref gone, .int 0]) hx hb hts in_X hown hE.K hW hf_x rfl 2 (by decide) (hts _ mw145) (fun _ h9 => h9) rfl d_X_empty_1 ?_
  refine lv_if_eq (tgt := 11) hx hb d_X_empty_4 (by decide) (fun c4 => ?_) (fun c4 => ?_)
  · refine lv_iconst (v := 0) hx hb d_X_empty_11 (by decide) ?_
    refine lv_istore_n (lv' := [(2, .int 0), (0, .ref x), (1, .int on)]) hx hb d_X_empty_12 rfl hl (by decide) rfl (fun ls hl => ?_)
    refine lv_aload_n hx hb d_X_empty_13 rfl (lv_at hl 1 rfl) ?_
    refine lv_iload_n hx hb d_X_empty_14 rfl (lv_at hl 2 rfl) ?_
    refine gw_put (ci := 0) (fs := [.int lim, .int sc, .int 0, .ref row, .ref jobs, .ref known, .ref nowh, .ref gone, .int 0]) (v := .int on) (ty := .boolean) hx hb hts in_X t_X t_X_ok n_X hown hE.K hW hS hf_x rfl 2 (by decide) (hts _ mw145) (fun _ h9 => h9) rfl (by decide +kernel) hn_z hf_z (Nat.le_of_ble_eq_true rfl) d_X_empty_15 (fun H locs hW hS => ?_)
    have hF1 : gw_fr (gw_out [1]) M (gw_up M x 1 (.inr (0, [.int lim, .int sc, .int on, .ref row, .ref jobs, .ref known, .ref nowh, .ref gone, .int 0]))) := gw_fr.up gw_fr.rf hf_x (show ¬ ((gw_out [1]) 1) by decide) (show ¬ ((gw_out [1]) 1) by decide)
    obtain ⟨M2, eM2⟩ : ∃ z, z = gw_up M x 1 (.inr (0, [.int lim, .int sc, .int on, .ref row, .ref jobs, .ref known, .ref nowh, .ref gone, .int 0])) := ⟨_, rfl⟩
    replace hW : gw_P G.1 vwCl G.2.2.2 M2 H := by rw [eM2]; exact hW
    have hf_x : M2 x = some (1, .inr (0, [.int lim, .int sc, .int on, .ref row, .ref jobs, .ref known, .ref nowh, .ref gone, .int 0])) := by rw [eM2]; exact gw_up_self _ _ _ _
    rw [← eM2] at hF1
    refine lv_iload_n hx hb d_X_empty_18 rfl (lv_at hl 0 rfl) ?_
    exact gw_iret hx hb hr hlocks hS hW (Nat.le_of_ble_eq_true rfl) (Nat.le_of_ble_eq_true rfl) d_X_empty_19 (⟨rfl, hF1⟩)
  · exact absurd c4 (by decide)

set_option maxHeartbeats 4000000 in
set_option maxRecDepth 100000 in
theorem c_version (l : Launch) (G : gw_G) (M : gw_M) (x : Nat) (row : Nat) (jobs : Nat) (known : Nat) (nowh : Nat) (gone : Nat) (lim : Int32) (sc : Int32) (k : Int32) (hf_x : M x = some (1, .inr (0, [.int lim, .int sc, .int 0, .ref row, .ref jobs, .ref known, .ref nowh, .ref gone, .int 0]))) (hf_known : M known = some (5, .inr (4, [.int 0, .ref (G.2.2.1 0), .int 0]))) (hf_nowh : M nowh = some (12, .inr (2, [.int 0, .int 0, .int 0, .int 0, .int 0]))) : Met l y_X_version [.code y_X_version b_X_version 3 (some .int)] ({ frames := 2, cells := 0, slots := 0, locals := 43 }) (gw_Pc G M [.ref x, .int k]) (gw_Qi G (fun r M2 => (-1) = r ∧ M = M2)) 0 0 (gw_A G) := by
  refine gw_start (by decide) (Nat.le_of_ble_eq_true rfl) (fun p9 e9 s m b9 mt9 c9 hx hb hr hml hown hlocks hin hE hB hW ls hl => ?_)
  have hts := hE.ts ([.ref x, .int k] : List Value).toArray
  have hl : lv_has ls 3 [(0, .ref x), (1, .int k)] := hl
  have hS : va_S (gw_A G) s.heap s.heap [] := va_S.rf
  have hown : s.vm.findClass "Generations" = some m.cls := hown
  refine lv_aload_n hx hb d_X_version_0 rfl (lv_at hl 0 rfl) ?_
  refine lv_iload_n hx hb d_X_version_1 rfl (lv_at hl 1 rfl) ?_
  refine gw_callr hS (va_runV (As := [.int k]) (rest := []) ⟨hx, hb, hml, hown, hts⟩ (c_find l G M x row jobs known nowh gone lim sc k hf_x hf_known ) (cwV 1 hts (gw_gv mw80 mw81 mw82 mw83 mw79) rfl rfl rfl (by decide +kernel) ⟨Nat.le_of_ble_eq_true rfl, Nat.le_of_ble_eq_true rfl⟩) (gw_pv hE hB hS hW rfl hf_x) rfl rfl hl.1 rfl (lv_room (Nat.le_of_ble_eq_true rfl)) d_X_version_2 ⟨Nat.le_of_ble_eq_true rfl, Nat.le_of_ble_eq_true rfl⟩) (fun r1 M2 H locs hw3 hW hS => ?_)
  obtain ⟨rfl, rfl⟩ := hw3
  refine lv_astore_n (lv' := [(2, .ref nowh), (0, .ref x), (1, .int k)]) hx hb d_X_version_5 rfl hl (by decide) rfl (fun ls hl => ?_)
  refine lv_aload_n hx hb d_X_version_6 rfl (lv_at hl 0 rfl) ?_
  refine gw_getN (ci := 2) (fs := [.int 0, .int 0, .int 0, .int 0, .int 0]) hx hb hts in_Gen hown hE.K hW hf_nowh rfl 1 (by decide) (hts _ mw91) (fun _ h9 => h9) rfl d_X_version_7 ?_
  refine lv_if_ne (tgt := 17) hx hb d_X_version_10 (by decide) (fun c10 => ?_) (fun c10 => ?_)
  · exact absurd c10 (by decide)
  · refine lv_iconst (v := -1) hx hb d_X_version_13 (by decide) ?_
    refine lv_goto (tgt := 21) hx hb d_X_version_14 (by decide) ?_
    exact gw_iret hx hb hr hlocks hS hW (Nat.le_of_ble_eq_true rfl) (Nat.le_of_ble_eq_true rfl) d_X_version_21 (⟨rfl, rfl⟩)

set_option maxHeartbeats 4000000 in
set_option maxRecDepth 100000 in
theorem c_state (l : Launch) (G : gw_G) (M : gw_M) (x : Nat) (row : Nat) (jobs : Nat) (known : Nat) (nowh : Nat) (gone : Nat) (lim : Int32) (sc : Int32) (k : Int32) (hf_x : M x = some (1, .inr (0, [.int lim, .int sc, .int 0, .ref row, .ref jobs, .ref known, .ref nowh, .ref gone, .int 0]))) (hf_known : M known = some (5, .inr (4, [.int 0, .ref (G.2.2.1 0), .int 0]))) (hf_nowh : M nowh = some (12, .inr (2, [.int 0, .int 0, .int 0, .int 0, .int 0]))) : Met l y_X_state [.code y_X_state b_X_state 2 (some .int)] ({ frames := 2, cells := 0, slots := 0, locals := 43 }) (gw_Pc G M [.ref x, .int k]) (gw_Qi G (fun r M2 => gx_st k = r ∧ M = M2)) 0 0 (gw_A G) := by
  refine gw_start (by decide) (Nat.le_of_ble_eq_true rfl) (fun p9 e9 s m b9 mt9 c9 hx hb hr hml hown hlocks hin hE hB hW ls hl => ?_)
  have hts := hE.ts ([.ref x, .int k] : List Value).toArray
  have hl : lv_has ls 2 [(0, .ref x), (1, .int k)] := hl
  have hS : va_S (gw_A G) s.heap s.heap [] := va_S.rf
  have hown : s.vm.findClass "Generations" = some m.cls := hown
  refine lv_iload_n hx hb d_X_state_0 rfl (lv_at hl 1 rfl) ?_
  refine gw_calli hS (va_runS (As := [.int k]) (rest := []) ⟨hx, hb, hml, hown, hts⟩ (c_isNumber l G M k  ) (cwS 1 hts (gw_gs mw101 mw102 mw83 mw100) rfl rfl rfl (by decide +kernel) ⟨Nat.le_of_ble_eq_true rfl, Nat.le_of_ble_eq_true rfl⟩) (gw_ps hE hB hS hW) rfl rfl hl.1 rfl (lv_room (Nat.le_of_ble_eq_true rfl)) d_X_state_1 ⟨Nat.le_of_ble_eq_true rfl, Nat.le_of_ble_eq_true rfl⟩) (fun r1 M2 H locs hw3 hW hS => ?_)
  obtain ⟨rfl, rfl⟩ := hw3
  refine lv_if_eq (tgt := 18) hx hb d_X_state_4 (by decide) (fun c4 => ?_) (fun c4 => ?_)
  · refine lv_iconst (v := -1) hx hb d_X_state_18 (by decide) ?_
    exact gw_iret hx hb hr hlocks hS hW (Nat.le_of_ble_eq_true rfl) (Nat.le_of_ble_eq_true rfl) d_X_state_19 (⟨(gx_st0 c4), rfl⟩)
  · refine lv_aload_n hx hb d_X_state_7 rfl (lv_at hl 0 rfl) ?_
    refine lv_iload_n hx hb d_X_state_8 rfl (lv_at hl 1 rfl) ?_
    refine gw_callr hS (va_runV (As := [.int k]) (rest := []) ⟨hx, hb, hml, hown, hts⟩ (c_find l G M x row jobs known nowh gone lim sc k hf_x hf_known ) (cwV 1 hts (gw_gv mw80 mw81 mw82 mw83 mw79) rfl rfl rfl (by decide +kernel) ⟨Nat.le_of_ble_eq_true rfl, Nat.le_of_ble_eq_true rfl⟩) (gw_pv hE hB hS hW rfl hf_x) rfl rfl hl.1 rfl (lv_room (Nat.le_of_ble_eq_true rfl)) d_X_state_9 ⟨Nat.le_of_ble_eq_true rfl, Nat.le_of_ble_eq_true rfl⟩) (fun r4 M5 H locs hw6 hW hS => ?_)
    obtain ⟨rfl, rfl⟩ := hw6
    refine gw_getN (ci := 2) (fs := [.int 0, .int 0, .int 0, .int 0, .int 0]) hx hb hts in_Gen hown hE.K hW hf_nowh rfl 1 (by decide) (hts _ mw91) (fun _ h9 => h9) rfl d_X_state_12 ?_
    refine lv_goto (tgt := 19) hx hb d_X_state_15 (by decide) ?_
    exact gw_iret hx hb hr hlocks hS hW (Nat.le_of_ble_eq_true rfl) (Nat.le_of_ble_eq_true rfl) d_X_state_19 (⟨(gx_st1 c4), rfl⟩)

set_option maxHeartbeats 4000000 in
set_option maxRecDepth 100000 in
theorem c_count (l : Launch) (G : gw_G) (M : gw_M) (x : Nat) (row : Nat) (nums : Nat) (jobs : Nat) (known : Nat) (nowh : Nat) (gone : Nat) (lim : Int32) (sc : Int32) (k : Int32) (hf_x : M x = some (1, .inr (0, [.int lim, .int sc, .int 0, .ref row, .ref jobs, .ref known, .ref nowh, .ref gone, .int 0]))) (hf_row : M row = some (2, .inr (1, [.ref nums, .int 0]))) (hf_jobs : M jobs = some (4, .inr (4, [.int 0, .ref (G.2.2.1 0), .int 0]))) (hf_known : M known = some (5, .inr (4, [.int 0, .ref (G.2.2.1 0), .int 0]))) : Met l y_X_count [.code y_X_count b_X_count 2 (some .int)] ({ frames := 2, cells := 0, slots := 0, locals := 43 }) (gw_Pc G M [.ref x, .int k]) (gw_Qi G (fun r M2 => gx_cnt k = r ∧ M = M2)) 0 0 (gw_A G) := by
  refine gw_start (by decide) (Nat.le_of_ble_eq_true rfl) (fun p9 e9 s m b9 mt9 c9 hx hb hr hml hown hlocks hin hE hB hW ls hl => ?_)
  have hts := hE.ts ([.ref x, .int k] : List Value).toArray
  have hl : lv_has ls 2 [(0, .ref x), (1, .int k)] := hl
  have hS : va_S (gw_A G) s.heap s.heap [] := va_S.rf
  have hown : s.vm.findClass "Generations" = some m.cls := hown
  refine lv_iload_n hx hb d_X_count_0 rfl (lv_at hl 1 rfl) ?_
  rcases gx_sw5 k with h9 | h9 | h9 | h9 | h9 | h9 | h9
  · refine lv_tableOut (tgt := 84) hx hb d_X_count_1 h9 (by decide) ?_
    refine lv_iconst (v := -1) hx hb d_X_count_84 (by decide) ?_
    exact gw_iret hx hb hr hlocks hS hW (Nat.le_of_ble_eq_true rfl) (Nat.le_of_ble_eq_true rfl) d_X_count_85 (⟨(gx_cntO h9), rfl⟩)
  · refine lv_tableIn (tgt := 40) hx hb d_X_count_1 (by rw [h9]; decide) (by rw [h9]; decide) (by rw [h9]; rfl) (by decide) ?_
    refine lv_aload_n hx hb d_X_count_40 rfl (lv_at hl 0 rfl) ?_
    refine gw_get (ci := 0) (fs := [.int lim, .int sc, .int 0, .ref row, .ref jobs, .ref known, .ref nowh, .ref gone, .int 0]) hx hb hts in_X hown hE.K hW hf_x rfl 3 (by decide) (hts _ mw28) (fun _ h9 => h9) rfl d_X_count_41 ?_
    refine gw_getN (ci := 1) (fs := [.ref nums, .int 0]) hx hb hts in_Row hown hE.K hW hf_row rfl 1 (by decide) (hts _ mw90) (fun _ h9 => h9) rfl d_X_count_44 ?_
    exact gw_iret hx hb hr hlocks hS hW (Nat.le_of_ble_eq_true rfl) (Nat.le_of_ble_eq_true rfl) d_X_count_47 (⟨(by rw [h9]; decide), rfl⟩)
  · refine lv_tableIn (tgt := 48) hx hb d_X_count_1 (by rw [h9]; decide) (by rw [h9]; decide) (by rw [h9]; rfl) (by decide) ?_
    refine lv_aload_n hx hb d_X_count_48 rfl (lv_at hl 0 rfl) ?_
    refine lv_iconst (v := 2) hx hb d_X_count_49 (by decide) ?_
    refine gw_calli hS (va_runV (As := [.int 2]) (rest := []) ⟨hx, hb, hml, hown, hts⟩ (c_howMany l G M x row jobs known nowh gone lim sc 2 hf_x hf_known ) (cwV 1 hts (gw_gv mw147 mw148 mw149 mw83 mw146) rfl rfl rfl (by decide +kernel) ⟨Nat.le_of_ble_eq_true rfl, Nat.le_of_ble_eq_true rfl⟩) (gw_pv hE hB hS hW rfl hf_x) rfl rfl hl.1 rfl (lv_room (Nat.le_of_ble_eq_true rfl)) d_X_count_50 ⟨Nat.le_of_ble_eq_true rfl, Nat.le_of_ble_eq_true rfl⟩) (fun r1 M2 H locs hw3 hW hS => ?_)
    obtain ⟨rfl, rfl⟩ := hw3
    refine lv_aload_n hx hb d_X_count_53 rfl (lv_at hl 0 rfl) ?_
    refine lv_iconst (v := 3) hx hb d_X_count_54 (by decide) ?_
    refine gw_calli hS (va_runV (As := [.int 3]) (rest := [.int 0]) ⟨hx, hb, hml, hown, hts⟩ (c_howMany l G M x row jobs known nowh gone lim sc 3 hf_x hf_known ) (cwV 1 hts (gw_gv mw147 mw148 mw149 mw83 mw146) rfl rfl rfl (by decide +kernel) ⟨Nat.le_of_ble_eq_true rfl, Nat.le_of_ble_eq_true rfl⟩) (gw_pv hE hB hS hW rfl hf_x) rfl rfl hl.1 rfl (lv_room (Nat.le_of_ble_eq_true rfl)) d_X_count_55 ⟨Nat.le_of_ble_eq_true rfl, Nat.le_of_ble_eq_true rfl⟩) (fun r4 M5 H locs hw6 hW hS => ?_)
    obtain ⟨rfl, rfl⟩ := hw6
    refine lv_iadd hx hb d_X_count_58 ?_
    exact gw_iret hx hb hr hlocks hS hW (Nat.le_of_ble_eq_true rfl) (Nat.le_of_ble_eq_true rfl) d_X_count_59 (⟨(by rw [h9]; decide), rfl⟩)
  · refine lv_tableIn (tgt := 60) hx hb d_X_count_1 (by rw [h9]; decide) (by rw [h9]; decide) (by rw [h9]; rfl) (by decide) ?_
    refine lv_aload_n hx hb d_X_count_60 rfl (lv_at hl 0 rfl) ?_
    refine lv_iconst (v := 4) hx hb d_X_count_61 (by decide) ?_
    refine gw_calli hS (va_runV (As := [.int 4]) (rest := []) ⟨hx, hb, hml, hown, hts⟩ (c_howMany l G M x row jobs known nowh gone lim sc 4 hf_x hf_known ) (cwV 1 hts (gw_gv mw147 mw148 mw149 mw83 mw146) rfl rfl rfl (by decide +kernel) ⟨Nat.le_of_ble_eq_true rfl, Nat.le_of_ble_eq_true rfl⟩) (gw_pv hE hB hS hW rfl hf_x) rfl rfl hl.1 rfl (lv_room (Nat.le_of_ble_eq_true rfl)) d_X_count_62 ⟨Nat.le_of_ble_eq_true rfl, Nat.le_of_ble_eq_true rfl⟩) (fun r7 M8 H locs hw9 hW hS => ?_)
    obtain ⟨rfl, rfl⟩ := hw9
    exact gw_iret hx hb hr hlocks hS hW (Nat.le_of_ble_eq_true rfl) (Nat.le_of_ble_eq_true rfl) d_X_count_65 (⟨(by rw [h9]; decide), rfl⟩)
  · refine lv_tableIn (tgt := 66) hx hb d_X_count_1 (by rw [h9]; decide) (by rw [h9]; decide) (by rw [h9]; rfl) (by decide) ?_
    refine lv_aload_n hx hb d_X_count_66 rfl (lv_at hl 0 rfl) ?_
    refine gw_get (ci := 0) (fs := [.int lim, .int sc, .int 0, .ref row, .ref jobs, .ref known, .ref nowh, .ref gone, .int 0]) hx hb hts in_X hown hE.K hW hf_x rfl 4 (by decide) (hts _ mw35) (fun _ h9 => h9) rfl d_X_count_67 ?_
    refine gw_calli hS (va_runV (As := []) (rest := []) ⟨hx, hb, hml, hown, hts⟩ (c_AL_size l G M jobs 4 0 (G.2.2.1 0) 0 hf_jobs ) (cwV 0 hts (gw_gv mw58 mw59 mw60 mw31 mw57) rfl rfl rfl (by decide +kernel) ⟨Nat.le_of_ble_eq_true rfl, Nat.le_of_ble_eq_true rfl⟩) (gw_pv hE hB hS hW rfl hf_jobs) rfl rfl hl.1 rfl (lv_room (Nat.le_of_ble_eq_true rfl)) d_X_count_70 ⟨Nat.le_of_ble_eq_true rfl, Nat.le_of_ble_eq_true rfl⟩) (fun r10 M11 H locs hw12 hW hS => ?_)
    obtain ⟨rfl, rfl⟩ := hw12
    exact gw_iret hx hb hr hlocks hS hW (Nat.le_of_ble_eq_true rfl) (Nat.le_of_ble_eq_true rfl) d_X_count_73 (⟨(by rw [h9]; decide), rfl⟩)
  · refine lv_tableIn (tgt := 74) hx hb d_X_count_1 (by rw [h9]; decide) (by rw [h9]; decide) (by rw [h9]; rfl) (by decide) ?_
    refine lv_aload_n hx hb d_X_count_74 rfl (lv_at hl 0 rfl) ?_
    refine gw_calli hS (va_runV (As := []) (rest := []) ⟨hx, hb, hml, hown, hts⟩ (c_jobThatMakes l G M x row jobs known nowh gone lim sc hf_x hf_known ) (cwV 0 hts (gw_gv mw151 mw152 mw153 mw83 mw150) rfl rfl rfl (by decide +kernel) ⟨Nat.le_of_ble_eq_true rfl, Nat.le_of_ble_eq_true rfl⟩) (gw_pv hE hB hS hW rfl hf_x) rfl rfl hl.1 rfl (lv_room (Nat.le_of_ble_eq_true rfl)) d_X_count_75 ⟨Nat.le_of_ble_eq_true rfl, Nat.le_of_ble_eq_true rfl⟩) (fun r13 M14 H locs hw15 hW hS => ?_)
    obtain ⟨rfl, rfl⟩ := hw15
    exact gw_iret hx hb hr hlocks hS hW (Nat.le_of_ble_eq_true rfl) (Nat.le_of_ble_eq_true rfl) d_X_count_78 (⟨(by rw [h9]; decide), rfl⟩)
  · refine lv_tableIn (tgt := 79) hx hb d_X_count_1 (by rw [h9]; decide) (by rw [h9]; decide) (by rw [h9]; rfl) (by decide) ?_
    refine lv_aload_n hx hb d_X_count_79 rfl (lv_at hl 0 rfl) ?_
    refine gw_get (ci := 0) (fs := [.int lim, .int sc, .int 0, .ref row, .ref jobs, .ref known, .ref nowh, .ref gone, .int 0]) hx hb hts in_X hown hE.K hW hf_x rfl 8 (by decide) (hts _ mw140) (fun _ h9 => h9) rfl d_X_count_80 ?_
    exact gw_iret hx hb hr hlocks hS hW (Nat.le_of_ble_eq_true rfl) (Nat.le_of_ble_eq_true rfl) d_X_count_83 (⟨(by rw [h9]; decide), rfl⟩)
