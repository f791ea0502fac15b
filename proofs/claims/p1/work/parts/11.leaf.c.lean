set_option maxHeartbeats 4000000 in
set_option maxRecDepth 100000 in
theorem c_AL_size (l : Launch) (G : gw_G) (M : gw_M) (a : Nat) (r : Nat) (k : Int32) (e : Nat) (n : Int32) (hf_a : M a = some (r, .inr (4, [.int k, .ref e, .int n]))) : Met l y_AL_size [.code y_AL_size b_AL_size 1 (some .int)] ({ frames := 0, cells := 0, slots := 0, locals := 0 }) (gw_Pc G M [.ref a]) (gw_Qi G (fun r M2 => n = r ∧ M = M2)) 0 0 (gw_A G) := by
  refine gw_start (by decide) (Nat.le_of_ble_eq_true rfl) (fun p9 e9 s m b9 mt9 c9 hx hb hr hml hown hlocks hin hE hB hW ls hl => ?_)
  have hts := hE.ts ([.ref a] : List Value).toArray
  have hl : lv_has ls 1 [(0, .ref a)] := hl
  have hS : va_S (gw_A G) s.heap s.heap [] := va_S.rf
  have hown : s.vm.findClass "java/util/ArrayList" = some m.cls := hown
  refine lv_aload_n hx hb d_AL_size_0 rfl (lv_at hl 0 rfl) ?_
  refine gw_get (ci := 4) (fs := [.int k, .ref e, .int n]) hx hb hts in_AL hown hE.K hW hf_a rfl 2 (by decide) (hts _ mw54) (fun _ h9 => h9) rfl d_AL_size_1 ?_
  exact gw_iret hx hb hr hlocks hS hW (Nat.le_of_ble_eq_true rfl) (Nat.le_of_ble_eq_true rfl) d_AL_size_4 (⟨rfl, rfl⟩)

set_option maxHeartbeats 4000000 in
set_option maxRecDepth 100000 in
theorem c_isNumber (l : Launch) (G : gw_G) (M : gw_M) (k : Int32) : Met l y_X_isNumber [.code y_X_isNumber b_X_isNumber 1 (some .boolean)] ({ frames := 0, cells := 0, slots := 0, locals := 0 }) (gw_Pc G M [.int k]) (gw_Qi G (fun r M2 => gx_num k = r ∧ M = M2)) 0 0 (gw_A G) := by
  refine gw_start (by decide) (Nat.le_of_ble_eq_true rfl) (fun p9 e9 s m b9 mt9 c9 hx hb hr hml hown hlocks hin hE hB hW ls hl => ?_)
  have hts := hE.ts ([.int k] : List Value).toArray
  have hl : lv_has ls 1 [(0, .int k)] := hl
  have hS : va_S (gw_A G) s.heap s.heap [] := va_S.rf
  have hown : s.vm.findClass "Generations" = some m.cls := hown
  refine lv_iload_n hx hb d_X_isNumber_0 rfl (lv_at hl 0 rfl) ?_
  refine lv_iconst (v := 1) hx hb d_X_isNumber_1 (by decide) ?_
  refine lv_icmp_lt (tgt := 16) hx hb d_X_isNumber_2 (by decide) (fun c2 => ?_) (fun c2 => ?_)
  · refine lv_iconst (v := 0) hx hb d_X_isNumber_16 (by decide) ?_
    exact gw_zret hx hb hr hlocks rfl hS hW (Nat.le_of_ble_eq_true rfl) (Nat.le_of_ble_eq_true rfl) d_X_isNumber_17 (⟨(gx_num0 c2), rfl⟩)
  · refine lv_iload_n hx hb d_X_isNumber_5 rfl (lv_at hl 0 rfl) ?_
    refine lv_sipush (v := 9999) hx hb d_X_isNumber_6 (by decide) ?_
    refine lv_icmp_gt (tgt := 16) hx hb d_X_isNumber_9 (by decide) (fun c9 => ?_) (fun c9 => ?_)
    · refine lv_iconst (v := 0) hx hb d_X_isNumber_16 (by decide) ?_
      exact gw_zret hx hb hr hlocks rfl hS hW (Nat.le_of_ble_eq_true rfl) (Nat.le_of_ble_eq_true rfl) d_X_isNumber_17 (⟨(gx_num0' c9), rfl⟩)
    · refine lv_iconst (v := 1) hx hb d_X_isNumber_12 (by decide) ?_
      refine lv_goto (tgt := 17) hx hb d_X_isNumber_13 (by decide) ?_
      exact gw_zret hx hb hr hlocks rfl hS hW (Nat.le_of_ble_eq_true rfl) (Nat.le_of_ble_eq_true rfl) d_X_isNumber_17 (⟨(gx_num1 c2 c9), rfl⟩)

set_option maxHeartbeats 4000000 in
set_option maxRecDepth 100000 in
theorem c_isDeferred (l : Launch) (G : gw_G) (M : gw_M) (a : Nat) (r : Nat) (hf_a : M a = some (r, .inr (2, [.int 0, .int 0, .int 0, .int 0, .int 0]))) : Met l y_Gen_isDeferred [.code y_Gen_isDeferred b_Gen_isDeferred 1 (some .boolean)] ({ frames := 0, cells := 0, slots := 0, locals := 0 }) (gw_Pc G M [.ref a]) (gw_Qi G (fun r M2 => 0 = r ∧ M = M2)) 0 0 (gw_A G) := by
  refine gw_start (by decide) (Nat.le_of_ble_eq_true rfl) (fun p9 e9 s m b9 mt9 c9 hx hb hr hml hown hlocks hin hE hB hW ls hl => ?_)
  have hts := hE.ts ([.ref a] : List Value).toArray
  have hl : lv_has ls 1 [(0, .ref a)] := hl
  have hS : va_S (gw_A G) s.heap s.heap [] := va_S.rf
  have hown : s.vm.findClass "Generations$Generation" = some m.cls := hown
  refine lv_aload_n hx hb d_Gen_isDeferred_0 rfl (lv_at hl 0 rfl) ?_
  refine gw_get (ci := 2) (fs := [.int 0, .int 0, .int 0, .int 0, .int 0]) hx hb hts in_Gen hown hE.K hW hf_a rfl 1 (by decide) (hts _ mw18) (fun _ h9 => h9) rfl d_Gen_isDeferred_1 ?_
  refine lv_iconst (v := 2) hx hb d_Gen_isDeferred_4 (by decide) ?_
  refine lv_icmp_eq (tgt := 16) hx hb d_Gen_isDeferred_5 (by decide) (fun c5 => ?_) (fun c5 => ?_)
  · exact absurd c5 (by decide)
  · refine lv_aload_n hx hb d_Gen_isDeferred_8 rfl (lv_at hl 0 rfl) ?_
    refine gw_get (ci := 2) (fs := [.int 0, .int 0, .int 0, .int 0, .int 0]) hx hb hts in_Gen hown hE.K hW hf_a rfl 1 (by decide) (hts _ mw18) (fun _ h9 => h9) rfl d_Gen_isDeferred_9 ?_
    refine lv_iconst (v := 3) hx hb d_Gen_isDeferred_12 (by decide) ?_
    refine lv_icmp_ne (tgt := 20) hx hb d_Gen_isDeferred_13 (by decide) (fun c13 => ?_) (fun c13 => ?_)
    · refine lv_iconst (v := 0) hx hb d_Gen_isDeferred_20 (by decide) ?_
      exact gw_zret hx hb hr hlocks rfl hS hW (Nat.le_of_ble_eq_true rfl) (Nat.le_of_ble_eq_true rfl) d_Gen_isDeferred_21 (⟨rfl, rfl⟩)
    · exact absurd c13 (by decide)

set_option maxHeartbeats 4000000 in
set_option maxRecDepth 100000 in
theorem c_beginAnew (l : Launch) (G : gw_G) (M : gw_M) (a : Nat) (k : Int32) (hf_a : M a = some (9, .inr (2, [.int k, .int 0, .int 0, .int 0, .int 0]))) : Met l y_Gen_beginAnew [.code y_Gen_beginAnew b_Gen_beginAnew 2 none] ({ frames := 0, cells := 0, slots := 0, locals := 0 }) (gw_Pc G M [.ref a, .int 0]) (gw_Qv G (fun M2 => M2 a = some (9, .inr (2, [.int k, .int 0, .int 0, .int 0, .int 0])) ∧ gw_fr (gw_out [9]) M M2)) 0 0 (gw_A G) := by
  refine gw_start (by decide) (Nat.le_of_ble_eq_true rfl) (fun p9 e9 s m b9 mt9 c9 hx hb hr hml hown hlocks hin hE hB hW ls hl => ?_)
  have hts := hE.ts ([.ref a, .int 0] : List Value).toArray
  have hl : lv_has ls 2 [(0, .ref a), (1, .int 0)] := hl
  have hS : va_S (gw_A G) s.heap s.heap [] := va_S.rf
  have hown : s.vm.findClass "Generations$Generation" = some m.cls := hown
  refine lv_aload_n hx hb d_Gen_beginAnew_0 rfl (lv_at hl 0 rfl) ?_
  refine lv_iload_n hx hb d_Gen_beginAnew_1 rfl (lv_at hl 1 rfl) ?_
  refine gw_put (ci := 2) (fs := [.int k, .int 0, .int 0, .int 0, .int 0]) (v := .int 0) (ty := .int) hx hb hts in_Gen t_Gen t_Gen_ok n_Gen hown hE.K hW hS hf_a rfl 3 (by decide) (hts _ mw19) (fun _ h9 => h9) rfl (by decide +kernel) rfl rfl (Nat.le_of_ble_eq_true rfl) d_Gen_beginAnew_2 (fun H locs hW hS => ?_)
  have hF1 : gw_fr (gw_out [9]) M (gw_up M a 9 (.inr (2, [.int k, .int 0, .int 0, .int 0, .int 0]))) := gw_fr.up gw_fr.rf hf_a (show ¬ ((gw_out [9]) 9) by decide) (show ¬ ((gw_out [9]) 9) by decide)
  obtain ⟨M2, eM2⟩ : ∃ z, z = gw_up M a 9 (.inr (2, [.int k, .int 0, .int 0, .int 0, .int 0])) := ⟨_, rfl⟩
  replace hW : gw_P G.1 vwCl G.2.2.2 M2 H := by rw [eM2]; exact hW
  have hf_a : M2 a = some (9, .inr (2, [.int k, .int 0, .int 0, .int 0, .int 0])) := by rw [eM2]; exact gw_up_self _ _ _ _
  rw [← eM2] at hF1
  refine lv_aload_n hx hb d_Gen_beginAnew_5 rfl (lv_at hl 0 rfl) ?_
  refine lv_iconst (v := 0) hx hb d_Gen_beginAnew_6 (by decide) ?_
  refine gw_put (ci := 2) (fs := [.int k, .int 0, .int 0, .int 0, .int 0]) (v := .int 0) (ty := .int) hx hb hts in_Gen t_Gen t_Gen_ok n_Gen hown hE.K hW hS hf_a rfl 2 (by decide) (hts _ mw55) (fun _ h9 => h9) rfl (by decide +kernel) rfl rfl (Nat.le_of_ble_eq_true rfl) d_Gen_beginAnew_7 (fun H locs hW hS => ?_)
  have hF3 : gw_fr (gw_out [9]) M (gw_up M2 a 9 (.inr (2, [.int k, .int 0, .int 0, .int 0, .int 0]))) := gw_fr.up hF1 hf_a (show ¬ ((gw_out [9]) 9) by decide) (show ¬ ((gw_out [9]) 9) by decide)
  obtain ⟨M4, eM4⟩ : ∃ z, z = gw_up M2 a 9 (.inr (2, [.int k, .int 0, .int 0, .int 0, .int 0])) := ⟨_, rfl⟩
  replace hW : gw_P G.1 vwCl G.2.2.2 M4 H := by rw [eM4]; exact hW
  have hf_a : M4 a = some (9, .inr (2, [.int k, .int 0, .int 0, .int 0, .int 0])) := by rw [eM4]; exact gw_up_self _ _ _ _
  rw [← eM4] at hF3
  refine lv_aload_n hx hb d_Gen_beginAnew_10 rfl (lv_at hl 0 rfl) ?_
  refine lv_iconst (v := 0) hx hb d_Gen_beginAnew_11 (by decide) ?_
  refine gw_put (ci := 2) (fs := [.int k, .int 0, .int 0, .int 0, .int 0]) (v := .int 0) (ty := .int) hx hb hts in_Gen t_Gen t_Gen_ok n_Gen hown hE.K hW hS hf_a rfl 4 (by decide) (hts _ mw56) (fun _ h9 => h9) rfl (by decide +kernel) rfl rfl (Nat.le_of_ble_eq_true rfl) d_Gen_beginAnew_12 (fun H locs hW hS => ?_)
  have hF5 : gw_fr (gw_out [9]) M (gw_up M4 a 9 (.inr (2, [.int k, .int 0, .int 0, .int 0, .int 0]))) := gw_fr.up hF3 hf_a (show ¬ ((gw_out [9]) 9) by decide) (show ¬ ((gw_out [9]) 9) by decide)
  obtain ⟨M6, eM6⟩ : ∃ z, z = gw_up M4 a 9 (.inr (2, [.int k, .int 0, .int 0, .int 0, .int 0])) := ⟨_, rfl⟩
  replace hW : gw_P G.1 vwCl G.2.2.2 M6 H := by rw [eM6]; exact hW
  have hf_a : M6 a = some (9, .inr (2, [.int k, .int 0, .int 0, .int 0, .int 0])) := by rw [eM6]; exact gw_up_self _ _ _ _
  rw [← eM6] at hF5
  exact gw_vret hx hb hr hlocks hS hW (Nat.le_of_ble_eq_true rfl) (Nat.le_of_ble_eq_true rfl) d_Gen_beginAnew_15 (⟨hf_a, hF5⟩)

set_option maxHeartbeats 4000000 in
set_option maxRecDepth 100000 in
theorem c_find (l : Launch) (G : gw_G) (M : gw_M) (x : Nat) (row : Nat) (jobs : Nat) (known : Nat) (nowh : Nat) (gone : Nat) (lim : Int32) (sc : Int32) (k : Int32) (hf_x : M x = some (1, .inr (0, [.int lim, .int sc, .int 0, .ref row, .ref jobs, .ref known, .ref nowh, .ref gone, .int 0]))) (hf_known : M known = some (5, .inr (4, [.int 0, .ref (G.2.2.1 0), .int 0]))) : Met l y_X_find [.code y_X_find b_X_find 4 (some (.object "Generations$Generation"))] ({ frames := 1, cells := 0, slots := 0, locals := 20 }) (gw_Pc G M [.ref x, .int k]) (gw_Qr G (fun r M2 => nowh = r ∧ M = M2)) 0 0 (gw_A G) := by
  refine gw_start (by decide) (Nat.le_of_ble_eq_true rfl) (fun p9 e9 s m b9 mt9 c9 hx hb hr hml hown hlocks hin hE hB hW ls hl => ?_)
  have hts := hE.ts ([.ref x, .int k] : List Value).toArray
  have hl : lv_has ls 4 [(0, .ref x), (1, .int k)] := hl
  have hS : va_S (gw_A G) s.heap s.heap [] := va_S.rf
  have hown : s.vm.findClass "Generations" = some m.cls := hown
  refine lv_iconst (v := 0) hx hb d_X_find_0 (by decide) ?_
  refine lv_istore_n (lv' := [(2, .int 0), (0, .ref x), (1, .int k)]) hx hb d_X_find_1 rfl hl (by decide) rfl (fun ls hl => ?_)
  refine lv_iload_n hx hb d_X_find_2 rfl (lv_at hl 0 rfl) ?_
  refine lv_aload_n hx hb d_X_find_3 rfl (lv_at hl 1 rfl) ?_
  refine gw_get (ci := 0) (fs := [.int lim, .int sc, .int 0, .ref row, .ref jobs, .ref known, .ref nowh, .ref gone, .int 0]) hx hb hts in_X hown hE.K hW hf_x rfl 5 (by decide) (hts _ mw36) (fun _ h9 => h9) rfl d_X_find_4 ?_
  refine gw_calli hS (va_runV (As := []) (rest := [.int 0]) ⟨hx, hb, hml, hown, hts⟩ (c_AL_size l G M known 5 0 (G.2.2.1 0) 0 hf_known ) (cwV 0 hts (gw_gv mw58 mw59 mw60 mw31 mw57) rfl rfl rfl (by decide +kernel) ⟨Nat.le_of_ble_eq_true rfl, Nat.le_of_ble_eq_true rfl⟩) (gw_pv hE hB hS hW rfl hf_known) rfl rfl hl.1 rfl (lv_room (Nat.le_of_ble_eq_true rfl)) d_X_find_7 ⟨Nat.le_of_ble_eq_true rfl, Nat.le_of_ble_eq_true rfl⟩) (fun r1 M2 H locs hw3 hW hS => ?_)
  obtain ⟨rfl, rfl⟩ := hw3
  refine lv_icmp_ge (tgt := 41) hx hb d_X_find_10 (by decide) (fun c10 => ?_) (fun c10 => ?_)
  · refine lv_aload_n hx hb d_X_find_41 rfl (lv_at hl 1 rfl) ?_
    refine gw_get (ci := 0) (fs := [.int lim, .int sc, .int 0, .ref row, .ref jobs, .ref known, .ref nowh, .ref gone, .int 0]) hx hb hts in_X hown hE.K hW hf_x rfl 6 (by decide) (hts _ mw43) (fun _ h9 => h9) rfl d_X_find_42 ?_
    exact gw_aret hx hb hr hlocks (Or.inl ⟨_, rfl⟩) hS hW (Nat.le_of_ble_eq_true rfl) (Nat.le_of_ble_eq_true rfl) d_X_find_45 (⟨rfl, rfl⟩)
  · exact absurd c10 (by decide)

set_option maxHeartbeats 4000000 in
set_option maxRecDepth 100000 in
theorem c_howMany (l : Launch) (G : gw_G) (M : gw_M) (x : Nat) (row : Nat) (jobs : Nat) (known : Nat) (nowh : Nat) (gone : Nat) (lim : Int32) (sc : Int32) (k : Int32) (hf_x : M x = some (1, .inr (0, [.int lim, .int sc, .int 0, .ref row, .ref jobs, .ref known, .ref nowh, .ref gone, .int 0]))) (hf_known : M known = some (5, .inr (4, [.int 0, .ref (G.2.2.1 0), .int 0]))) : Met l y_X_howManyAre [.code y_X_howManyAre b_X_howManyAre 4 (some .int)] ({ frames := 1, cells := 0, slots := 0, locals := 20 }) (gw_Pc G M [.ref x, .int k]) (gw_Qi G (fun r M2 => 0 = r ∧ M = M2)) 0 0 (gw_A G) := by
  refine gw_start (by decide) (Nat.le_of_ble_eq_true rfl) (fun p9 e9 s m b9 mt9 c9 hx hb hr hml hown hlocks hin hE hB hW ls hl => ?_)
  have hts := hE.ts ([.ref x, .int k] : List Value).toArray
  have hl : lv_has ls 4 [(0, .ref x), (1, .int k)] := hl
  have hS : va_S (gw_A G) s.heap s.heap [] := va_S.rf
  have hown : s.vm.findClass "Generations" = some m.cls := hown
  refine lv_iconst (v := 0) hx hb d_X_howManyAre_0 (by decide) ?_
  refine lv_istore_n (lv' := [(2, .int 0), (0, .ref x), (1, .int k)]) hx hb d_X_howManyAre_1 rfl hl (by decide) rfl (fun ls hl => ?_)
  refine lv_iconst (v := 0) hx hb d_X_howManyAre_2 (by decide) ?_
  refine lv_istore_n (lv' := [(3, .int 0), (2, .int 0), (0, .ref x), (1, .int k)]) hx hb d_X_howManyAre_3 rfl hl (by decide) rfl (fun ls hl => ?_)
  refine lv_iload_n hx hb d_X_howManyAre_4 rfl (lv_at hl 0 rfl) ?_
  refine lv_aload_n hx hb d_X_howManyAre_5 rfl (lv_at hl 2 rfl) ?_
  refine gw_get (ci := 0) (fs := [.int lim, .int sc, .int 0, .ref row, .ref jobs, .ref known, .ref nowh, .ref gone, .int 0]) hx hb hts in_X hown hE.K hW hf_x rfl 5 (by decide) (hts _ mw36) (fun _ h9 => h9) rfl d_X_howManyAre_6 ?_
  refine gw_calli hS (va_runV (As := []) (rest := [.int 0]) ⟨hx, hb, hml, hown, hts⟩ (c_AL_size l G M known 5 0 (G.2.2.1 0) 0 hf_known ) (cwV 0 hts (gw_gv mw58 mw59 mw60 mw31 mw57) rfl rfl rfl (by decide +kernel) ⟨Nat.le_of_ble_eq_true rfl, Nat.le_of_ble_eq_true rfl⟩) (gw_pv hE hB hS hW rfl hf_known) rfl rfl hl.1 rfl (lv_room (Nat.le_of_ble_eq_true rfl)) d_X_howManyAre_9 ⟨Nat.le_of_ble_eq_true rfl, Nat.le_of_ble_eq_true rfl⟩) (fun r1 M2 H locs hw3 hW hS => ?_)
  obtain ⟨rfl, rfl⟩ := hw3
  refine lv_icmp_ge (tgt := 42) hx hb d_X_howManyAre_12 (by decide) (fun c12 => ?_) (fun c12 => ?_)
  · refine lv_iload_n hx hb d_X_howManyAre_42 rfl (lv_at hl 1 rfl) ?_
    exact gw_iret hx hb hr hlocks hS hW (Nat.le_of_ble_eq_true rfl) (Nat.le_of_ble_eq_true rfl) d_X_howManyAre_43 (⟨rfl, rfl⟩)
  · exact absurd c12 (by decide)

set_option maxHeartbeats 4000000 in
set_option maxRecDepth 100000 in
theorem c_jobThatMakes (l : Launch) (G : gw_G) (M : gw_M) (x : Nat) (row : Nat) (jobs : Nat) (known : Nat) (nowh : Nat) (gone : Nat) (lim : Int32) (sc : Int32) (hf_x : M x = some (1, .inr (0, [.int lim, .int sc, .int 0, .ref row, .ref jobs, .ref known, .ref nowh, .ref gone, .int 0]))) (hf_known : M known = some (5, .inr (4, [.int 0, .ref (G.2.2.1 0), .int 0]))) : Met l y_X_jobThatMakes [.code y_X_jobThatMakes b_X_jobThatMakes 3 (some .int)] ({ frames := 1, cells := 0, slots := 0, locals := 20 }) (gw_Pc G M [.ref x]) (gw_Qi G (fun r M2 => 0 = r ∧ M = M2)) 0 0 (gw_A G) := by
  refine gw_start (by decide) (Nat.le_of_ble_eq_true rfl) (fun p9 e9 s m b9 mt9 c9 hx hb hr hml hown hlocks hin hE hB hW ls hl => ?_)
  have hts := hE.ts ([.ref x] : List Value).toArray
  have hl : lv_has ls 3 [(0, .ref x)] := hl
  have hS : va_S (gw_A G) s.heap s.heap [] := va_S.rf
  have hown : s.vm.findClass "Generations" = some m.cls := hown
  refine lv_iconst (v := 0) hx hb d_X_jobThatMakes_0 (by decide) ?_
  refine lv_istore_n (lv' := [(1, .int 0), (0, .ref x)]) hx hb d_X_jobThatMakes_1 rfl hl (by decide) rfl (fun ls hl => ?_)
  refine lv_iload_n hx hb d_X_jobThatMakes_2 rfl (lv_at hl 0 rfl) ?_
  refine lv_aload_n hx hb d_X_jobThatMakes_3 rfl (lv_at hl 1 rfl) ?_
  refine gw_get (ci := 0) (fs := [.int lim, .int sc, .int 0, .ref row, .ref jobs, .ref known, .ref nowh, .ref gone, .int 0]) hx hb hts in_X hown hE.K hW hf_x rfl 5 (by decide) (hts _ mw36) (fun _ h9 => h9) rfl d_X_jobThatMakes_4 ?_
  refine gw_calli hS (va_runV (As := []) (rest := [.int 0]) ⟨hx, hb, hml, hown, hts⟩ (c_AL_size l G M known 5 0 (G.2.2.1 0) 0 hf_known ) (cwV 0 hts (gw_gv mw58 mw59 mw60 mw31 mw57) rfl rfl rfl (by decide +kernel) ⟨Nat.le_of_ble_eq_true rfl, Nat.le_of_ble_eq_true rfl⟩) (gw_pv hE hB hS hW rfl hf_known) rfl rfl hl.1 rfl (lv_room (Nat.le_of_ble_eq_true rfl)) d_X_jobThatMakes_7 ⟨Nat.le_of_ble_eq_true rfl, Nat.le_of_ble_eq_true rfl⟩) (fun r1 M2 H locs hw3 hW hS => ?_)
  obtain ⟨rfl, rfl⟩ := hw3
  refine lv_icmp_ge (tgt := 44) hx hb d_X_jobThatMakes_10 (by decide) (fun c10 => ?_) (fun c10 => ?_)
  · refine lv_iconst (v := 0) hx hb d_X_jobThatMakes_44 (by decide) ?_
    exact gw_iret hx hb hr hlocks hS hW (Nat.le_of_ble_eq_true rfl) (Nat.le_of_ble_eq_true rfl) d_X_jobThatMakes_45 (⟨rfl, rfl⟩)
  · exact absurd c10 (by decide)
