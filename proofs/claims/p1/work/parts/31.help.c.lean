set_option maxHeartbeats 4000000 in
set_option maxRecDepth 100000 in
theorem h_relative (l : Launch) (hl9 : l.stackTraces = false) (G : gw_G) (M : gw_M) (x : Nat) (row : Nat) (jobs : Nat) (known : Nat) (nowh : Nat) (gone : Nat) (lim : Int32) (sc : Int32) (k : Int32) (n : Int32) (out : Nat) (hf_x : M x = some (1, .inr (0, [.int lim, .int sc, .int 0, .ref row, .ref jobs, .ref known, .ref nowh, .ref gone, .int 0]))) (hf_jobs : M jobs = some (4, .inr (4, [.int 0, .ref (G.2.2.1 0), .int 0]))) : Met l y_Law_relative [.codeWith y_Law_relative b_Law_relative 5 (some .int) [(0, 10, 13, 13)]] ({ frames := 8, cells := 1, slots := 6, locals := 127 }) (gw_Pc G M [.ref x, .int k, .int n, .ref out]) (gw_Qi G (fun r M2 => 1 = r ∧ M = M2)) 1 6 (gw_A G) := by
  refine gt_startH (by decide) (Nat.le_of_ble_eq_true rfl) (fun p9 e9 s m b9 mt9 c9 hTab hx hb hr hml hown hlocks hin hE hB hW ls hl => ?_)
  have hts := hE.ts ([.ref x, .int k, .int n, .ref out] : List Value).toArray
  have hl : lv_has ls 5 [(0, .ref x), (1, .int k), (2, .int n), (3, .ref out)] := hl
  have hS : va_S (gw_A G) s.heap s.heap [] := va_S.rf
  have hown : s.vm.findClass "GenerationsLaw" = some m.cls := hown
  refine lv_aload_n hx hb d_Law_relative_0 rfl (lv_at hl 3 rfl) ?_
  refine lv_iconst (v := 0) hx hb d_Law_relative_1 (by decide) ?_
  refine lv_aload_n hx hb d_Law_relative_2 rfl (lv_at hl 0 rfl) ?_
  refine lv_iload_n hx hb d_Law_relative_3 rfl (lv_at hl 1 rfl) ?_
  refine lv_iload_n hx hb d_Law_relative_4 rfl (lv_at hl 2 rfl) ?_
  refine gt_callV (As := [.int k, .int n]) (rest := [.int 0, .ref out]) hS ⟨hx, hb, hml, hown, hts⟩ (c_relative l hl9 G M x row jobs known nowh gone lim sc k n hf_x hf_jobs ) (cwV 2 hts (gw_gv mw213 mw214 mw215 mw83 mw212) rfl rfl rfl (by decide +kernel) ⟨Nat.le_of_ble_eq_true rfl, Nat.le_of_ble_eq_true rfl⟩) (gw_pv hE hB hS hW rfl hf_x) rfl hl.1 rfl (lv_room (Nat.le_of_ble_eq_true rfl)) d_Law_relative_5 ⟨Nat.le_of_ble_eq_true rfl, Nat.le_of_ble_eq_true rfl⟩ (fun ce5 q4 M2 H locs hw3 hW hS hce hcv hcl => ?_)
  obtain rfl := hw3
  refine gt_catch (own := "GenerationsLaw") (x := ⟨0, 10, 13, 13⟩) hTab (by decide) (by decide) hown (hts _ mw216) (hts _ mw217) hce hcv hcl ?_
  show W _ _ _ _ _ _ _ _ _ _ _ _ _ _ _ (F0 m 13 ls [.ref q4])
  refine lv_astore (lv' := [(4, .ref q4), (0, .ref x), (1, .int k), (2, .int n), (3, .ref out)]) hx hb d_Law_relative_13 hl (by decide) rfl (fun ls hl => ?_)
  refine lv_iconst (v := 1) hx hb d_Law_relative_15 (by decide) ?_
  exact gw_iret hx hb hr hlocks hS hW (Nat.le_of_ble_eq_true rfl) (Nat.le_of_ble_eq_true rfl) d_Law_relative_16 (⟨rfl, rfl⟩)

set_option maxHeartbeats 4000000 in
set_option maxRecDepth 100000 in
theorem h_make (l : Launch) (hl9 : l.stackTraces = false) (G : gw_G) (M : gw_M) (x : Nat) (row : Nat) (jobs : Nat) (known : Nat) (nowh : Nat) (gone : Nat) (lim : Int32) (sc : Int32) (k : Int32) (n : Int32) (out : Nat) (hf_x : M x = some (1, .inr (0, [.int lim, .int sc, .int 0, .ref row, .ref jobs, .ref known, .ref nowh, .ref gone, .int 0]))) (hf_jobs : M jobs = some (4, .inr (4, [.int 0, .ref (G.2.2.1 0), .int 0]))) : Met l y_Law_make [.codeWith y_Law_make b_Law_make 5 (some .int) [(0, 10, 13, 13)]] ({ frames := 8, cells := 1, slots := 6, locals := 129 }) (gw_Pc G M [.ref x, .int k, .int n, .ref out]) (gw_Qi G (fun r M2 => 1 = r ∧ M = M2)) 1 6 (gw_A G) := by
  refine gt_startH (by decide) (Nat.le_of_ble_eq_true rfl) (fun p9 e9 s m b9 mt9 c9 hTab hx hb hr hml hown hlocks hin hE hB hW ls hl => ?_)
  have hts := hE.ts ([.ref x, .int k, .int n, .ref out] : List Value).toArray
  have hl : lv_has ls 5 [(0, .ref x), (1, .int k), (2, .int n), (3, .ref out)] := hl
  have hS : va_S (gw_A G) s.heap s.heap [] := va_S.rf
  have hown : s.vm.findClass "GenerationsLaw" = some m.cls := hown
  refine lv_aload_n hx hb d_Law_make_0 rfl (lv_at hl 3 rfl) ?_
  refine lv_iconst (v := 0) hx hb d_Law_make_1 (by decide) ?_
  refine lv_aload_n hx hb d_Law_make_2 rfl (lv_at hl 0 rfl) ?_
  refine lv_iload_n hx hb d_Law_make_3 rfl (lv_at hl 1 rfl) ?_
  refine lv_iload_n hx hb d_Law_make_4 rfl (lv_at hl 2 rfl) ?_
  refine gt_callV (As := [.int k, .int n]) (rest := [.int 0, .ref out]) hS ⟨hx, hb, hml, hown, hts⟩ (c_make l hl9 G M x row jobs known nowh gone lim sc k n hf_x hf_jobs ) (cwV 2 hts (gw_gv mw219 mw220 mw221 mw83 mw218) rfl rfl rfl (by decide +kernel) ⟨Nat.le_of_ble_eq_true rfl, Nat.le_of_ble_eq_true rfl⟩) (gw_pv hE hB hS hW rfl hf_x) rfl hl.1 rfl (lv_room (Nat.le_of_ble_eq_true rfl)) d_Law_make_5 ⟨Nat.le_of_ble_eq_true rfl, Nat.le_of_ble_eq_true rfl⟩ (fun ce5 q4 M2 H locs hw3 hW hS hce hcv hcl => ?_)
  obtain rfl := hw3
  refine gt_catch (own := "GenerationsLaw") (x := ⟨0, 10, 13, 13⟩) hTab (by decide) (by decide) hown (hts _ mw216) (hts _ mw217) hce hcv hcl ?_
  show W _ _ _ _ _ _ _ _ _ _ _ _ _ _ _ (F0 m 13 ls [.ref q4])
  refine lv_astore (lv' := [(4, .ref q4), (0, .ref x), (1, .int k), (2, .int n), (3, .ref out)]) hx hb d_Law_make_13 hl (by decide) rfl (fun ls hl => ?_)
  refine lv_iconst (v := 1) hx hb d_Law_make_15 (by decide) ?_
  exact gw_iret hx hb hr hlocks hS hW (Nat.le_of_ble_eq_true rfl) (Nat.le_of_ble_eq_true rfl) d_Law_make_16 (⟨rfl, rfl⟩)

set_option maxHeartbeats 4000000 in
set_option maxRecDepth 100000 in
theorem h_restart (l : Launch) (hl9 : l.stackTraces = false) (G : gw_G) (M : gw_M) (x : Nat) (row : Nat) (jobs : Nat) (known : Nat) (nowh : Nat) (gone : Nat) (lim : Int32) (sc : Int32) (k : Int32) (n : Int32) (out : Nat) (hf_x : M x = some (1, .inr (0, [.int lim, .int sc, .int 0, .ref row, .ref jobs, .ref known, .ref nowh, .ref gone, .int 0]))) (hf_jobs : M jobs = some (4, .inr (4, [.int 0, .ref (G.2.2.1 0), .int 0]))) : Met l y_Law_restart [.codeWith y_Law_restart b_Law_restart 5 (some .int) [(0, 10, 13, 13)]] ({ frames := 8, cells := 1, slots := 6, locals := 129 }) (gw_Pc G M [.ref x, .int k, .int n, .ref out]) (gw_Qi G (fun r M2 => 1 = r ∧ M = M2)) 1 6 (gw_A G) := by
  refine gt_startH (by decide) (Nat.le_of_ble_eq_true rfl) (fun p9 e9 s m b9 mt9 c9 hTab hx hb hr hml hown hlocks hin hE hB hW ls hl => ?_)
  have hts := hE.ts ([.ref x, .int k, .int n, .ref out] : List Value).toArray
  have hl : lv_has ls 5 [(0, .ref x), (1, .int k), (2, .int n), (3, .ref out)] := hl
  have hS : va_S (gw_A G) s.heap s.heap [] := va_S.rf
  have hown : s.vm.findClass "GenerationsLaw" = some m.cls := hown
  refine lv_aload_n hx hb d_Law_restart_0 rfl (lv_at hl 3 rfl) ?_
  refine lv_iconst (v := 0) hx hb d_Law_restart_1 (by decide) ?_
  refine lv_aload_n hx hb d_Law_restart_2 rfl (lv_at hl 0 rfl) ?_
  refine lv_iload_n hx hb d_Law_restart_3 rfl (lv_at hl 1 rfl) ?_
  refine lv_iload_n hx hb d_Law_restart_4 rfl (lv_at hl 2 rfl) ?_
  refine gt_callV (As := [.int k, .int n]) (rest := [.int 0, .ref out]) hS ⟨hx, hb, hml, hown, hts⟩ (c_restart l hl9 G M x row jobs known nowh gone lim sc k n hf_x hf_jobs ) (cwV 2 hts (gw_gv mw223 mw224 mw225 mw83 mw222) rfl rfl rfl (by decide +kernel) ⟨Nat.le_of_ble_eq_true rfl, Nat.le_of_ble_eq_true rfl⟩) (gw_pv hE hB hS hW rfl hf_x) rfl hl.1 rfl (lv_room (Nat.le_of_ble_eq_true rfl)) d_Law_restart_5 ⟨Nat.le_of_ble_eq_true rfl, Nat.le_of_ble_eq_true rfl⟩ (fun ce5 q4 M2 H locs hw3 hW hS hce hcv hcl => ?_)
  obtain rfl := hw3
  refine gt_catch (own := "GenerationsLaw") (x := ⟨0, 10, 13, 13⟩) hTab (by decide) (by decide) hown (hts _ mw216) (hts _ mw217) hce hcv hcl ?_
  show W _ _ _ _ _ _ _ _ _ _ _ _ _ _ _ (F0 m 13 ls [.ref q4])
  refine lv_astore (lv' := [(4, .ref q4), (0, .ref x), (1, .int k), (2, .int n), (3, .ref out)]) hx hb d_Law_restart_13 hl (by decide) rfl (fun ls hl => ?_)
  refine lv_iconst (v := 1) hx hb d_Law_restart_15 (by decide) ?_
  exact gw_iret hx hb hr hlocks hS hW (Nat.le_of_ble_eq_true rfl) (Nat.le_of_ble_eq_true rfl) d_Law_restart_16 (⟨rfl, rfl⟩)

set_option maxHeartbeats 4000000 in
set_option maxRecDepth 100000 in
theorem h_end (l : Launch) (hl9 : l.stackTraces = false) (G : gw_G) (M : gw_M) (x : Nat) (row : Nat) (jobs : Nat) (known : Nat) (nowh : Nat) (gone : Nat) (lim : Int32) (sc : Int32) (k : Int32) (n : Int32) (f : Int32) (out : Nat) (hf_x : M x = some (1, .inr (0, [.int lim, .int sc, .int 0, .ref row, .ref jobs, .ref known, .ref nowh, .ref gone, .int 0]))) (hf_jobs : M jobs = some (4, .inr (4, [.int 0, .ref (G.2.2.1 0), .int 0]))) : Met l y_Law_end [.codeWith y_Law_end b_Law_end 6 (some .int) [(0, 12, 15, 13)]] ({ frames := 8, cells := 1, slots := 6, locals := 128 }) (gw_Pc G M [.ref x, .int k, .int n, .int f, .ref out]) (gw_Qi G (fun r M2 => 1 = r ∧ M = M2)) 1 6 (gw_A G) := by
  refine gt_startH (by decide) (Nat.le_of_ble_eq_true rfl) (fun p9 e9 s m b9 mt9 c9 hTab hx hb hr hml hown hlocks hin hE hB hW ls hl => ?_)
  have hts := hE.ts ([.ref x, .int k, .int n, .int f, .ref out] : List Value).toArray
  have hl : lv_has ls 6 [(0, .ref x), (1, .int k), (2, .int n), (3, .int f), (4, .ref out)] := hl
  have hS : va_S (gw_A G) s.heap s.heap [] := va_S.rf
  have hown : s.vm.findClass "GenerationsLaw" = some m.cls := hown
  refine lv_aload hx hb d_Law_end_0 (lv_at hl 4 rfl) ?_
  refine lv_iconst (v := 0) hx hb d_Law_end_2 (by decide) ?_
  refine lv_aload_n hx hb d_Law_end_3 rfl (lv_at hl 0 rfl) ?_
  refine lv_iload_n hx hb d_Law_end_4 rfl (lv_at hl 1 rfl) ?_
  refine lv_iload_n hx hb d_Law_end_5 rfl (lv_at hl 2 rfl) ?_
  refine lv_iload_n hx hb d_Law_end_6 rfl (lv_at hl 3 rfl) ?_
  refine gt_callV (As := [.int k, .int n, .int f]) (rest := [.int 0, .ref out]) hS ⟨hx, hb, hml, hown, hts⟩ (c_end l hl9 G M x row jobs known nowh gone lim sc k n f hf_x hf_jobs ) (cwV 3 hts (gw_gv mw227 mw228 mw229 mw83 mw226) rfl rfl rfl (by decide +kernel) ⟨Nat.le_of_ble_eq_true rfl, Nat.le_of_ble_eq_true rfl⟩) (gw_pv hE hB hS hW rfl hf_x) rfl hl.1 rfl (lv_room (Nat.le_of_ble_eq_true rfl)) d_Law_end_7 ⟨Nat.le_of_ble_eq_true rfl, Nat.le_of_ble_eq_true rfl⟩ (fun ce5 q4 M2 H locs hw3 hW hS hce hcv hcl => ?_)
  obtain rfl := hw3
  refine gt_catch (own := "GenerationsLaw") (x := ⟨0, 12, 15, 13⟩) hTab (by decide) (by decide) hown (hts _ mw216) (hts _ mw217) hce hcv hcl ?_
  show W _ _ _ _ _ _ _ _ _ _ _ _ _ _ _ (F0 m 15 ls [.ref q4])
  refine lv_astore (lv' := [(5, .ref q4), (0, .ref x), (1, .int k), (2, .int n), (3, .int f), (4, .ref out)]) hx hb d_Law_end_15 hl (by decide) rfl (fun ls hl => ?_)
  refine lv_iconst (v := 1) hx hb d_Law_end_17 (by decide) ?_
  exact gw_iret hx hb hr hlocks hS hW (Nat.le_of_ble_eq_true rfl) (Nat.le_of_ble_eq_true rfl) d_Law_end_18 (⟨rfl, rfl⟩)
