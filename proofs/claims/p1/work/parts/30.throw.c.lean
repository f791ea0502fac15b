set_option maxHeartbeats 4000000 in
set_option maxRecDepth 100000 in
theorem c_AL_sizeR (l : Launch) (G : gw_G) (M : gw_M) (a : Nat) (r : Nat) (k : Int32) (e : Nat) (n : Int32) (hf_a : M a = some (r, .inr (4, [.int k, .ref e, .int n]))) : Met l y_AL_size [.code y_AL_size b_AL_size 1 (some .int)] ({ frames := 0, cells := 0, slots := 0, locals := 0 }) (gw_Pc G M [.ref a]) (QcRead n) 0 0 (fun _ => False) := by
  refine gw_startR (by decide) (Nat.le_of_ble_eq_true rfl) (fun p9 e9 s m b9 mt9 c9 hx hb hr hml hown hlocks hin hE hB hW ls hl => ?_)
  have hts := hE.ts ([.ref a] : List Value).toArray
  have hl : lv_has ls 1 [(0, .ref a)] := hl
  have hown : s.vm.findClass "java/util/ArrayList" = some m.cls := hown
  refine lv_aload_n hx hb d_AL_size_0 rfl (lv_at hl 0 rfl) ?_
  refine gw_get (ci := 4) (fs := [.int k, .ref e, .int n]) hx hb hts in_AL hown hE.K hW hf_a rfl 2 (by decide) (hts _ mw54) (fun _ h9 => h9) rfl d_AL_size_1 ?_
  exact W.iret hx hb hr (fun t ht _ => ⟨rfl, ht⟩) (fun q hq => nomatch hq) d_AL_size_4 hlocks

set_option maxHeartbeats 4000000 in
set_option maxRecDepth 100000 in
theorem c_jobCalled (l : Launch) (hl9 : l.stackTraces = false) (G : gw_G) (M : gw_M) (x : Nat) (row : Nat) (jobs : Nat) (known : Nat) (nowh : Nat) (gone : Nat) (lim : Int32) (sc : Int32) (k : Int32) (hf_x : M x = some (1, .inr (0, [.int lim, .int sc, .int 0, .ref row, .ref jobs, .ref known, .ref nowh, .ref gone, .int 0]))) (hf_jobs : M jobs = some (4, .inr (4, [.int 0, .ref (G.2.2.1 0), .int 0]))) : gt_Met l y_X_jobCalled [.code y_X_jobCalled b_X_jobCalled 2 (some (.object "Generations$Job"))] ({ frames := 6, cells := 1, slots := 6, locals := 82 }) G M [.ref x, .int k] (fun M2 => M = M2) 1 6 := by
  refine gt_start (by decide) (Nat.le_of_ble_eq_true rfl) (fun p9 e9 s m b9 mt9 c9 hEx hx hb hr hml hown hlocks hin hE hB hW ls hl => ?_)
  have hts := hE.ts ([.ref x, .int k] : List Value).toArray
  have hl : lv_has ls 2 [(0, .ref x), (1, .int k)] := hl
  have hS : va_S (gw_A G) s.heap s.heap [] := va_S.rf
  have hown : s.vm.findClass "Generations" = some m.cls := hown
  refine lv_iload_n hx hb d_X_jobCalled_0 rfl (lv_at hl 1 rfl) ?_
  refine lv_iconst (v := 1) hx hb d_X_jobCalled_1 (by decide) ?_
  refine lv_icmp_lt (tgt := 16) hx hb d_X_jobCalled_2 (by decide) (fun c2 => ?_) (fun c2 => ?_)
  · exact gt_throwS (own := "Generations") (text := "there is no such job") (names := ["java/lang/RuntimeException", "java/lang/Exception"]) (sa := G.2.2.1 1) hx hb hl9 hown (by decide +kernel) (hts _ mw206) (hts _ mw207) hE.2.2.2.2.2.2.1.1 hE.2.2.2.2.2.2.1.2 (gt_hat hE _ gt_ws3) (hl.1.trans hml.symm) d_X_jobCalled_16 d_X_jobCalled_19 d_X_jobCalled_20 d_X_jobCalled_22 d_X_jobCalled_25 hEx (Nat.le_of_ble_eq_true rfl) (Nat.le_of_ble_eq_true rfl) (Nat.le_of_ble_eq_true rfl) (Nat.le_of_ble_eq_true rfl) hlocks hW rfl
  · refine lv_iload_n hx hb d_X_jobCalled_5 rfl (lv_at hl 1 rfl) ?_
    refine lv_aload_n hx hb d_X_jobCalled_6 rfl (lv_at hl 0 rfl) ?_
    refine gw_get (ci := 0) (fs := [.int lim, .int sc, .int 0, .ref row, .ref jobs, .ref known, .ref nowh, .ref gone, .int 0]) hx hb hts in_X hown hE.K hW hf_x rfl 4 (by decide) (hts _ mw35) (fun _ h9 => h9) rfl d_X_jobCalled_7 ?_
    refine W.callR (W.runV (As := []) (rest := [.int k]) ⟨hx, hb, hml, hown, hts⟩ (c_AL_sizeR l G M jobs 4 0 (G.2.2.1 0) 0 hf_jobs) (cwV 0 hts (gw_gv mw58 mw59 mw60 mw31 mw57) rfl rfl rfl (by decide +kernel) ⟨Nat.le_of_ble_eq_true rfl, Nat.le_of_ble_eq_true rfl⟩) (gw_pv hE hB hS hW rfl hf_jobs) rfl rfl hl.1 rfl (lv_room (Nat.le_of_ble_eq_true rfl)) d_X_jobCalled_10 ⟨Nat.le_of_ble_eq_true rfl, Nat.le_of_ble_eq_true rfl⟩) ?_
    refine W.eq (g2 := F0 m 13 ls [.int 0, .int k]) rfl ?_
    refine lv_icmp_le (tgt := 26) hx hb d_X_jobCalled_13 (by decide) (fun c13 => ?_) (fun c13 => ?_)
    · exact absurd c13 (gx_pos c2)
    · exact gt_throwS (own := "Generations") (text := "there is no such job") (names := ["java/lang/RuntimeException", "java/lang/Exception"]) (sa := G.2.2.1 1) hx hb hl9 hown (by decide +kernel) (hts _ mw206) (hts _ mw207) hE.2.2.2.2.2.2.1.1 hE.2.2.2.2.2.2.1.2 (gt_hat hE _ gt_ws3) (hl.1.trans hml.symm) d_X_jobCalled_16 d_X_jobCalled_19 d_X_jobCalled_20 d_X_jobCalled_22 d_X_jobCalled_25 hEx (Nat.le_of_ble_eq_true rfl) (Nat.le_of_ble_eq_true rfl) (Nat.le_of_ble_eq_true rfl) (Nat.le_of_ble_eq_true rfl) hlocks hW rfl

set_option maxHeartbeats 4000000 in
set_option maxRecDepth 100000 in
theorem c_relative (l : Launch) (hl9 : l.stackTraces = false) (G : gw_G) (M : gw_M) (x : Nat) (row : Nat) (jobs : Nat) (known : Nat) (nowh : Nat) (gone : Nat) (lim : Int32) (sc : Int32) (k : Int32) (n : Int32) (hf_x : M x = some (1, .inr (0, [.int lim, .int sc, .int 0, .ref row, .ref jobs, .ref known, .ref nowh, .ref gone, .int 0]))) (hf_jobs : M jobs = some (4, .inr (4, [.int 0, .ref (G.2.2.1 0), .int 0]))) : gt_Met l y_X_relative [.code y_X_relative b_X_relative 5 (some .int)] ({ frames := 7, cells := 1, slots := 6, locals := 103 }) G M [.ref x, .int k, .int n] (fun M2 => M = M2) 1 6 := by
  refine gt_start (by decide) (Nat.le_of_ble_eq_true rfl) (fun p9 e9 s m b9 mt9 c9 hEx hx hb hr hml hown hlocks hin hE hB hW ls hl => ?_)
  have hts := hE.ts ([.ref x, .int k, .int n] : List Value).toArray
  have hl : lv_has ls 5 [(0, .ref x), (1, .int k), (2, .int n)] := hl
  have hS : va_S (gw_A G) s.heap s.heap [] := va_S.rf
  have hown : s.vm.findClass "Generations" = some m.cls := hown
  refine lv_aload_n hx hb d_X_relative_0 rfl (lv_at hl 0 rfl) ?_
  refine lv_iload_n hx hb d_X_relative_1 rfl (lv_at hl 1 rfl) ?_
  refine gt_callV (As := [.int k]) (rest := []) hS ⟨hx, hb, hml, hown, hts⟩ (c_jobCalled l hl9 G M x row jobs known nowh gone lim sc k hf_x hf_jobs ) (cwV 1 hts (gw_gv mw209 mw210 mw211 mw83 mw208) rfl rfl rfl (by decide +kernel) ⟨Nat.le_of_ble_eq_true rfl, Nat.le_of_ble_eq_true rfl⟩) (gw_pv hE hB hS hW rfl hf_x) rfl hl.1 rfl (lv_room (Nat.le_of_ble_eq_true rfl)) d_X_relative_2 ⟨Nat.le_of_ble_eq_true rfl, Nat.le_of_ble_eq_true rfl⟩ (fun ce5 q4 M2 H locs hw3 hW hS hce hcv hcl => ?_)
  obtain rfl := hw3
  exact gt_out hEx hlocks hce hcv hcl hS hW rfl (Nat.le_of_ble_eq_true rfl) (Nat.le_of_ble_eq_true rfl)

set_option maxHeartbeats 4000000 in
set_option maxRecDepth 100000 in
theorem c_make (l : Launch) (hl9 : l.stackTraces = false) (G : gw_G) (M : gw_M) (x : Nat) (row : Nat) (jobs : Nat) (known : Nat) (nowh : Nat) (gone : Nat) (lim : Int32) (sc : Int32) (k : Int32) (n : Int32) (hf_x : M x = some (1, .inr (0, [.int lim, .int sc, .int 0, .ref row, .ref jobs, .ref known, .ref nowh, .ref gone, .int 0]))) (hf_jobs : M jobs = some (4, .inr (4, [.int 0, .ref (G.2.2.1 0), .int 0]))) : gt_Met l y_X_make [.code y_X_make b_X_make 7 (some .int)] ({ frames := 7, cells := 1, slots := 6, locals := 103 }) G M [.ref x, .int k, .int n] (fun M2 => M = M2) 1 6 := by
  refine gt_start (by decide) (Nat.le_of_ble_eq_true rfl) (fun p9 e9 s m b9 mt9 c9 hEx hx hb hr hml hown hlocks hin hE hB hW ls hl => ?_)
  have hts := hE.ts ([.ref x, .int k, .int n] : List Value).toArray
  have hl : lv_has ls 7 [(0, .ref x), (1, .int k), (2, .int n)] := hl
  have hS : va_S (gw_A G) s.heap s.heap [] := va_S.rf
  have hown : s.vm.findClass "Generations" = some m.cls := hown
  refine lv_aload_n hx hb d_X_make_0 rfl (lv_at hl 0 rfl) ?_
  refine lv_iload_n hx hb d_X_make_1 rfl (lv_at hl 1 rfl) ?_
  refine gt_callV (As := [.int k]) (rest := []) hS ⟨hx, hb, hml, hown, hts⟩ (c_jobCalled l hl9 G M x row jobs known nowh gone lim sc k hf_x hf_jobs ) (cwV 1 hts (gw_gv mw209 mw210 mw211 mw83 mw208) rfl rfl rfl (by decide +kernel) ⟨Nat.le_of_ble_eq_true rfl, Nat.le_of_ble_eq_true rfl⟩) (gw_pv hE hB hS hW rfl hf_x) rfl hl.1 rfl (lv_room (Nat.le_of_ble_eq_true rfl)) d_X_make_2 ⟨Nat.le_of_ble_eq_true rfl, Nat.le_of_ble_eq_true rfl⟩ (fun ce5 q4 M2 H locs hw3 hW hS hce hcv hcl => ?_)
  obtain rfl := hw3
  exact gt_out hEx hlocks hce hcv hcl hS hW rfl (Nat.le_of_ble_eq_true rfl) (Nat.le_of_ble_eq_true rfl)

set_option maxHeartbeats 4000000 in
set_option maxRecDepth 100000 in
theorem c_end (l : Launch) (hl9 : l.stackTraces = false) (G : gw_G) (M : gw_M) (x : Nat) (row : Nat) (jobs : Nat) (known : Nat) (nowh : Nat) (gone : Nat) (lim : Int32) (sc : Int32) (k : Int32) (n : Int32) (f : Int32) (hf_x : M x = some (1, .inr (0, [.int lim, .int sc, .int 0, .ref row, .ref jobs, .ref known, .ref nowh, .ref gone, .int 0]))) (hf_jobs : M jobs = some (4, .inr (4, [.int 0, .ref (G.2.2.1 0), .int 0]))) : gt_Met l y_X_end [.code y_X_end b_X_end 6 (some .int)] ({ frames := 7, cells := 1, slots := 6, locals := 103 }) G M [.ref x, .int k, .int n, .int f] (fun M2 => M = M2) 1 6 := by
  refine gt_start (by decide) (Nat.le_of_ble_eq_true rfl) (fun p9 e9 s m b9 mt9 c9 hEx hx hb hr hml hown hlocks hin hE hB hW ls hl => ?_)
  have hts := hE.ts ([.ref x, .int k, .int n, .int f] : List Value).toArray
  have hl : lv_has ls 6 [(0, .ref x), (1, .int k), (2, .int n), (3, .int f)] := hl
  have hS : va_S (gw_A G) s.heap s.heap [] := va_S.rf
  have hown : s.vm.findClass "Generations" = some m.cls := hown
  refine lv_aload_n hx hb d_X_end_0 rfl (lv_at hl 0 rfl) ?_
  refine lv_iload_n hx hb d_X_end_1 rfl (lv_at hl 1 rfl) ?_
  refine gt_callV (As := [.int k]) (rest := []) hS ⟨hx, hb, hml, hown, hts⟩ (c_jobCalled l hl9 G M x row jobs known nowh gone lim sc k hf_x hf_jobs ) (cwV 1 hts (gw_gv mw209 mw210 mw211 mw83 mw208) rfl rfl rfl (by decide +kernel) ⟨Nat.le_of_ble_eq_true rfl, Nat.le_of_ble_eq_true rfl⟩) (gw_pv hE hB hS hW rfl hf_x) rfl hl.1 rfl (lv_room (Nat.le_of_ble_eq_true rfl)) d_X_end_2 ⟨Nat.le_of_ble_eq_true rfl, Nat.le_of_ble_eq_true rfl⟩ (fun ce5 q4 M2 H locs hw3 hW hS hce hcv hcl => ?_)
  obtain rfl := hw3
  exact gt_out hEx hlocks hce hcv hcl hS hW rfl (Nat.le_of_ble_eq_true rfl) (Nat.le_of_ble_eq_true rfl)

set_option maxHeartbeats 4000000 in
set_option maxRecDepth 100000 in
theorem c_restart (l : Launch) (hl9 : l.stackTraces = false) (G : gw_G) (M : gw_M) (x : Nat) (row : Nat) (jobs : Nat) (known : Nat) (nowh : Nat) (gone : Nat) (lim : Int32) (sc : Int32) (k : Int32) (n : Int32) (hf_x : M x = some (1, .inr (0, [.int lim, .int sc, .int 0, .ref row, .ref jobs, .ref known, .ref nowh, .ref gone, .int 0]))) (hf_jobs : M jobs = some (4, .inr (4, [.int 0, .ref (G.2.2.1 0), .int 0]))) : gt_Met l y_X_restart [.code y_X_restart b_X_restart 7 (some .int)] ({ frames := 7, cells := 1, slots := 6, locals := 103 }) G M [.ref x, .int k, .int n] (fun M2 => M = M2) 1 6 := by
  refine gt_start (by decide) (Nat.le_of_ble_eq_true rfl) (fun p9 e9 s m b9 mt9 c9 hEx hx hb hr hml hown hlocks hin hE hB hW ls hl => ?_)
  have hts := hE.ts ([.ref x, .int k, .int n] : List Value).toArray
  have hl : lv_has ls 7 [(0, .ref x), (1, .int k), (2, .int n)] := hl
  have hS : va_S (gw_A G) s.heap s.heap [] := va_S.rf
  have hown : s.vm.findClass "Generations" = some m.cls := hown
  refine lv_aload_n hx hb d_X_restart_0 rfl (lv_at hl 0 rfl) ?_
  refine lv_iload_n hx hb d_X_restart_1 rfl (lv_at hl 1 rfl) ?_
  refine gt_callV (As := [.int k]) (rest := []) hS ⟨hx, hb, hml, hown, hts⟩ (c_jobCalled l hl9 G M x row jobs known nowh gone lim sc k hf_x hf_jobs ) (cwV 1 hts (gw_gv mw209 mw210 mw211 mw83 mw208) rfl rfl rfl (by decide +kernel) ⟨Nat.le_of_ble_eq_true rfl, Nat.le_of_ble_eq_true rfl⟩) (gw_pv hE hB hS hW rfl hf_x) rfl hl.1 rfl (lv_room (Nat.le_of_ble_eq_true rfl)) d_X_restart_2 ⟨Nat.le_of_ble_eq_true rfl, Nat.le_of_ble_eq_true rfl⟩ (fun ce5 q4 M2 H locs hw3 hW hS hce hcv hcl => ?_)
  obtain rfl := hw3
  exact gt_out hEx hlocks hce hcv hcl hS hW rfl (Nat.le_of_ble_eq_true rfl) (Nat.le_of_ble_eq_true rfl)
