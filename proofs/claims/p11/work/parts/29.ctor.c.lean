theorem gm_limN {k : Int32} (h1 : 1 ≤ k) (h2 : k ≤ 255) : ∃ q : Nat, k = nI q ∧ 1 ≤ q ∧ q ≤ 255 := by
  rw [Int32.le_iff_toInt_le, gi_1] at h1
  rw [Int32.le_iff_toInt_le, show (255 : Int32).toInt = 255 by decide] at h2
  exact ⟨k.toInt.toNat, gi_nI (by omega) (by omega), by omega, by omega⟩
set_option maxHeartbeats 4000000 in
set_option maxRecDepth 100000 in
theorem k_Row_init (l : Launch) (G : gw_G) (M : gw_M) (a : Nat) (hf_a : M a = some (2, .inr (1, [.null, .int 0]))) : Met l y_Row_init [.code y_Row_init b_Row_init 1 none] ({ frames := 1, cells := 1, slots := 256, locals := 12 }) (gw_Pc G M [.ref a]) (gw_Qv G (fun M2 => ∃ (n : Nat), M2 a = some (2, .inr (1, [.ref n, .int 0])) ∧ M2 n = some (3, .inl (G.2.1 0, 256, .inl (fun _ => 0))) ∧ gw_fg (gw_out [2, 3]) M M2)) 1 256 (gw_A G) := by
  refine gw_start (by decide) (Nat.le_of_ble_eq_true rfl) (fun p9 e9 s m b9 mt9 c9 hx hb hr hml hown hlocks hin hE hB hW ls hl => ?_)
  have hts := hE.ts ([.ref a] : List Value).toArray
  have hl : lv_has ls 1 [(0, .ref a)] := hl
  have hS : va_S (gw_A G) s.heap s.heap [] := va_S.rf
  have hown : s.vm.findClass "Generations$Row" = some m.cls := hown
  have hin : mt9.name = "<init>" := hin
  refine lv_aload_n hx hb d_Row_init_0 rfl (lv_at hl 0 rfl) ?_
  refine W.objInit hx hb hown (hts _ mw288) (hts _ mw127) (hts _ mw128) rfl (by rw [hml]; exact hl.1) rfl d_Row_init_1 (Nat.le_of_ble_eq_true rfl) (Nat.le_of_ble_eq_true rfl) ?_
  refine W.eq (g2 := F0 m 4 ls []) rfl ?_
  refine lv_aload_n hx hb d_Row_init_4 rfl (lv_at hl 0 rfl) ?_
  refine lv_sipush (v := 256) hx hb d_Row_init_5 (by decide) ?_
  refine gw_newa (atype := .int) (ty := .int) (n := 256) (a0 := (256, .inl (fun _ => 0))) (N' := 256) hx hb (hts (.arrayClass .int) mw175) rfl hE.K hW hS hB (gw_zi 256) (by decide) (by decide) (Nat.le_of_ble_eq_true rfl) (Nat.le_of_ble_eq_true rfl) (Nat.le_of_ble_eq_true rfl) d_Row_init_8 0 rfl (fun cA h1 h2 => gw_ri _ _ h1 h2) 3 (fun q1 H hq2 hW hS => ?_)
  refine W.widen (k := 1) (n := 256) (Nat.le_refl _) (Nat.le_refl _) ?_
  have hF3 : gw_fg (gw_out [2, 3]) M (gw_up M q1 3 (.inl (G.2.1 0, 256, .inl (fun _ => 0)))) := gw_fg.new gw_fg.rf hq2 (show ¬ ((gw_out [2, 3]) 3) by decide)
  obtain ⟨M4, eM4⟩ : ∃ z, z = gw_up M q1 3 (.inl (G.2.1 0, 256, .inl (fun _ => 0))) := ⟨_, rfl⟩
  replace hW : gw_P G.1 vwCl G.2.2.2 M4 H := by rw [eM4]; exact hW
  have hf_a : M4 a = some (2, .inr (1, [.null, .int 0])) := by rw [eM4]; exact gw_keepN hf_a hq2
  have hf_q1 : M4 q1 = some (3, .inl (G.2.1 0, 256, .inl (fun _ => 0))) := by rw [eM4]; exact gw_up_self _ _ _ _
  rw [← eM4] at hF3
  refine gw_putF (ci := 1) (fs := [.null, .int 0]) (v := .ref q1) (ty := .array .int) hx hb hts in_Row t_Row t_Row_ok n_Row hown hE.K hW hS hf_a rfl 0 (by decide) (hts _ mw44) (fun _ h9 => h9) rfl hin rfl (by decide +kernel) rfl rfl (Nat.le_of_ble_eq_true rfl) d_Row_init_10 (fun H locs hW hS => ?_)
  have hF5 : gw_fg (gw_out [2, 3]) M (gw_up M4 a 2 (.inr (1, [.ref q1, .int 0]))) := gw_fg.up hF3 hf_a (show ¬ ((gw_out [2, 3]) 2) by decide) (show ¬ ((gw_out [2, 3]) 2) by decide)
  obtain ⟨M6, eM6⟩ : ∃ z, z = gw_up M4 a 2 (.inr (1, [.ref q1, .int 0])) := ⟨_, rfl⟩
  replace hW : gw_P G.1 vwCl G.2.2.2 M6 H := by rw [eM6]; exact hW
  have hf_q1 : M6 q1 = some (3, .inl (G.2.1 0, 256, .inl (fun _ => 0))) := by rw [eM6]; exact gw_keep hf_q1 hf_a (by decide)
  have hf_a : M6 a = some (2, .inr (1, [.ref q1, .int 0])) := by rw [eM6]; exact gw_up_self _ _ _ _
  rw [← eM6] at hF5
  exact gw_vret hx hb hr hlocks hS hW (Nat.le_of_ble_eq_true rfl) (Nat.le_of_ble_eq_true rfl) d_Row_init_13 (⟨q1, hf_a, hf_q1, hF5⟩)

set_option maxHeartbeats 4000000 in
set_option maxRecDepth 100000 in
theorem k_AC_init (l : Launch) (G : gw_G) (M : gw_M) (a : Nat) : Met l y_AC_init [.code y_AC_init b_AC_init 1 none] ({ frames := 1, cells := 0, slots := 0, locals := 12 }) (gw_Pc G M [.ref a]) (gw_Qv G (fun M2 => M = M2)) 0 0 (gw_A G) := by
  refine gw_start (by decide) (Nat.le_of_ble_eq_true rfl) (fun p9 e9 s m b9 mt9 c9 hx hb hr hml hown hlocks hin hE hB hW ls hl => ?_)
  have hts := hE.ts ([.ref a] : List Value).toArray
  have hl : lv_has ls 1 [(0, .ref a)] := hl
  have hS : va_S (gw_A G) s.heap s.heap [] := va_S.rf
  have hown : s.vm.findClass "java/util/AbstractCollection" = some m.cls := hown
  have hin : mt9.name = "<init>" := hin
  refine lv_aload_n hx hb d_AC_init_0 rfl (lv_at hl 0 rfl) ?_
  refine W.objInit hx hb hown (hts _ mw289) (hts _ mw127) (hts _ mw128) rfl (by rw [hml]; exact hl.1) rfl d_AC_init_1 (Nat.le_of_ble_eq_true rfl) (Nat.le_of_ble_eq_true rfl) ?_
  refine W.eq (g2 := F0 m 4 ls []) rfl ?_
  exact gw_vret hx hb hr hlocks hS hW (Nat.le_of_ble_eq_true rfl) (Nat.le_of_ble_eq_true rfl) d_AC_init_4 rfl

set_option maxHeartbeats 4000000 in
set_option maxRecDepth 100000 in
theorem k_AbL_initJ (l : Launch) (G : gw_G) (M : gw_M) (a : Nat) (hf_a : M a = some (4, .inr (4, [.int 0, .null, .int 0]))) : Met l y_AbL_init [.code y_AbL_init b_AbL_init 1 none] ({ frames := 2, cells := 0, slots := 0, locals := 32 }) (gw_Pc G M [.ref a]) (gw_Qv G (fun M2 => M2 a = some (4, .inr (4, [.int 0, .null, .int 0])) ∧ gw_fg (gw_out [4]) M M2)) 0 0 (gw_A G) := by
  refine gw_start (by decide) (Nat.le_of_ble_eq_true rfl) (fun p9 e9 s m b9 mt9 c9 hx hb hr hml hown hlocks hin hE hB hW ls hl => ?_)
  have hts := hE.ts ([.ref a] : List Value).toArray
  have hl : lv_has ls 1 [(0, .ref a)] := hl
  have hS : va_S (gw_A G) s.heap s.heap [] := va_S.rf
  have hown : s.vm.findClass "java/util/AbstractList" = some m.cls := hown
  have hin : mt9.name = "<init>" := hin
  refine lv_aload_n hx hb d_AbL_init_0 rfl (lv_at hl 0 rfl) ?_
  refine gw_callv hS (va_runI (As := []) (rest := []) ⟨hx, hb, hml, hown, hts⟩ (k_AC_init l G M a  ) (cwI 0 hts (gw_g1 mw290) rfl rfl rfl (hts _ mw291) (hts _ mw292) (hts _ mw293) rfl (by decide +kernel) ⟨Nat.le_of_ble_eq_true rfl, Nat.le_of_ble_eq_true rfl⟩) (gw_ps hE hB hS hW) rfl rfl hl.1 rfl (lv_room (Nat.le_of_ble_eq_true rfl)) d_AbL_init_1 ⟨Nat.le_of_ble_eq_true rfl, Nat.le_of_ble_eq_true rfl⟩) (fun M2 H locs hw3 hW hS => ?_)
  obtain rfl := hw3
  refine lv_aload_n hx hb d_AbL_init_4 rfl (lv_at hl 0 rfl) ?_
  refine lv_iconst (v := 0) hx hb d_AbL_init_5 (by decide) ?_
  refine gw_put (ci := 4) (fs := [.int 0, .null, .int 0]) (v := .int 0) (ty := .int) hx hb hts in_AL t_AL t_AL_ok n_AL hown hE.K hW hS hf_a rfl 0 (by decide) (hts _ mw294) (fun _ h9 => h9) rfl (by decide +kernel) rfl rfl (Nat.le_of_ble_eq_true rfl) d_AbL_init_6 (fun H locs hW hS => ?_)
  have hF4 : gw_fg (gw_out [4]) M (gw_up M a 4 (.inr (4, [.int 0, .null, .int 0]))) := gw_fg.up gw_fg.rf hf_a (show ¬ ((gw_out [4]) 4) by decide) (show ¬ ((gw_out [4]) 4) by decide)
  obtain ⟨M5, eM5⟩ : ∃ z, z = gw_up M a 4 (.inr (4, [.int 0, .null, .int 0])) := ⟨_, rfl⟩
  replace hW : gw_P G.1 vwCl G.2.2.2 M5 H := by rw [eM5]; exact hW
  have hf_a : M5 a = some (4, .inr (4, [.int 0, .null, .int 0])) := by rw [eM5]; exact gw_up_self _ _ _ _
  rw [← eM5] at hF4
  exact gw_vret hx hb hr hlocks hS hW (Nat.le_of_ble_eq_true rfl) (Nat.le_of_ble_eq_true rfl) d_AbL_init_9 (⟨hf_a, hF4⟩)

set_option maxHeartbeats 4000000 in
set_option maxRecDepth 100000 in
theorem k_AbL_initK (l : Launch) (G : gw_G) (M : gw_M) (a : Nat) (hf_a : M a = some (5, .inr (4, [.int 0, .null, .int 0]))) : Met l y_AbL_init [.code y_AbL_init b_AbL_init 1 none] ({ frames := 2, cells := 0, slots := 0, locals := 32 }) (gw_Pc G M [.ref a]) (gw_Qv G (fun M2 => M2 a = some (5, .inr (4, [.int 0, .null, .int 0])) ∧ gw_fg (gw_out [5]) M M2)) 0 0 (gw_A G) := by
  refine gw_start (by decide) (Nat.le_of_ble_eq_true rfl) (fun p9 e9 s m b9 mt9 c9 hx hb hr hml hown hlocks hin hE hB hW ls hl => ?_)
  have hts := hE.ts ([.ref a] : List Value).toArray
  have hl : lv_has ls 1 [(0, .ref a)] := hl
  have hS : va_S (gw_A G) s.heap s.heap [] := va_S.rf
  have hown : s.vm.findClass "java/util/AbstractList" = some m.cls := hown
  have hin : mt9.name = "<init>" := hin
  refine lv_aload_n hx hb d_AbL_init_0 rfl (lv_at hl 0 rfl) ?_
  refine gw_callv hS (va_runI (As := []) (rest := []) ⟨hx, hb, hml, hown, hts⟩ (k_AC_init l G M a  ) (cwI 0 hts (gw_g1 mw290) rfl rfl rfl (hts _ mw291) (hts _ mw292) (hts _ mw293) rfl (by decide +kernel) ⟨Nat.le_of_ble_eq_true rfl, Nat.le_of_ble_eq_true rfl⟩) (gw_ps hE hB hS hW) rfl rfl hl.1 rfl (lv_room (Nat.le_of_ble_eq_true rfl)) d_AbL_init_1 ⟨Nat.le_of_ble_eq_true rfl, Nat.le_of_ble_eq_true rfl⟩) (fun M2 H locs hw3 hW hS => ?_)
  obtain rfl := hw3
  refine lv_aload_n hx hb d_AbL_init_4 rfl (lv_at hl 0 rfl) ?_
  refine lv_iconst (v := 0) hx hb d_AbL_init_5 (by decide) ?_
  refine gw_put (ci := 4) (fs := [.int 0, .null, .int 0]) (v := .int 0) (ty := .int) hx hb hts in_AL t_AL t_AL_ok n_AL hown hE.K hW hS hf_a rfl 0 (by decide) (hts _ mw294) (fun _ h9 => h9) rfl (by decide +kernel) rfl rfl (Nat.le_of_ble_eq_true rfl) d_AbL_init_6 (fun H locs hW hS => ?_)
  have hF4 : gw_fg (gw_out [5]) M (gw_up M a 5 (.inr (4, [.int 0, .null, .int 0]))) := gw_fg.up gw_fg.rf hf_a (show ¬ ((gw_out [5]) 5) by decide) (show ¬ ((gw_out [5]) 5) by decide)
  obtain ⟨M5, eM5⟩ : ∃ z, z = gw_up M a 5 (.inr (4, [.int 0, .null, .int 0])) := ⟨_, rfl⟩
  replace hW : gw_P G.1 vwCl G.2.2.2 M5 H := by rw [eM5]; exact hW
  have hf_a : M5 a = some (5, .inr (4, [.int 0, .null, .int 0])) := by rw [eM5]; exact gw_up_self _ _ _ _
  rw [← eM5] at hF4
  exact gw_vret hx hb hr hlocks hS hW (Nat.le_of_ble_eq_true rfl) (Nat.le_of_ble_eq_true rfl) d_AbL_init_9 (⟨hf_a, hF4⟩)

set_option maxHeartbeats 4000000 in
set_option maxRecDepth 100000 in
theorem k_AL_initJ (l : Launch) (G : gw_G) (M : gw_M) (a : Nat) (hf_a : M a = some (4, .inr (4, [.int 0, .null, .int 0]))) : Met l y_AL_init [.code y_AL_init b_AL_init 1 none] ({ frames := 3, cells := 0, slots := 0, locals := 52 }) (gw_Pc G M [.ref a]) (gw_Qv G (fun M2 => M2 a = some (4, .inr (4, [.int 0, .ref (G.2.2.1 0), .int 0])) ∧ gw_fg (gw_out [4]) M M2)) 0 0 (gw_A G) := by
  refine gw_start (by decide) (Nat.le_of_ble_eq_true rfl) (fun p9 e9 s m b9 mt9 c9 hx hb hr hml hown hlocks hin hE hB hW ls hl => ?_)
  have hts := hE.ts ([.ref a] : List Value).toArray
  have hl : lv_has ls 1 [(0, .ref a)] := hl
  have hS : va_S (gw_A G) s.heap s.heap [] := va_S.rf
  have hown : s.vm.findClass "java/util/ArrayList" = some m.cls := hown
  have hin : mt9.name = "<init>" := hin
  refine lv_aload_n hx hb d_AL_init_0 rfl (lv_at hl 0 rfl) ?_
  refine gw_callv hS (va_runI (As := []) (rest := []) ⟨hx, hb, hml, hown, hts⟩ (k_AbL_initJ l G M a hf_a ) (cwI 0 hts (gw_g1 mw295) rfl rfl rfl (hts _ mw296) (hts _ mw297) (hts _ mw298) rfl (by decide +kernel) ⟨Nat.le_of_ble_eq_true rfl, Nat.le_of_ble_eq_true rfl⟩) (gw_ps hE hB hS hW) rfl rfl hl.1 rfl (lv_room (Nat.le_of_ble_eq_true rfl)) d_AL_init_1 ⟨Nat.le_of_ble_eq_true rfl, Nat.le_of_ble_eq_true rfl⟩) (fun M2 H locs hw3 hW hS => ?_)
  obtain ⟨hf_a', hfr4⟩ := hw3
  have hf_a : M2 a = some (4, .inr (4, [.int 0, .null, .int 0])) := hf_a'
  have hF5 : gw_fg (gw_out [4]) M M2 := gw_fg.tr gw_fg.rf (gw_fg.wk hfr4 (by decide))
  refine lv_aload_n hx hb d_AL_init_4 rfl (lv_at hl 0 rfl) ?_
  refine va_gets hx hb hE.2.2.1 hS hown (hts _ mw67) (fun _ h9 => h9) d_AL_init_5 ?_
  refine gw_put (ci := 4) (fs := [.int 0, .null, .int 0]) (v := .ref (G.2.2.1 0)) (ty := .array (.object "java/lang/Object")) hx hb hts in_AL t_AL t_AL_ok n_AL hown hE.K hW hS hf_a rfl 1 (by decide) (hts _ mw5) (fun _ h9 => h9) rfl (by decide +kernel) rfl rfl (Nat.le_of_ble_eq_true rfl) d_AL_init_8 (fun H locs hW hS => ?_)
  have hF6 : gw_fg (gw_out [4]) M (gw_up M2 a 4 (.inr (4, [.int 0, .ref (G.2.2.1 0), .int 0]))) := gw_fg.up hF5 hf_a (show ¬ ((gw_out [4]) 4) by decide) (show ¬ ((gw_out [4]) 4) by decide)
  obtain ⟨M7, eM7⟩ : ∃ z, z = gw_up M2 a 4 (.inr (4, [.int 0, .ref (G.2.2.1 0), .int 0])) := ⟨_, rfl⟩
  replace hW : gw_P G.1 vwCl G.2.2.2 M7 H := by rw [eM7]; exact hW
  have hf_a : M7 a = some (4, .inr (4, [.int 0, .ref (G.2.2.1 0), .int 0])) := by rw [eM7]; exact gw_up_self _ _ _ _
  rw [← eM7] at hF6
  exact gw_vret hx hb hr hlocks hS hW (Nat.le_of_ble_eq_true rfl) (Nat.le_of_ble_eq_true rfl) d_AL_init_11 (⟨hf_a, hF6⟩)

set_option maxHeartbeats 4000000 in
set_option maxRecDepth 100000 in
theorem k_AL_initK (l : Launch) (G : gw_G) (M : gw_M) (a : Nat) (hf_a : M a = some (5, .inr (4, [.int 0, .null, .int 0]))) : Met l y_AL_init [.code y_AL_init b_AL_init 1 none] ({ frames := 3, cells := 0, slots := 0, locals := 52 }) (gw_Pc G M [.ref a]) (gw_Qv G (fun M2 => M2 a = some (5, .inr (4, [.int 0, .ref (G.2.2.1 0), .int 0])) ∧ gw_fg (gw_out [5]) M M2)) 0 0 (gw_A G) := by
  refine gw_start (by decide) (Nat.le_of_ble_eq_true rfl) (fun p9 e9 s m b9 mt9 c9 hx hb hr hml hown hlocks hin hE hB hW ls hl => ?_)
  have hts := hE.ts ([.ref a] : List Value).toArray
  have hl : lv_has ls 1 [(0, .ref a)] := hl
  have hS : va_S (gw_A G) s.heap s.heap [] := va_S.rf
  have hown : s.vm.findClass "java/util/ArrayList" = some m.cls := hown
  have hin : mt9.name = "<init>" := hin
  refine lv_aload_n hx hb d_AL_init_0 rfl (lv_at hl 0 rfl) ?_
  refine gw_callv hS (va_runI (As := []) (rest := []) ⟨hx, hb, hml, hown, hts⟩ (k_AbL_initK l G M a hf_a ) (cwI 0 hts (gw_g1 mw295) rfl rfl rfl (hts _ mw296) (hts _ mw297) (hts _ mw298) rfl (by decide +kernel) ⟨Nat.le_of_ble_eq_true rfl, Nat.le_of_ble_eq_true rfl⟩) (gw_ps hE hB hS hW) rfl rfl hl.1 rfl (lv_room (Nat.le_of_ble_eq_true rfl)) d_AL_init_1 ⟨Nat.le_of_ble_eq_true rfl, Nat.le_of_ble_eq_true rfl⟩) (fun M2 H locs hw3 hW hS => ?_)
  obtain ⟨hf_a', hfr4⟩ := hw3
  have hf_a : M2 a = some (5, .inr (4, [.int 0, .null, .int 0])) := hf_a'
  have hF5 : gw_fg (gw_out [5]) M M2 := gw_fg.tr gw_fg.rf (gw_fg.wk hfr4 (by decide))
  refine lv_aload_n hx hb d_AL_init_4 rfl (lv_at hl 0 rfl) ?_
  refine va_gets hx hb hE.2.2.1 hS hown (hts _ mw67) (fun _ h9 => h9) d_AL_init_5 ?_
  refine gw_put (ci := 4) (fs := [.int 0, .null, .int 0]) (v := .ref (G.2.2.1 0)) (ty := .array (.object "java/lang/Object")) hx hb hts in_AL t_AL t_AL_ok n_AL hown hE.K hW hS hf_a rfl 1 (by decide) (hts _ mw5) (fun _ h9 => h9) rfl (by decide +kernel) rfl rfl (Nat.le_of_ble_eq_true rfl) d_AL_init_8 (fun H locs hW hS => ?_)
  have hF6 : gw_fg (gw_out [5]) M (gw_up M2 a 5 (.inr (4, [.int 0, .ref (G.2.2.1 0), .int 0]))) := gw_fg.up hF5 hf_a (show ¬ ((gw_out [5]) 5) by decide) (show ¬ ((gw_out [5]) 5) by decide)
  obtain ⟨M7, eM7⟩ : ∃ z, z = gw_up M2 a 5 (.inr (4, [.int 0, .ref (G.2.2.1 0), .int 0])) := ⟨_, rfl⟩
  replace hW : gw_P G.1 vwCl G.2.2.2 M7 H := by rw [eM7]; exact hW
  have hf_a : M7 a = some (5, .inr (4, [.int 0, .ref (G.2.2.1 0), .int 0])) := by rw [eM7]; exact gw_up_self _ _ _ _
  rw [← eM7] at hF6
  exact gw_vret hx hb hr hlocks hS hW (Nat.le_of_ble_eq_true rfl) (Nat.le_of_ble_eq_true rfl) d_AL_init_11 (⟨hf_a, hF6⟩)

set_option maxHeartbeats 4000000 in
set_option maxRecDepth 100000 in
theorem k_Gen_init (l : Launch) (G : gw_G) (M : gw_M) (a : Nat) (k : Int32) (hf_a : M a = some (12, .inr (2, [.int 0, .int 0, .int 0, .int 0, .int 0]))) : Met l y_Gen_init [.code y_Gen_init b_Gen_init 2 none] ({ frames := 1, cells := 0, slots := 0, locals := 12 }) (gw_Pc G M [.ref a, .int k]) (gw_Qv G (fun M2 => M2 a = some (12, .inr (2, [.int k, .int 0, .int 0, .int 0, .int 0])) ∧ gw_fg (gw_out [12]) M M2)) 0 0 (gw_A G) := by
  refine gw_start (by decide) (Nat.le_of_ble_eq_true rfl) (fun p9 e9 s m b9 mt9 c9 hx hb hr hml hown hlocks hin hE hB hW ls hl => ?_)
  have hts := hE.ts ([.ref a, .int k] : List Value).toArray
  have hl : lv_has ls 2 [(0, .ref a), (1, .int k)] := hl
  have hS : va_S (gw_A G) s.heap s.heap [] := va_S.rf
  have hown : s.vm.findClass "Generations$Generation" = some m.cls := hown
  have hin : mt9.name = "<init>" := hin
  refine lv_aload_n hx hb d_Gen_init_0 rfl (lv_at hl 0 rfl) ?_
  refine W.objInit hx hb hown (hts _ mw126) (hts _ mw127) (hts _ mw128) rfl (by rw [hml]; exact hl.1) rfl d_Gen_init_1 (Nat.le_of_ble_eq_true rfl) (Nat.le_of_ble_eq_true rfl) ?_
  refine W.eq (g2 := F0 m 4 ls []) rfl ?_
  refine lv_aload_n hx hb d_Gen_init_4 rfl (lv_at hl 0 rfl) ?_
  refine lv_iconst (v := 0) hx hb d_Gen_init_5 (by decide) ?_
  refine gw_put (ci := 2) (fs := [.int 0, .int 0, .int 0, .int 0, .int 0]) (v := .int 0) (ty := .int) hx hb hts in_Gen t_Gen t_Gen_ok n_Gen hown hE.K hW hS hf_a rfl 1 (by decide) (hts _ mw15) (fun _ h9 => h9) rfl (by decide +kernel) rfl rfl (Nat.le_of_ble_eq_true rfl) d_Gen_init_6 (fun H locs hW hS => ?_)
  have hF1 : gw_fg (gw_out [12]) M (gw_up M a 12 (.inr (2, [.int 0, .int 0, .int 0, .int 0, .int 0]))) := gw_fg.up gw_fg.rf hf_a (show ¬ ((gw_out [12]) 12) by decide) (show ¬ ((gw_out [12]) 12) by decide)
  obtain ⟨M2, eM2⟩ : ∃ z, z = gw_up M a 12 (.inr (2, [.int 0, .int 0, .int 0, .int 0, .int 0])) := ⟨_, rfl⟩
  replace hW : gw_P G.1 vwCl G.2.2.2 M2 H := by rw [eM2]; exact hW
  have hf_a : M2 a = some (12, .inr (2, [.int 0, .int 0, .int 0, .int 0, .int 0])) := by rw [eM2]; exact gw_up_self _ _ _ _
  rw [← eM2] at hF1
  refine lv_aload_n hx hb d_Gen_init_9 rfl (lv_at hl 0 rfl) ?_
  refine lv_iconst (v := 0) hx hb d_Gen_init_10 (by decide) ?_
  refine gw_put (ci := 2) (fs := [.int 0, .int 0, .int 0, .int 0, .int 0]) (v := .int 0) (ty := .int) hx hb hts in_Gen t_Gen t_Gen_ok n_Gen hown hE.K hW hS hf_a rfl 3 (by decide) (hts _ mw16) (fun _ h9 => h9) rfl (by decide +kernel) rfl rfl (Nat.le_of_ble_eq_true rfl) d_Gen_init_11 (fun H locs hW hS => ?_)
  have hF3 : gw_fg (gw_out [12]) M (gw_up M2 a 12 (.inr (2, [.int 0, .int 0, .int 0, .int 0, .int 0]))) := gw_fg.up hF1 hf_a (show ¬ ((gw_out [12]) 12) by decide) (show ¬ ((gw_out [12]) 12) by decide)
  obtain ⟨M4, eM4⟩ : ∃ z, z = gw_up M2 a 12 (.inr (2, [.int 0, .int 0, .int 0, .int 0, .int 0])) := ⟨_, rfl⟩
  replace hW : gw_P G.1 vwCl G.2.2.2 M4 H := by rw [eM4]; exact hW
  have hf_a : M4 a = some (12, .inr (2, [.int 0, .int 0, .int 0, .int 0, .int 0])) := by rw [eM4]; exact gw_up_self _ _ _ _
  rw [← eM4] at hF3
  refine lv_aload_n hx hb d_Gen_init_14 rfl (lv_at hl 0 rfl) ?_
  refine lv_iload_n hx hb d_Gen_init_15 rfl (lv_at hl 1 rfl) ?_
  refine gw_putF (ci := 2) (fs := [.int 0, .int 0, .int 0, .int 0, .int 0]) (v := .int k) (ty := .int) hx hb hts in_Gen t_Gen t_Gen_ok n_Gen hown hE.K hW hS hf_a rfl 0 (by decide) (hts _ mw129) (fun _ h9 => h9) rfl hin rfl (by decide +kernel) rfl rfl (Nat.le_of_ble_eq_true rfl) d_Gen_init_16 (fun H locs hW hS => ?_)
  have hF5 : gw_fg (gw_out [12]) M (gw_up M4 a 12 (.inr (2, [.int k, .int 0, .int 0, .int 0, .int 0]))) := gw_fg.up hF3 hf_a (show ¬ ((gw_out [12]) 12) by decide) (show ¬ ((gw_out [12]) 12) by decide)
  obtain ⟨M6, eM6⟩ : ∃ z, z = gw_up M4 a 12 (.inr (2, [.int k, .int 0, .int 0, .int 0, .int 0])) := ⟨_, rfl⟩
  replace hW : gw_P G.1 vwCl G.2.2.2 M6 H := by rw [eM6]; exact hW
  have hf_a : M6 a = some (12, .inr (2, [.int k, .int 0, .int 0, .int 0, .int 0])) := by rw [eM6]; exact gw_up_self _ _ _ _
  rw [← eM6] at hF5
  exact gw_vret hx hb hr hlocks hS hW (Nat.le_of_ble_eq_true rfl) (Nat.le_of_ble_eq_true rfl) d_Gen_init_19 (⟨hf_a, hF5⟩)

set_option maxHeartbeats 4000000 in
set_option maxRecDepth 100000 in
theorem k_X_init (l : Launch) (G : gw_G) (M : gw_M) (x : Nat) (p0 : Int32) (p1 : Int32) (hf_x : M x = some (1, .inr (0, [.int 0, .int 0, .int 0, .null, .null, .null, .null, .null, .int 0]))) : Met l y_X_init [.code y_X_init b_X_init 3 none] ({ frames := 4, cells := 6, slots := 781, locals := 72 }) (gw_Pc G M [.ref x, .int p0, .int p1]) (gw_Qv G (fun M2 => ∃ (row : Nat) (nums : Nat) (jobs : Nat) (known : Nat) (nowh : Nat) (gone : Nat) (sc : Int32), M2 x = some (1, .inr (0, [.int (if 1 < (if 255 < p0 then 255 else p0) then (if 255 < p0 then 255 else p0) else 1), .int sc, .int 0, .ref row, .ref jobs, .ref known, .ref nowh, .ref gone, .int 0])) ∧ M2 row = some (2, .inr (1, [.ref nums, .int 0])) ∧ M2 nums = some (3, .inl (G.2.1 0, 256, .inl (fun _ => 0))) ∧ M2 jobs = some (4, .inr (4, [.int 0, .ref (G.2.2.1 0), .int 0])) ∧ M2 known = some (5, .inr (4, [.int 0, .ref (G.2.2.1 0), .int 0])) ∧ M2 nowh = some (12, .inr (2, [.int 0, .int 0, .int 0, .int 0, .int 0])) ∧ M2 gone = some (8, .inl (G.2.1 0, 512, .inl (fun _ => 0))) ∧ gw_fg (gw_out [1, 2, 3, 4, 5, 8, 12]) M M2)) 6 781 (gw_A G) := by
  refine gw_start (by decide) (Nat.le_of_ble_eq_true rfl) (fun p9 e9 s m b9 mt9 c9 hx hb hr hml hown hlocks hin hE hB hW ls hl => ?_)
  have hts := hE.ts ([.ref x, .int p0, .int p1] : List Value).toArray
  have hl : lv_has ls 3 [(0, .ref x), (1, .int p0), (2, .int p1)] := hl
  have hS : va_S (gw_A G) s.heap s.heap [] := va_S.rf
  have hown : s.vm.findClass "Generations" = some m.cls := hown
  have hin : mt9.name = "<init>" := hin
  refine lv_aload_n hx hb d_X_init_0 rfl (lv_at hl 0 rfl) ?_
  refine W.objInit hx hb hown (hts _ mw299) (hts _ mw127) (hts _ mw128) rfl (by rw [hml]; exact hl.1) rfl d_X_init_1 (Nat.le_of_ble_eq_true rfl) (Nat.le_of_ble_eq_true rfl) ?_
  refine W.eq (g2 := F0 m 4 ls []) rfl ?_
  refine lv_aload_n hx hb d_X_init_4 rfl (lv_at hl 0 rfl) ?_
  refine gw_new (ci := 1) (fs := [.null, .int 0]) hx hb hts in_Row t_Row t_Row_ok hown (hts _ mw300) (hts _ mw301) (hts _ mw48) hE.K hW hS hB rfl (fun j hj => by rcases (show j = 0 ∨ j = 1 by omega) with rfl | rfl <;> rfl) (Nat.le_of_ble_eq_true rfl) (Nat.le_of_ble_eq_true rfl) d_X_init_5 2 (fun q1 H hq2 hW hS => ?_)
  refine W.widen (k := 1) (n := 2) (Nat.le_refl _) (Nat.le_refl _) ?_
  have hF3 : gw_fg (gw_out [1, 2, 3, 4, 5, 8, 12]) M (gw_up M q1 2 (.inr (1, [.null, .int 0]))) := gw_fg.new gw_fg.rf hq2 (show ¬ ((gw_out [1, 2, 3, 4, 5, 8, 12]) 2) by decide)
  obtain ⟨M4, eM4⟩ : ∃ z, z = gw_up M q1 2 (.inr (1, [.null, .int 0])) := ⟨_, rfl⟩
  replace hW : gw_P G.1 vwCl G.2.2.2 M4 H := by rw [eM4]; exact hW
  have hf_x : M4 x = some (1, .inr (0, [.int 0, .int 0, .int 0, .null, .null, .null, .null, .null, .int 0])) := by rw [eM4]; exact gw_keepN hf_x hq2
  have hf_q1 : M4 q1 = some (2, .inr (1, [.null, .int 0])) := by rw [eM4]; exact gw_up_self _ _ _ _
  rw [← eM4] at hF3
  refine lv_dup hx hb d_X_init_8 rfl ?_
  refine gw_callv hS (va_runIN (As := []) (rest := [.ref q1, .ref x]) ⟨hx, hb, hml, hown, hts⟩ (k_Row_init l G M4 q1 hf_q1 ) ⟨va_cnB 0 hts (gw_g1 mw302) rfl rfl rfl (hE.nw mw303) (hts _ mw48) (by decide +kernel) ⟨Nat.le_of_ble_eq_true rfl, Nat.le_of_ble_eq_true rfl⟩, rfl, hts _ mw304⟩ (gw_ps hE hB hS hW) rfl rfl hl.1 rfl (lv_room (Nat.le_of_ble_eq_true rfl)) d_X_init_9 ⟨Nat.le_of_ble_eq_true rfl, Nat.le_of_ble_eq_true rfl⟩) (fun M6 H locs hw7 hW hS => ?_)
  refine W.widen (k := 2) (n := 258) (Nat.le_refl _) (Nat.le_refl _) ?_
  obtain ⟨n8, hf_q1', hf_n8', hfr9⟩ := hw7
  have hf_x : M6 x = some (1, .inr (0, [.int 0, .int 0, .int 0, .null, .null, .null, .null, .null, .int 0])) := (hfr9.1 _ _ _ (by decide)).mp hf_x
  have hf_q1 : M6 q1 = some (2, .inr (1, [.ref n8, .int 0])) := hf_q1'
  have hf_n8 : M6 n8 = some (3, .inl (G.2.1 0, 256, .inl (fun _ => 0))) := hf_n8'
  have hF10 : gw_fg (gw_out [1, 2, 3, 4, 5, 8, 12]) M M6 := gw_fg.tr hF3 (gw_fg.wk hfr9 (by decide))
  refine gw_putF (ci := 0) (fs := [.int 0, .int 0, .int 0, .null, .null, .null, .null, .null, .int 0]) (v := .ref q1) (ty := .object "Generations$Row") hx hb hts in_X t_X t_X_ok n_X hown hE.K hW hS hf_x rfl 3 (by decide) (hts _ mw45) (fun _ h9 => h9) rfl hin rfl (by decide +kernel) rfl rfl (Nat.le_of_ble_eq_true rfl) d_X_init_12 (fun H locs hW hS => ?_)
  have hF11 : gw_fg (gw_out [1, 2, 3, 4, 5, 8, 12]) M (gw_up M6 x 1 (.inr (0, [.int 0, .int 0, .int 0, .ref q1, .null, .null, .null, .null, .int 0]))) := gw_fg.up hF10 hf_x (show ¬ ((gw_out [1, 2, 3, 4, 5, 8, 12]) 1) by decide) (show ¬ ((gw_out [1, 2, 3, 4, 5, 8, 12]) 1) by decide)
  obtain ⟨M12, eM12⟩ : ∃ z, z = gw_up M6 x 1 (.inr (0, [.int 0, .int 0, .int 0, .ref q1, .null, .null, .null, .null, .int 0])) := ⟨_, rfl⟩
  replace hW : gw_P G.1 vwCl G.2.2.2 M12 H := by rw [eM12]; exact hW
  have hf_q1 : M12 q1 = some (2, .inr (1, [.ref n8, .int 0])) := by rw [eM12]; exact gw_keep hf_q1 hf_x (by decide)
  have hf_n8 : M12 n8 = some (3, .inl (G.2.1 0, 256, .inl (fun _ => 0))) := by rw [eM12]; exact gw_keep hf_n8 hf_x (by decide)
  have hf_x : M12 x = some (1, .inr (0, [.int 0, .int 0, .int 0, .ref q1, .null, .null, .null, .null, .int 0])) := by rw [eM12]; exact gw_up_self _ _ _ _
  rw [← eM12] at hF11
  refine lv_aload_n hx hb d_X_init_15 rfl (lv_at hl 0 rfl) ?_
  refine gw_new (ci := 4) (fs := [.int 0, .null, .int 0]) hx hb hts in_AL t_AL t_AL_ok hown (hts _ mw305) (hts _ mw306) (hts _ mw14) hE.K hW hS hB rfl (fun j hj => by rcases (show j = 0 ∨ j = 1 ∨ j = 2 by omega) with rfl | rfl | rfl <;> rfl) (Nat.le_of_ble_eq_true rfl) (Nat.le_of_ble_eq_true rfl) d_X_init_16 4 (fun q13 H hq14 hW hS => ?_)
  refine W.widen (k := 3) (n := 261) (Nat.le_refl _) (Nat.le_refl _) ?_
  have hF15 : gw_fg (gw_out [1, 2, 3, 4, 5, 8, 12]) M (gw_up M12 q13 4 (.inr (4, [.int 0, .null, .int 0]))) := gw_fg.new hF11 hq14 (show ¬ ((gw_out [1, 2, 3, 4, 5, 8, 12]) 4) by decide)
  obtain ⟨M16, eM16⟩ : ∃ z, z = gw_up M12 q13 4 (.inr (4, [.int 0, .null, .int 0])) := ⟨_, rfl⟩
  replace hW : gw_P G.1 vwCl G.2.2.2 M16 H := by rw [eM16]; exact hW
  have hf_q1 : M16 q1 = some (2, .inr (1, [.ref n8, .int 0])) := by rw [eM16]; exact gw_keepN hf_q1 hq14
  have hf_n8 : M16 n8 = some (3, .inl (G.2.1 0, 256, .inl (fun _ => 0))) := by rw [eM16]; exact gw_keepN hf_n8 hq14
  have hf_x : M16 x = some (1, .inr (0, [.int 0, .int 0, .int 0, .ref q1, .null, .null, .null, .null, .int 0])) := by rw [eM16]; exact gw_keepN hf_x hq14
  have hf_q13 : M16 q13 = some (4, .inr (4, [.int 0, .null, .int 0])) := by rw [eM16]; exact gw_up_self _ _ _ _
  rw [← eM16] at hF15
  refine lv_dup hx hb d_X_init_19 rfl ?_
  refine gw_callv hS (va_runI (As := []) (rest := [.ref q13, .ref x]) ⟨hx, hb, hml, hown, hts⟩ (k_AL_initJ l G M16 q13 hf_q13 ) (cwI 0 hts (gw_g1 mw307) rfl rfl rfl (hts _ mw14) (hts _ mw308) (hts _ mw309) rfl (by decide +kernel) ⟨Nat.le_of_ble_eq_true rfl, Nat.le_of_ble_eq_true rfl⟩) (gw_ps hE hB hS hW) rfl rfl hl.1 rfl (lv_room (Nat.le_of_ble_eq_true rfl)) d_X_init_20 ⟨Nat.le_of_ble_eq_true rfl, Nat.le_of_ble_eq_true rfl⟩) (fun M18 H locs hw19 hW hS => ?_)
  obtain ⟨hf_q13', hfr20⟩ := hw19
  have hf_q1 : M18 q1 = some (2, .inr (1, [.ref n8, .int 0])) := (hfr20.1 _ _ _ (by decide)).mp hf_q1
  have hf_n8 : M18 n8 = some (3, .inl (G.2.1 0, 256, .inl (fun _ => 0))) := (hfr20.1 _ _ _ (by decide)).mp hf_n8
  have hf_x : M18 x = some (1, .inr (0, [.int 0, .int 0, .int 0, .ref q1, .null, .null, .null, .null, .int 0])) := (hfr20.1 _ _ _ (by decide)).mp hf_x
  have hf_q13 : M18 q13 = some (4, .inr (4, [.int 0, .ref (G.2.2.1 0), .int 0])) := hf_q13'
  have hF21 : gw_fg (gw_out [1, 2, 3, 4, 5, 8, 12]) M M18 := gw_fg.tr hF15 (gw_fg.wk hfr20 (by decide))
  refine gw_putF (ci := 0) (fs := [.int 0, .int 0, .int 0, .ref q1, .null, .null, .null, .null, .int 0]) (v := .ref q13) (ty := .object "java/util/ArrayList") hx hb hts in_X t_X t_X_ok n_X hown hE.K hW hS hf_x rfl 4 (by decide) (hts _ mw66) (fun _ h9 => h9) rfl hin rfl (by decide +kernel) rfl rfl (Nat.le_of_ble_eq_true rfl) d_X_init_23 (fun H locs hW hS => ?_)
  have hF22 : gw_fg (gw_out [1, 2, 3, 4, 5, 8, 12]) M (gw_up M18 x 1 (.inr (0, [.int 0, .int 0, .int 0, .ref q1, .ref q13, .null, .null, .null, .int 0]))) := gw_fg.up hF21 hf_x (show ¬ ((gw_out [1, 2, 3, 4, 5, 8, 12]) 1) by decide) (show ¬ ((gw_out [1, 2, 3, 4, 5, 8, 12]) 1) by decide)
  obtain ⟨M23, eM23⟩ : ∃ z, z = gw_up M18 x 1 (.inr (0, [.int 0, .int 0, .int 0, .ref q1, .ref q13, .null, .null, .null, .int 0])) := ⟨_, rfl⟩
  replace hW : gw_P G.1 vwCl G.2.2.2 M23 H := by rw [eM23]; exact hW
  have hf_q13 : M23 q13 = some (4, .inr (4, [.int 0, .ref (G.2.2.1 0), .int 0])) := by rw [eM23]; exact gw_keep hf_q13 hf_x (by decide)
  have hf_q1 : M23 q1 = some (2, .inr (1, [.ref n8, .int 0])) := by rw [eM23]; exact gw_keep hf_q1 hf_x (by decide)
  have hf_n8 : M23 n8 = some (3, .inl (G.2.1 0, 256, .inl (fun _ => 0))) := by rw [eM23]; exact gw_keep hf_n8 hf_x (by decide)
  have hf_x : M23 x = some (1, .inr (0, [.int 0, .int 0, .int 0, .ref q1, .ref q13, .null, .null, .null, .int 0])) := by rw [eM23]; exact gw_up_self _ _ _ _
  rw [← eM23] at hF22
  refine lv_aload_n hx hb d_X_init_26 rfl (lv_at hl 0 rfl) ?_
  refine gw_new (ci := 4) (fs := [.int 0, .null, .int 0]) hx hb hts in_AL t_AL t_AL_ok hown (hts _ mw305) (hts _ mw306) (hts _ mw14) hE.K hW hS hB rfl (fun j hj => by rcases (show j = 0 ∨ j = 1 ∨ j = 2 by omega) with rfl | rfl | rfl <;> rfl) (Nat.le_of_ble_eq_true rfl) (Nat.le_of_ble_eq_true rfl) d_X_init_27 5 (fun q24 H hq25 hW hS => ?_)
  refine W.widen (k := 4) (n := 264) (Nat.le_refl _) (Nat.le_refl _) ?_
  have hF26 : gw_fg (gw_out [1, 2, 3, 4, 5, 8, 12]) M (gw_up M23 q24 5 (.inr (4, [.int 0, .null, .int 0]))) := gw_fg.new hF22 hq25 (show ¬ ((gw_out [1, 2, 3, 4, 5, 8, 12]) 5) by decide)
  obtain ⟨M27, eM27⟩ : ∃ z, z = gw_up M23 q24 5 (.inr (4, [.int 0, .null, .int 0])) := ⟨_, rfl⟩
  replace hW : gw_P G.1 vwCl G.2.2.2 M27 H := by rw [eM27]; exact hW
  have hf_q13 : M27 q13 = some (4, .inr (4, [.int 0, .ref (G.2.2.1 0), .int 0])) := by rw [eM27]; exact gw_keepN hf_q13 hq25
  have hf_q1 : M27 q1 = some (2, .inr (1, [.ref n8, .int 0])) := by rw [eM27]; exact gw_keepN hf_q1 hq25
  have hf_n8 : M27 n8 = some (3, .inl (G.2.1 0, 256, .inl (fun _ => 0))) := by rw [eM27]; exact gw_keepN hf_n8 hq25
  have hf_x : M27 x = some (1, .inr (0, [.int 0, .int 0, .int 0, .ref q1, .ref q13, .null, .null, .null, .int 0])) := by rw [eM27]; exact gw_keepN hf_x hq25
  have hf_q24 : M27 q24 = some (5, .inr (4, [.int 0, .null, .int 0])) := by rw [eM27]; exact gw_up_self _ _ _ _
  rw [← eM27] at hF26
  refine lv_dup hx hb d_X_init_30 rfl ?_
  refine gw_callv hS (va_runI (As := []) (rest := [.ref q24, .ref x]) ⟨hx, hb, hml, hown, hts⟩ (k_AL_initK l G M27 q24 hf_q24 ) (cwI 0 hts (gw_g1 mw307) rfl rfl rfl (hts _ mw14) (hts _ mw308) (hts _ mw309) rfl (by decide +kernel) ⟨Nat.le_of_ble_eq_true rfl, Nat.le_of_ble_eq_true rfl⟩) (gw_ps hE hB hS hW) rfl rfl hl.1 rfl (lv_room (Nat.le_of_ble_eq_true rfl)) d_X_init_31 ⟨Nat.le_of_ble_eq_true rfl, Nat.le_of_ble_eq_true rfl⟩) (fun M29 H locs hw30 hW hS => ?_)
  obtain ⟨hf_q24', hfr31⟩ := hw30
  have hf_q13 : M29 q13 = some (4, .inr (4, [.int 0, .ref (G.2.2.1 0), .int 0])) := (hfr31.1 _ _ _ (by decide)).mp hf_q13
  have hf_q1 : M29 q1 = some (2, .inr (1, [.ref n8, .int 0])) := (hfr31.1 _ _ _ (by decide)).mp hf_q1
  have hf_n8 : M29 n8 = some (3, .inl (G.2.1 0, 256, .inl (fun _ => 0))) := (hfr31.1 _ _ _ (by decide)).mp hf_n8
  have hf_x : M29 x = some (1, .inr (0, [.int 0, .int 0, .int 0, .ref q1, .ref q13, .null, .null, .null, .int 0])) := (hfr31.1 _ _ _ (by decide)).mp hf_x
  have hf_q24 : M29 q24 = some (5, .inr (4, [.int 0, .ref (G.2.2.1 0), .int 0])) := hf_q24'
  have hF32 : gw_fg (gw_out [1, 2, 3, 4, 5, 8, 12]) M M29 := gw_fg.tr hF26 (gw_fg.wk hfr31 (by decide))
  refine gw_putF (ci := 0) (fs := [.int 0, .int 0, .int 0, .ref q1, .ref q13, .null, .null, .null, .int 0]) (v := .ref q24) (ty := .object "java/util/ArrayList") hx hb hts in_X t_X t_X_ok n_X hown hE.K hW hS hf_x rfl 5 (by decide) (hts _ mw23) (fun _ h9 => h9) rfl hin rfl (by decide +kernel) rfl rfl (Nat.le_of_ble_eq_true rfl) d_X_init_34 (fun H locs hW hS => ?_)
  have hF33 : gw_fg (gw_out [1, 2, 3, 4, 5, 8, 12]) M (gw_up M29 x 1 (.inr (0, [.int 0, .int 0, .int 0, .ref q1, .ref q13, .ref q24, .null, .null, .int 0]))) := gw_fg.up hF32 hf_x (show ¬ ((gw_out [1, 2, 3, 4, 5, 8, 12]) 1) by decide) (show ¬ ((gw_out [1, 2, 3, 4, 5, 8, 12]) 1) by decide)
  obtain ⟨M34, eM34⟩ : ∃ z, z = gw_up M29 x 1 (.inr (0, [.int 0, .int 0, .int 0, .ref q1, .ref q13, .ref q24, .null, .null, .int 0])) := ⟨_, rfl⟩
  replace hW : gw_P G.1 vwCl G.2.2.2 M34 H := by rw [eM34]; exact hW
  have hf_q24 : M34 q24 = some (5, .inr (4, [.int 0, .ref (G.2.2.1 0), .int 0])) := by rw [eM34]; exact gw_keep hf_q24 hf_x (by decide)
  have hf_q13 : M34 q13 = some (4, .inr (4, [.int 0, .ref (G.2.2.1 0), .int 0])) := by rw [eM34]; exact gw_keep hf_q13 hf_x (by decide)
  have hf_q1 : M34 q1 = some (2, .inr (1, [.ref n8, .int 0])) := by rw [eM34]; exact gw_keep hf_q1 hf_x (by decide)
  have hf_n8 : M34 n8 = some (3, .inl (G.2.1 0, 256, .inl (fun _ => 0))) := by rw [eM34]; exact gw_keep hf_n8 hf_x (by decide)
  have hf_x : M34 x = some (1, .inr (0, [.int 0, .int 0, .int 0, .ref q1, .ref q13, .ref q24, .null, .null, .int 0])) := by rw [eM34]; exact gw_up_self _ _ _ _
  rw [← eM34] at hF33
  refine lv_aload_n hx hb d_X_init_37 rfl (lv_at hl 0 rfl) ?_
  refine gw_new (ci := 2) (fs := [.int 0, .int 0, .int 0, .int 0, .int 0]) hx hb hts in_Gen t_Gen t_Gen_ok hown (hts _ mw33) (hts _ mw154) (hts _ mw21) hE.K hW hS hB rfl (fun j hj => by rcases (show j = 0 ∨ j = 1 ∨ j = 2 ∨ j = 3 ∨ j = 4 by omega) with rfl | rfl | rfl | rfl | rfl <;> rfl) (Nat.le_of_ble_eq_true rfl) (Nat.le_of_ble_eq_true rfl) d_X_init_38 12 (fun q35 H hq36 hW hS => ?_)
  refine W.widen (k := 5) (n := 269) (Nat.le_refl _) (Nat.le_refl _) ?_
  have hF37 : gw_fg (gw_out [1, 2, 3, 4, 5, 8, 12]) M (gw_up M34 q35 12 (.inr (2, [.int 0, .int 0, .int 0, .int 0, .int 0]))) := gw_fg.new hF33 hq36 (show ¬ ((gw_out [1, 2, 3, 4, 5, 8, 12]) 12) by decide)
  obtain ⟨M38, eM38⟩ : ∃ z, z = gw_up M34 q35 12 (.inr (2, [.int 0, .int 0, .int 0, .int 0, .int 0])) := ⟨_, rfl⟩
  replace hW : gw_P G.1 vwCl G.2.2.2 M38 H := by rw [eM38]; exact hW
  have hf_q24 : M38 q24 = some (5, .inr (4, [.int 0, .ref (G.2.2.1 0), .int 0])) := by rw [eM38]; exact gw_keepN hf_q24 hq36
  have hf_q13 : M38 q13 = some (4, .inr (4, [.int 0, .ref (G.2.2.1 0), .int 0])) := by rw [eM38]; exact gw_keepN hf_q13 hq36
  have hf_q1 : M38 q1 = some (2, .inr (1, [.ref n8, .int 0])) := by rw [eM38]; exact gw_keepN hf_q1 hq36
  have hf_n8 : M38 n8 = some (3, .inl (G.2.1 0, 256, .inl (fun _ => 0))) := by rw [eM38]; exact gw_keepN hf_n8 hq36
  have hf_x : M38 x = some (1, .inr (0, [.int 0, .int 0, .int 0, .ref q1, .ref q13, .ref q24, .null, .null, .int 0])) := by rw [eM38]; exact gw_keepN hf_x hq36
  have hf_q35 : M38 q35 = some (12, .inr (2, [.int 0, .int 0, .int 0, .int 0, .int 0])) := by rw [eM38]; exact gw_up_self _ _ _ _
  rw [← eM38] at hF37
  refine lv_dup hx hb d_X_init_41 rfl ?_
  refine lv_iconst (v := 0) hx hb d_X_init_42 (by decide) ?_
  refine gw_callv hS (va_runIN (As := [.int 0]) (rest := [.ref q35, .ref x]) ⟨hx, hb, hml, hown, hts⟩ (k_Gen_init l G M38 q35 0 hf_q35 ) ⟨va_cnB 1 hts (gw_g1 mw155) rfl rfl rfl (hE.nw mw156) (hts _ mw21) (by decide +kernel) ⟨Nat.le_of_ble_eq_true rfl, Nat.le_of_ble_eq_true rfl⟩, rfl, hts _ mw157⟩ (gw_ps hE hB hS hW) rfl rfl hl.1 rfl (lv_room (Nat.le_of_ble_eq_true rfl)) d_X_init_43 ⟨Nat.le_of_ble_eq_true rfl, Nat.le_of_ble_eq_true rfl⟩) (fun M40 H locs hw41 hW hS => ?_)
  obtain ⟨hf_q35', hfr42⟩ := hw41
  have hf_q24 : M40 q24 = some (5, .inr (4, [.int 0, .ref (G.2.2.1 0), .int 0])) := (hfr42.1 _ _ _ (by decide)).mp hf_q24
  have hf_q13 : M40 q13 = some (4, .inr (4, [.int 0, .ref (G.2.2.1 0), .int 0])) := (hfr42.1 _ _ _ (by decide)).mp hf_q13
  have hf_q1 : M40 q1 = some (2, .inr (1, [.ref n8, .int 0])) := (hfr42.1 _ _ _ (by decide)).mp hf_q1
  have hf_n8 : M40 n8 = some (3, .inl (G.2.1 0, 256, .inl (fun _ => 0))) := (hfr42.1 _ _ _ (by decide)).mp hf_n8
  have hf_x : M40 x = some (1, .inr (0, [.int 0, .int 0, .int 0, .ref q1, .ref q13, .ref q24, .null, .null, .int 0])) := (hfr42.1 _ _ _ (by decide)).mp hf_x
  have hf_q35 : M40 q35 = some (12, .inr (2, [.int 0, .int 0, .int 0, .int 0, .int 0])) := hf_q35'
  have hF43 : gw_fg (gw_out [1, 2, 3, 4, 5, 8, 12]) M M40 := gw_fg.tr hF37 (gw_fg.wk hfr42 (by decide))
  refine gw_putF (ci := 0) (fs := [.int 0, .int 0, .int 0, .ref q1, .ref q13, .ref q24, .null, .null, .int 0]) (v := .ref q35) (ty := .object "Generations$Generation") hx hb hts in_X t_X t_X_ok n_X hown hE.K hW hS hf_x rfl 6 (by decide) (hts _ mw28) (fun _ h9 => h9) rfl hin rfl (by decide +kernel) rfl rfl (Nat.le_of_ble_eq_true rfl) d_X_init_46 (fun H locs hW hS => ?_)
  have hF44 : gw_fg (gw_out [1, 2, 3, 4, 5, 8, 12]) M (gw_up M40 x 1 (.inr (0, [.int 0, .int 0, .int 0, .ref q1, .ref q13, .ref q24, .ref q35, .null, .int 0]))) := gw_fg.up hF43 hf_x (show ¬ ((gw_out [1, 2, 3, 4, 5, 8, 12]) 1) by decide) (show ¬ ((gw_out [1, 2, 3, 4, 5, 8, 12]) 1) by decide)
  obtain ⟨M45, eM45⟩ : ∃ z, z = gw_up M40 x 1 (.inr (0, [.int 0, .int 0, .int 0, .ref q1, .ref q13, .ref q24, .ref q35, .null, .int 0])) := ⟨_, rfl⟩
  replace hW : gw_P G.1 vwCl G.2.2.2 M45 H := by rw [eM45]; exact hW
  have hf_q35 : M45 q35 = some (12, .inr (2, [.int 0, .int 0, .int 0, .int 0, .int 0])) := by rw [eM45]; exact gw_keep hf_q35 hf_x (by decide)
  have hf_q24 : M45 q24 = some (5, .inr (4, [.int 0, .ref (G.2.2.1 0), .int 0])) := by rw [eM45]; exact gw_keep hf_q24 hf_x (by decide)
  have hf_q13 : M45 q13 = some (4, .inr (4, [.int 0, .ref (G.2.2.1 0), .int 0])) := by rw [eM45]; exact gw_keep hf_q13 hf_x (by decide)
  have hf_q1 : M45 q1 = some (2, .inr (1, [.ref n8, .int 0])) := by rw [eM45]; exact gw_keep hf_q1 hf_x (by decide)
  have hf_n8 : M45 n8 = some (3, .inl (G.2.1 0, 256, .inl (fun _ => 0))) := by rw [eM45]; exact gw_keep hf_n8 hf_x (by decide)
  have hf_x : M45 x = some (1, .inr (0, [.int 0, .int 0, .int 0, .ref q1, .ref q13, .ref q24, .ref q35, .null, .int 0])) := by rw [eM45]; exact gw_up_self _ _ _ _
  rw [← eM45] at hF44
  refine lv_aload_n hx hb d_X_init_49 rfl (lv_at hl 0 rfl) ?_
  refine lv_sipush (v := 512) hx hb d_X_init_50 (by decide) ?_
  refine gw_newa (atype := .int) (ty := .int) (n := 512) (a0 := (512, .inl (fun _ => 0))) (N' := 512) hx hb (hts (.arrayClass .int) mw175) rfl hE.K hW hS hB (gw_zi 512) (by decide) (by decide) (Nat.le_of_ble_eq_true rfl) (Nat.le_of_ble_eq_true rfl) (Nat.le_of_ble_eq_true rfl) d_X_init_53 0 rfl (fun cA h1 h2 => gw_ri _ _ h1 h2) 8 (fun q46 H hq47 hW hS => ?_)
  refine W.widen (k := 6) (n := 781) (Nat.le_refl _) (Nat.le_refl _) ?_
  have hF48 : gw_fg (gw_out [1, 2, 3, 4, 5, 8, 12]) M (gw_up M45 q46 8 (.inl (G.2.1 0, 512, .inl (fun _ => 0)))) := gw_fg.new hF44 hq47 (show ¬ ((gw_out [1, 2, 3, 4, 5, 8, 12]) 8) by decide)
  obtain ⟨M49, eM49⟩ : ∃ z, z = gw_up M45 q46 8 (.inl (G.2.1 0, 512, .inl (fun _ => 0))) := ⟨_, rfl⟩
  replace hW : gw_P G.1 vwCl G.2.2.2 M49 H := by rw [eM49]; exact hW
  have hf_q35 : M49 q35 = some (12, .inr (2, [.int 0, .int 0, .int 0, .int 0, .int 0])) := by rw [eM49]; exact gw_keepN hf_q35 hq47
  have hf_q24 : M49 q24 = some (5, .inr (4, [.int 0, .ref (G.2.2.1 0), .int 0])) := by rw [eM49]; exact gw_keepN hf_q24 hq47
  have hf_q13 : M49 q13 = some (4, .inr (4, [.int 0, .ref (G.2.2.1 0), .int 0])) := by rw [eM49]; exact gw_keepN hf_q13 hq47
  have hf_q1 : M49 q1 = some (2, .inr (1, [.ref n8, .int 0])) := by rw [eM49]; exact gw_keepN hf_q1 hq47
  have hf_n8 : M49 n8 = some (3, .inl (G.2.1 0, 256, .inl (fun _ => 0))) := by rw [eM49]; exact gw_keepN hf_n8 hq47
  have hf_x : M49 x = some (1, .inr (0, [.int 0, .int 0, .int 0, .ref q1, .ref q13, .ref q24, .ref q35, .null, .int 0])) := by rw [eM49]; exact gw_keepN hf_x hq47
  have hf_q46 : M49 q46 = some (8, .inl (G.2.1 0, 512, .inl (fun _ => 0))) := by rw [eM49]; exact gw_up_self _ _ _ _
  rw [← eM49] at hF48
  refine gw_putF (ci := 0) (fs := [.int 0, .int 0, .int 0, .ref q1, .ref q13, .ref q24, .ref q35, .null, .int 0]) (v := .ref q46) (ty := .array .int) hx hb hts in_X t_X t_X_ok n_X hown hE.K hW hS hf_x rfl 7 (by decide) (hts _ mw52) (fun _ h9 => h9) rfl hin rfl (by decide +kernel) rfl rfl (Nat.le_of_ble_eq_true rfl) d_X_init_55 (fun H locs hW hS => ?_)
  have hF50 : gw_fg (gw_out [1, 2, 3, 4, 5, 8, 12]) M (gw_up M49 x 1 (.inr (0, [.int 0, .int 0, .int 0, .ref q1, .ref q13, .ref q24, .ref q35, .ref q46, .int 0]))) := gw_fg.up hF48 hf_x (show ¬ ((gw_out [1, 2, 3, 4, 5, 8, 12]) 1) by decide) (show ¬ ((gw_out [1, 2, 3, 4, 5, 8, 12]) 1) by decide)
  obtain ⟨M51, eM51⟩ : ∃ z, z = gw_up M49 x 1 (.inr (0, [.int 0, .int 0, .int 0, .ref q1, .ref q13, .ref q24, .ref q35, .ref q46, .int 0])) := ⟨_, rfl⟩
  replace hW : gw_P G.1 vwCl G.2.2.2 M51 H := by rw [eM51]; exact hW
  have hf_q35 : M51 q35 = some (12, .inr (2, [.int 0, .int 0, .int 0, .int 0, .int 0])) := by rw [eM51]; exact gw_keep hf_q35 hf_x (by decide)
  have hf_q24 : M51 q24 = some (5, .inr (4, [.int 0, .ref (G.2.2.1 0), .int 0])) := by rw [eM51]; exact gw_keep hf_q24 hf_x (by decide)
  have hf_q13 : M51 q13 = some (4, .inr (4, [.int 0, .ref (G.2.2.1 0), .int 0])) := by rw [eM51]; exact gw_keep hf_q13 hf_x (by decide)
  have hf_q1 : M51 q1 = some (2, .inr (1, [.ref n8, .int 0])) := by rw [eM51]; exact gw_keep hf_q1 hf_x (by decide)
  have hf_n8 : M51 n8 = some (3, .inl (G.2.1 0, 256, .inl (fun _ => 0))) := by rw [eM51]; exact gw_keep hf_n8 hf_x (by decide)
  have hf_q46 : M51 q46 = some (8, .inl (G.2.1 0, 512, .inl (fun _ => 0))) := by rw [eM51]; exact gw_keep hf_q46 hf_x (by decide)
  have hf_x : M51 x = some (1, .inr (0, [.int 0, .int 0, .int 0, .ref q1, .ref q13, .ref q24, .ref q35, .ref q46, .int 0])) := by rw [eM51]; exact gw_up_self _ _ _ _
  rw [← eM51] at hF50
  refine lv_aload_n hx hb d_X_init_58 rfl (lv_at hl 0 rfl) ?_
  refine lv_iconst (v := 1) hx hb d_X_init_59 (by decide) ?_
  refine lv_iload_n hx hb d_X_init_60 rfl (lv_at hl 1 rfl) ?_
  refine lv_sipush (v := 255) hx hb d_X_init_61 (by decide) ?_
  refine va_mmin (x := p0) (y := 255) hx hb (hml.trans hl.1.symm) hown (hts _ mw310) (hts _ mw94) (hts _ mw70) (hts _ mw95) (Nat.le_of_ble_eq_true rfl) (Nat.le_of_ble_eq_true rfl) (Nat.le_of_ble_eq_true rfl) (Nat.le_of_ble_eq_true rfl) d_X_init_64 ?_
  refine va_mmax (x := 1) (y := if 255 < p0 then 255 else p0) hx hb (hml.trans hl.1.symm) hown (hts _ mw311) (hts _ mw69) (hts _ mw70) (hts _ mw71) (Nat.le_of_ble_eq_true rfl) (Nat.le_of_ble_eq_true rfl) (Nat.le_of_ble_eq_true rfl) (Nat.le_of_ble_eq_true rfl) d_X_init_67 ?_
  refine gw_putF (ci := 0) (fs := [.int 0, .int 0, .int 0, .ref q1, .ref q13, .ref q24, .ref q35, .ref q46, .int 0]) (v := .int (if 1 < (if 255 < p0 then 255 else p0) then (if 255 < p0 then 255 else p0) else 1)) (ty := .int) hx hb hts in_X t_X t_X_ok n_X hown hE.K hW hS hf_x rfl 0 (by decide) (hts _ mw136) (fun _ h9 => h9) rfl hin rfl (by decide +kernel) rfl rfl (Nat.le_of_ble_eq_true rfl) d_X_init_70 (fun H locs hW hS => ?_)
  have hF52 : gw_fg (gw_out [1, 2, 3, 4, 5, 8, 12]) M (gw_up M51 x 1 (.inr (0, [.int (if 1 < (if 255 < p0 then 255 else p0) then (if 255 < p0 then 255 else p0) else 1), .int 0, .int 0, .ref q1, .ref q13, .ref q24, .ref q35, .ref q46, .int 0]))) := gw_fg.up hF50 hf_x (show ¬ ((gw_out [1, 2, 3, 4, 5, 8, 12]) 1) by decide) (show ¬ ((gw_out [1, 2, 3, 4, 5, 8, 12]) 1) by decide)
  obtain ⟨M53, eM53⟩ : ∃ z, z = gw_up M51 x 1 (.inr (0, [.int (if 1 < (if 255 < p0 then 255 else p0) then (if 255 < p0 then 255 else p0) else 1), .int 0, .int 0, .ref q1, .ref q13, .ref q24, .ref q35, .ref q46, .int 0])) := ⟨_, rfl⟩
  replace hW : gw_P G.1 vwCl G.2.2.2 M53 H := by rw [eM53]; exact hW
  have hf_q35 : M53 q35 = some (12, .inr (2, [.int 0, .int 0, .int 0, .int 0, .int 0])) := by rw [eM53]; exact gw_keep hf_q35 hf_x (by decide)
  have hf_q24 : M53 q24 = some (5, .inr (4, [.int 0, .ref (G.2.2.1 0), .int 0])) := by rw [eM53]; exact gw_keep hf_q24 hf_x (by decide)
  have hf_q13 : M53 q13 = some (4, .inr (4, [.int 0, .ref (G.2.2.1 0), .int 0])) := by rw [eM53]; exact gw_keep hf_q13 hf_x (by decide)
  have hf_q1 : M53 q1 = some (2, .inr (1, [.ref n8, .int 0])) := by rw [eM53]; exact gw_keep hf_q1 hf_x (by decide)
  have hf_n8 : M53 n8 = some (3, .inl (G.2.1 0, 256, .inl (fun _ => 0))) := by rw [eM53]; exact gw_keep hf_n8 hf_x (by decide)
  have hf_q46 : M53 q46 = some (8, .inl (G.2.1 0, 512, .inl (fun _ => 0))) := by rw [eM53]; exact gw_keep hf_q46 hf_x (by decide)
  have hf_x : M53 x = some (1, .inr (0, [.int (if 1 < (if 255 < p0 then 255 else p0) then (if 255 < p0 then 255 else p0) else 1), .int 0, .int 0, .ref q1, .ref q13, .ref q24, .ref q35, .ref q46, .int 0])) := by rw [eM53]; exact gw_up_self _ _ _ _
  rw [← eM53] at hF52
  refine lv_aload_n hx hb d_X_init_73 rfl (lv_at hl 0 rfl) ?_
  refine lv_iload_n hx hb d_X_init_74 rfl (lv_at hl 2 rfl) ?_
  refine lv_if_eq (tgt := 82) hx hb d_X_init_75 (by decide) (fun c75 => ?_) (fun c75 => ?_)
  · refine lv_iconst (v := 0) hx hb d_X_init_82 (by decide) ?_
    refine gw_putF (ci := 0) (fs := [.int (if 1 < (if 255 < p0 then 255 else p0) then (if 255 < p0 then 255 else p0) else 1), .int 0, .int 0, .ref q1, .ref q13, .ref q24, .ref q35, .ref q46, .int 0]) (v := .int 0) (ty := .boolean) hx hb hts in_X t_X t_X_ok n_X hown hE.K hW hS hf_x rfl 1 (by decide) (hts _ mw135) (fun _ h9 => h9) rfl hin rfl (by decide +kernel) rfl rfl (Nat.le_of_ble_eq_true rfl) d_X_init_83 (fun H locs hW hS => ?_)
    have hF54 : gw_fg (gw_out [1, 2, 3, 4, 5, 8, 12]) M (gw_up M53 x 1 (.inr (0, [.int (if 1 < (if 255 < p0 then 255 else p0) then (if 255 < p0 then 255 else p0) else 1), .int 0, .int 0, .ref q1, .ref q13, .ref q24, .ref q35, .ref q46, .int 0]))) := gw_fg.up hF52 hf_x (show ¬ ((gw_out [1, 2, 3, 4, 5, 8, 12]) 1) by decide) (show ¬ ((gw_out [1, 2, 3, 4, 5, 8, 12]) 1) by decide)
    obtain ⟨M55, eM55⟩ : ∃ z, z = gw_up M53 x 1 (.inr (0, [.int (if 1 < (if 255 < p0 then 255 else p0) then (if 255 < p0 then 255 else p0) else 1), .int 0, .int 0, .ref q1, .ref q13, .ref q24, .ref q35, .ref q46, .int 0])) := ⟨_, rfl⟩
    replace hW : gw_P G.1 vwCl G.2.2.2 M55 H := by rw [eM55]; exact hW
    have hf_q35 : M55 q35 = some (12, .inr (2, [.int 0, .int 0, .int 0, .int 0, .int 0])) := by rw [eM55]; exact gw_keep hf_q35 hf_x (by decide)
    have hf_q24 : M55 q24 = some (5, .inr (4, [.int 0, .ref (G.2.2.1 0), .int 0])) := by rw [eM55]; exact gw_keep hf_q24 hf_x (by decide)
    have hf_q13 : M55 q13 = some (4, .inr (4, [.int 0, .ref (G.2.2.1 0), .int 0])) := by rw [eM55]; exact gw_keep hf_q13 hf_x (by decide)
    have hf_q1 : M55 q1 = some (2, .inr (1, [.ref n8, .int 0])) := by rw [eM55]; exact gw_keep hf_q1 hf_x (by decide)
    have hf_n8 : M55 n8 = some (3, .inl (G.2.1 0, 256, .inl (fun _ => 0))) := by rw [eM55]; exact gw_keep hf_n8 hf_x (by decide)
    have hf_q46 : M55 q46 = some (8, .inl (G.2.1 0, 512, .inl (fun _ => 0))) := by rw [eM55]; exact gw_keep hf_q46 hf_x (by decide)
    have hf_x : M55 x = some (1, .inr (0, [.int (if 1 < (if 255 < p0 then 255 else p0) then (if 255 < p0 then 255 else p0) else 1), .int 0, .int 0, .ref q1, .ref q13, .ref q24, .ref q35, .ref q46, .int 0])) := by rw [eM55]; exact gw_up_self _ _ _ _
    rw [← eM55] at hF54
    exact gw_vret hx hb hr hlocks hS hW (Nat.le_of_ble_eq_true rfl) (Nat.le_of_ble_eq_true rfl) d_X_init_86 (⟨q1, n8, q13, q24, q35, q46, 0, hf_x, hf_q1, hf_n8, hf_q13, hf_q24, hf_q35, hf_q46, hF54⟩)
  · refine lv_iconst (v := 1) hx hb d_X_init_78 (by decide) ?_
    refine lv_goto (tgt := 83) hx hb d_X_init_79 (by decide) ?_
    refine gw_putF (ci := 0) (fs := [.int (if 1 < (if 255 < p0 then 255 else p0) then (if 255 < p0 then 255 else p0) else 1), .int 0, .int 0, .ref q1, .ref q13, .ref q24, .ref q35, .ref q46, .int 0]) (v := .int 1) (ty := .boolean) hx hb hts in_X t_X t_X_ok n_X hown hE.K hW hS hf_x rfl 1 (by decide) (hts _ mw135) (fun _ h9 => h9) rfl hin rfl (by decide +kernel) rfl rfl (Nat.le_of_ble_eq_true rfl) d_X_init_83 (fun H locs hW hS => ?_)
    have hF56 : gw_fg (gw_out [1, 2, 3, 4, 5, 8, 12]) M (gw_up M53 x 1 (.inr (0, [.int (if 1 < (if 255 < p0 then 255 else p0) then (if 255 < p0 then 255 else p0) else 1), .int 1, .int 0, .ref q1, .ref q13, .ref q24, .ref q35, .ref q46, .int 0]))) := gw_fg.up hF52 hf_x (show ¬ ((gw_out [1, 2, 3, 4, 5, 8, 12]) 1) by decide) (show ¬ ((gw_out [1, 2, 3, 4, 5, 8, 12]) 1) by decide)
    obtain ⟨M57, eM57⟩ : ∃ z, z = gw_up M53 x 1 (.inr (0, [.int (if 1 < (if 255 < p0 then 255 else p0) then (if 255 < p0 then 255 else p0) else 1), .int 1, .int 0, .ref q1, .ref q13, .ref q24, .ref q35, .ref q46, .int 0])) := ⟨_, rfl⟩
    replace hW : gw_P G.1 vwCl G.2.2.2 M57 H := by rw [eM57]; exact hW
    have hf_q35 : M57 q35 = some (12, .inr (2, [.int 0, .int 0, .int 0, .int 0, .int 0])) := by rw [eM57]; exact gw_keep hf_q35 hf_x (by decide)
    have hf_q24 : M57 q24 = some (5, .inr (4, [.int 0, .ref (G.2.2.1 0), .int 0])) := by rw [eM57]; exact gw_keep hf_q24 hf_x (by decide)
    have hf_q13 : M57 q13 = some (4, .inr (4, [.int 0, .ref (G.2.2.1 0), .int 0])) := by rw [eM57]; exact gw_keep hf_q13 hf_x (by decide)
    have hf_q1 : M57 q1 = some (2, .inr (1, [.ref n8, .int 0])) := by rw [eM57]; exact gw_keep hf_q1 hf_x (by decide)
    have hf_n8 : M57 n8 = some (3, .inl (G.2.1 0, 256, .inl (fun _ => 0))) := by rw [eM57]; exact gw_keep hf_n8 hf_x (by decide)
    have hf_q46 : M57 q46 = some (8, .inl (G.2.1 0, 512, .inl (fun _ => 0))) := by rw [eM57]; exact gw_keep hf_q46 hf_x (by decide)
    have hf_x : M57 x = some (1, .inr (0, [.int (if 1 < (if 255 < p0 then 255 else p0) then (if 255 < p0 then 255 else p0) else 1), .int 1, .int 0, .ref q1, .ref q13, .ref q24, .ref q35, .ref q46, .int 0])) := by rw [eM57]; exact gw_up_self _ _ _ _
    rw [← eM57] at hF56
    exact gw_vret hx hb hr hlocks hS hW (Nat.le_of_ble_eq_true rfl) (Nat.le_of_ble_eq_true rfl) d_X_init_86 (⟨q1, n8, q13, q24, q35, q46, 1, hf_x, hf_q1, hf_n8, hf_q13, hf_q24, hf_q35, hf_q46, hF56⟩)

set_option maxHeartbeats 4000000 in
set_option maxRecDepth 100000 in
theorem k_m_init (l : Launch) (G : gw_G) (M : gw_M) (mo : Nat) (p0 : Int32) (p1 : Int32) (hf_mo : M mo = some (100, .inr (5, [.int 0, .int 0, .int 0, .int 0, .null, .null, .int 0, .null, .null, .null, .null, .int 0, .int 0, .null, .int 0]))) : Met l y_Mo_init [.code y_Mo_init b_Mo_init 3 none] ({ frames := 1, cells := 7, slots := 26770, locals := 12 }) (gw_Pc G M [.ref mo, .int p0, .int p1]) (gw_Qv G (fun M2 => ∃ (there : Nat) (mrow : Nat) (found : Nat) (fsz : Nat) (ends : Nat) (made : Nat) (drops : Nat) (lm : Int32) (sm : Int32), M2 mo = some (100, .inr (5, [.int 0, .int lm, .int sm, .int 0, .ref there, .ref mrow, .int 0, .ref found, .ref fsz, .ref ends, .ref made, .int 0, .int 0, .ref drops, .int 0])) ∧ M2 there = some (101, .inl (G.2.1 0, 10000, .inl (fun _ => 0))) ∧ M2 mrow = some (102, .inl (G.2.1 0, 300, .inl (fun _ => 0))) ∧ M2 found = some (103, .inl (G.2.1 0, 10240, .inl (fun _ => 0))) ∧ M2 fsz = some (104, .inl (G.2.1 0, 41, .inl (fun _ => 0))) ∧ M2 ends = some (105, .inl (G.2.1 0, 41, .inl (fun _ => 0))) ∧ M2 made = some (106, .inl (G.2.1 0, 4100, .inl (fun _ => 0))) ∧ M2 drops = some (107, .inl (G.2.1 0, 2048, .inl (fun _ => 0))) ∧ (∃ q : Nat, lm = nI q ∧ 1 ≤ q ∧ q ≤ 255) ∧ gw_fg (gw_out [100, 101, 102, 103, 104, 105, 106, 107]) M M2)) 7 26770 (gw_A G) := by
  refine gw_start (by decide) (Nat.le_of_ble_eq_true rfl) (fun p9 e9 s m b9 mt9 c9 hx hb hr hml hown hlocks hin hE hB hW ls hl => ?_)
  have hts := hE.ts ([.ref mo, .int p0, .int p1] : List Value).toArray
  have hl : lv_has ls 3 [(0, .ref mo), (1, .int p0), (2, .int p1)] := hl
  have hS : va_S (gw_A G) s.heap s.heap [] := va_S.rf
  have hown : s.vm.findClass "GenerationsModel" = some m.cls := hown
  have hin : mt9.name = "<init>" := hin
  refine lv_aload_n hx hb d_Mo_init_0 rfl (lv_at hl 0 rfl) ?_
  refine W.objInit hx hb hown (hts _ mw312) (hts _ mw127) (hts _ mw128) rfl (by rw [hml]; exact hl.1) rfl d_Mo_init_1 (Nat.le_of_ble_eq_true rfl) (Nat.le_of_ble_eq_true rfl) ?_
  refine W.eq (g2 := F0 m 4 ls []) rfl ?_
  refine lv_aload_n hx hb d_Mo_init_4 rfl (lv_at hl 0 rfl) ?_
  refine lv_sipush (v := 10000) hx hb d_Mo_init_5 (by decide) ?_
  refine gw_newa (atype := .int) (ty := .int) (n := 10000) (a0 := (10000, .inl (fun _ => 0))) (N' := 10000) hx hb (hts (.arrayClass .int) mw175) rfl hE.K hW hS hB (gw_zi 10000) (by decide) (by decide) (Nat.le_of_ble_eq_true rfl) (Nat.le_of_ble_eq_true rfl) (Nat.le_of_ble_eq_true rfl) d_Mo_init_8 0 rfl (fun cA h1 h2 => gw_ri _ _ h1 h2) 101 (fun q1 H hq2 hW hS => ?_)
  refine W.widen (k := 1) (n := 10000) (Nat.le_refl _) (Nat.le_refl _) ?_
  have hF3 : gw_fg (gw_out [100, 101, 102, 103, 104, 105, 106, 107]) M (gw_up M q1 101 (.inl (G.2.1 0, 10000, .inl (fun _ => 0)))) := gw_fg.new gw_fg.rf hq2 (show ¬ ((gw_out [100, 101, 102, 103, 104, 105, 106, 107]) 101) by decide)
  obtain ⟨M4, eM4⟩ : ∃ z, z = gw_up M q1 101 (.inl (G.2.1 0, 10000, .inl (fun _ => 0))) := ⟨_, rfl⟩
  replace hW : gw_P G.1 vwCl G.2.2.2 M4 H := by rw [eM4]; exact hW
  have hf_mo : M4 mo = some (100, .inr (5, [.int 0, .int 0, .int 0, .int 0, .null, .null, .int 0, .null, .null, .null, .null, .int 0, .int 0, .null, .int 0])) := by rw [eM4]; exact gw_keepN hf_mo hq2
  have hf_q1 : M4 q1 = some (101, .inl (G.2.1 0, 10000, .inl (fun _ => 0))) := by rw [eM4]; exact gw_up_self _ _ _ _
  rw [← eM4] at hF3
  refine gw_putF (ci := 5) (fs := [.int 0, .int 0, .int 0, .int 0, .null, .null, .int 0, .null, .null, .null, .null, .int 0, .int 0, .null, .int 0]) (v := .ref q1) (ty := .array .int) hx hb hts in_Mo t_Mo t_Mo_ok n_Mo hown hE.K hW hS hf_mo rfl 4 (by decide) (hts _ mw223) (fun _ h9 => h9) rfl hin rfl (by decide +kernel) rfl rfl (Nat.le_of_ble_eq_true rfl) d_Mo_init_10 (fun H locs hW hS => ?_)
  have hF5 : gw_fg (gw_out [100, 101, 102, 103, 104, 105, 106, 107]) M (gw_up M4 mo 100 (.inr (5, [.int 0, .int 0, .int 0, .int 0, .ref q1, .null, .int 0, .null, .null, .null, .null, .int 0, .int 0, .null, .int 0]))) := gw_fg.up hF3 hf_mo (show ¬ ((gw_out [100, 101, 102, 103, 104, 105, 106, 107]) 100) by decide) (show ¬ ((gw_out [100, 101, 102, 103, 104, 105, 106, 107]) 100) by decide)
  obtain ⟨M6, eM6⟩ : ∃ z, z = gw_up M4 mo 100 (.inr (5, [.int 0, .int 0, .int 0, .int 0, .ref q1, .null, .int 0, .null, .null, .null, .null, .int 0, .int 0, .null, .int 0])) := ⟨_, rfl⟩
  replace hW : gw_P G.1 vwCl G.2.2.2 M6 H := by rw [eM6]; exact hW
  have hf_q1 : M6 q1 = some (101, .inl (G.2.1 0, 10000, .inl (fun _ => 0))) := by rw [eM6]; exact gw_keep hf_q1 hf_mo (by decide)
  have hf_mo : M6 mo = some (100, .inr (5, [.int 0, .int 0, .int 0, .int 0, .ref q1, .null, .int 0, .null, .null, .null, .null, .int 0, .int 0, .null, .int 0])) := by rw [eM6]; exact gw_up_self _ _ _ _
  rw [← eM6] at hF5
  refine lv_aload_n hx hb d_Mo_init_13 rfl (lv_at hl 0 rfl) ?_
  refine lv_sipush (v := 300) hx hb d_Mo_init_14 (by decide) ?_
  refine gw_newa (atype := .int) (ty := .int) (n := 300) (a0 := (300, .inl (fun _ => 0))) (N' := 300) hx hb (hts (.arrayClass .int) mw175) rfl hE.K hW hS hB (gw_zi 300) (by decide) (by decide) (Nat.le_of_ble_eq_true rfl) (Nat.le_of_ble_eq_true rfl) (Nat.le_of_ble_eq_true rfl) d_Mo_init_17 0 rfl (fun cA h1 h2 => gw_ri _ _ h1 h2) 102 (fun q7 H hq8 hW hS => ?_)
  refine W.widen (k := 2) (n := 10300) (Nat.le_refl _) (Nat.le_refl _) ?_
  have hF9 : gw_fg (gw_out [100, 101, 102, 103, 104, 105, 106, 107]) M (gw_up M6 q7 102 (.inl (G.2.1 0, 300, .inl (fun _ => 0)))) := gw_fg.new hF5 hq8 (show ¬ ((gw_out [100, 101, 102, 103, 104, 105, 106, 107]) 102) by decide)
  obtain ⟨M10, eM10⟩ : ∃ z, z = gw_up M6 q7 102 (.inl (G.2.1 0, 300, .inl (fun _ => 0))) := ⟨_, rfl⟩
  replace hW : gw_P G.1 vwCl G.2.2.2 M10 H := by rw [eM10]; exact hW
  have hf_q1 : M10 q1 = some (101, .inl (G.2.1 0, 10000, .inl (fun _ => 0))) := by rw [eM10]; exact gw_keepN hf_q1 hq8
  have hf_mo : M10 mo = some (100, .inr (5, [.int 0, .int 0, .int 0, .int 0, .ref q1, .null, .int 0, .null, .null, .null, .null, .int 0, .int 0, .null, .int 0])) := by rw [eM10]; exact gw_keepN hf_mo hq8
  have hf_q7 : M10 q7 = some (102, .inl (G.2.1 0, 300, .inl (fun _ => 0))) := by rw [eM10]; exact gw_up_self _ _ _ _
  rw [← eM10] at hF9
  refine gw_putF (ci := 5) (fs := [.int 0, .int 0, .int 0, .int 0, .ref q1, .null, .int 0, .null, .null, .null, .null, .int 0, .int 0, .null, .int 0]) (v := .ref q7) (ty := .array .int) hx hb hts in_Mo t_Mo t_Mo_ok n_Mo hown hE.K hW hS hf_mo rfl 5 (by decide) (hts _ mw238) (fun _ h9 => h9) rfl hin rfl (by decide +kernel) rfl rfl (Nat.le_of_ble_eq_true rfl) d_Mo_init_19 (fun H locs hW hS => ?_)
  have hF11 : gw_fg (gw_out [100, 101, 102, 103, 104, 105, 106, 107]) M (gw_up M10 mo 100 (.inr (5, [.int 0, .int 0, .int 0, .int 0, .ref q1, .ref q7, .int 0, .null, .null, .null, .null, .int 0, .int 0, .null, .int 0]))) := gw_fg.up hF9 hf_mo (show ¬ ((gw_out [100, 101, 102, 103, 104, 105, 106, 107]) 100) by decide) (show ¬ ((gw_out [100, 101, 102, 103, 104, 105, 106, 107]) 100) by decide)
  obtain ⟨M12, eM12⟩ : ∃ z, z = gw_up M10 mo 100 (.inr (5, [.int 0, .int 0, .int 0, .int 0, .ref q1, .ref q7, .int 0, .null, .null, .null, .null, .int 0, .int 0, .null, .int 0])) := ⟨_, rfl⟩
  replace hW : gw_P G.1 vwCl G.2.2.2 M12 H := by rw [eM12]; exact hW
  have hf_q1 : M12 q1 = some (101, .inl (G.2.1 0, 10000, .inl (fun _ => 0))) := by rw [eM12]; exact gw_keep hf_q1 hf_mo (by decide)
  have hf_q7 : M12 q7 = some (102, .inl (G.2.1 0, 300, .inl (fun _ => 0))) := by rw [eM12]; exact gw_keep hf_q7 hf_mo (by decide)
  have hf_mo : M12 mo = some (100, .inr (5, [.int 0, .int 0, .int 0, .int 0, .ref q1, .ref q7, .int 0, .null, .null, .null, .null, .int 0, .int 0, .null, .int 0])) := by rw [eM12]; exact gw_up_self _ _ _ _
  rw [← eM12] at hF11
  refine lv_aload_n hx hb d_Mo_init_22 rfl (lv_at hl 0 rfl) ?_
  refine lv_sipush (v := 10240) hx hb d_Mo_init_23 (by decide) ?_
  refine gw_newa (atype := .int) (ty := .int) (n := 10240) (a0 := (10240, .inl (fun _ => 0))) (N' := 10240) hx hb (hts (.arrayClass .int) mw175) rfl hE.K hW hS hB (gw_zi 10240) (by decide) (by decide) (Nat.le_of_ble_eq_true rfl) (Nat.le_of_ble_eq_true rfl) (Nat.le_of_ble_eq_true rfl) d_Mo_init_26 0 rfl (fun cA h1 h2 => gw_ri _ _ h1 h2) 103 (fun q13 H hq14 hW hS => ?_)
  refine W.widen (k := 3) (n := 20540) (Nat.le_refl _) (Nat.le_refl _) ?_
  have hF15 : gw_fg (gw_out [100, 101, 102, 103, 104, 105, 106, 107]) M (gw_up M12 q13 103 (.inl (G.2.1 0, 10240, .inl (fun _ => 0)))) := gw_fg.new hF11 hq14 (show ¬ ((gw_out [100, 101, 102, 103, 104, 105, 106, 107]) 103) by decide)
  obtain ⟨M16, eM16⟩ : ∃ z, z = gw_up M12 q13 103 (.inl (G.2.1 0, 10240, .inl (fun _ => 0))) := ⟨_, rfl⟩
  replace hW : gw_P G.1 vwCl G.2.2.2 M16 H := by rw [eM16]; exact hW
  have hf_q1 : M16 q1 = some (101, .inl (G.2.1 0, 10000, .inl (fun _ => 0))) := by rw [eM16]; exact gw_keepN hf_q1 hq14
  have hf_q7 : M16 q7 = some (102, .inl (G.2.1 0, 300, .inl (fun _ => 0))) := by rw [eM16]; exact gw_keepN hf_q7 hq14
  have hf_mo : M16 mo = some (100, .inr (5, [.int 0, .int 0, .int 0, .int 0, .ref q1, .ref q7, .int 0, .null, .null, .null, .null, .int 0, .int 0, .null, .int 0])) := by rw [eM16]; exact gw_keepN hf_mo hq14
  have hf_q13 : M16 q13 = some (103, .inl (G.2.1 0, 10240, .inl (fun _ => 0))) := by rw [eM16]; exact gw_up_self _ _ _ _
  rw [← eM16] at hF15
  refine gw_putF (ci := 5) (fs := [.int 0, .int 0, .int 0, .int 0, .ref q1, .ref q7, .int 0, .null, .null, .null, .null, .int 0, .int 0, .null, .int 0]) (v := .ref q13) (ty := .array .int) hx hb hts in_Mo t_Mo t_Mo_ok n_Mo hown hE.K hW hS hf_mo rfl 7 (by decide) (hts _ mw264) (fun _ h9 => h9) rfl hin rfl (by decide +kernel) rfl rfl (Nat.le_of_ble_eq_true rfl) d_Mo_init_28 (fun H locs hW hS => ?_)
  have hF17 : gw_fg (gw_out [100, 101, 102, 103, 104, 105, 106, 107]) M (gw_up M16 mo 100 (.inr (5, [.int 0, .int 0, .int 0, .int 0, .ref q1, .ref q7, .int 0, .ref q13, .null, .null, .null, .int 0, .int 0, .null, .int 0]))) := gw_fg.up hF15 hf_mo (show ¬ ((gw_out [100, 101, 102, 103, 104, 105, 106, 107]) 100) by decide) (show ¬ ((gw_out [100, 101, 102, 103, 104, 105, 106, 107]) 100) by decide)
  obtain ⟨M18, eM18⟩ : ∃ z, z = gw_up M16 mo 100 (.inr (5, [.int 0, .int 0, .int 0, .int 0, .ref q1, .ref q7, .int 0, .ref q13, .null, .null, .null, .int 0, .int 0, .null, .int 0])) := ⟨_, rfl⟩
  replace hW : gw_P G.1 vwCl G.2.2.2 M18 H := by rw [eM18]; exact hW
  have hf_q1 : M18 q1 = some (101, .inl (G.2.1 0, 10000, .inl (fun _ => 0))) := by rw [eM18]; exact gw_keep hf_q1 hf_mo (by decide)
  have hf_q7 : M18 q7 = some (102, .inl (G.2.1 0, 300, .inl (fun _ => 0))) := by rw [eM18]; exact gw_keep hf_q7 hf_mo (by decide)
  have hf_q13 : M18 q13 = some (103, .inl (G.2.1 0, 10240, .inl (fun _ => 0))) := by rw [eM18]; exact gw_keep hf_q13 hf_mo (by decide)
  have hf_mo : M18 mo = some (100, .inr (5, [.int 0, .int 0, .int 0, .int 0, .ref q1, .ref q7, .int 0, .ref q13, .null, .null, .null, .int 0, .int 0, .null, .int 0])) := by rw [eM18]; exact gw_up_self _ _ _ _
  rw [← eM18] at hF17
  refine lv_aload_n hx hb d_Mo_init_31 rfl (lv_at hl 0 rfl) ?_
  refine lv_bipush (v := 41) hx hb d_Mo_init_32 (by decide) ?_
  refine gw_newa (atype := .int) (ty := .int) (n := 41) (a0 := (41, .inl (fun _ => 0))) (N' := 41) hx hb (hts (.arrayClass .int) mw175) rfl hE.K hW hS hB (gw_zi 41) (by decide) (by decide) (Nat.le_of_ble_eq_true rfl) (Nat.le_of_ble_eq_true rfl) (Nat.le_of_ble_eq_true rfl) d_Mo_init_34 0 rfl (fun cA h1 h2 => gw_ri _ _ h1 h2) 104 (fun q19 H hq20 hW hS => ?_)
  refine W.widen (k := 4) (n := 20581) (Nat.le_refl _) (Nat.le_refl _) ?_
  have hF21 : gw_fg (gw_out [100, 101, 102, 103, 104, 105, 106, 107]) M (gw_up M18 q19 104 (.inl (G.2.1 0, 41, .inl (fun _ => 0)))) := gw_fg.new hF17 hq20 (show ¬ ((gw_out [100, 101, 102, 103, 104, 105, 106, 107]) 104) by decide)
  obtain ⟨M22, eM22⟩ : ∃ z, z = gw_up M18 q19 104 (.inl (G.2.1 0, 41, .inl (fun _ => 0))) := ⟨_, rfl⟩
  replace hW : gw_P G.1 vwCl G.2.2.2 M22 H := by rw [eM22]; exact hW
  have hf_q1 : M22 q1 = some (101, .inl (G.2.1 0, 10000, .inl (fun _ => 0))) := by rw [eM22]; exact gw_keepN hf_q1 hq20
  have hf_q7 : M22 q7 = some (102, .inl (G.2.1 0, 300, .inl (fun _ => 0))) := by rw [eM22]; exact gw_keepN hf_q7 hq20
  have hf_q13 : M22 q13 = some (103, .inl (G.2.1 0, 10240, .inl (fun _ => 0))) := by rw [eM22]; exact gw_keepN hf_q13 hq20
  have hf_mo : M22 mo = some (100, .inr (5, [.int 0, .int 0, .int 0, .int 0, .ref q1, .ref q7, .int 0, .ref q13, .null, .null, .null, .int 0, .int 0, .null, .int 0])) := by rw [eM22]; exact gw_keepN hf_mo hq20
  have hf_q19 : M22 q19 = some (104, .inl (G.2.1 0, 41, .inl (fun _ => 0))) := by rw [eM22]; exact gw_up_self _ _ _ _
  rw [← eM22] at hF21
  refine gw_putF (ci := 5) (fs := [.int 0, .int 0, .int 0, .int 0, .ref q1, .ref q7, .int 0, .ref q13, .null, .null, .null, .int 0, .int 0, .null, .int 0]) (v := .ref q19) (ty := .array .int) hx hb hts in_Mo t_Mo t_Mo_ok n_Mo hown hE.K hW hS hf_mo rfl 8 (by decide) (hts _ mw263) (fun _ h9 => h9) rfl hin rfl (by decide +kernel) rfl rfl (Nat.le_of_ble_eq_true rfl) d_Mo_init_36 (fun H locs hW hS => ?_)
  have hF23 : gw_fg (gw_out [100, 101, 102, 103, 104, 105, 106, 107]) M (gw_up M22 mo 100 (.inr (5, [.int 0, .int 0, .int 0, .int 0, .ref q1, .ref q7, .int 0, .ref q13, .ref q19, .null, .null, .int 0, .int 0, .null, .int 0]))) := gw_fg.up hF21 hf_mo (show ¬ ((gw_out [100, 101, 102, 103, 104, 105, 106, 107]) 100) by decide) (show ¬ ((gw_out [100, 101, 102, 103, 104, 105, 106, 107]) 100) by decide)
  obtain ⟨M24, eM24⟩ : ∃ z, z = gw_up M22 mo 100 (.inr (5, [.int 0, .int 0, .int 0, .int 0, .ref q1, .ref q7, .int 0, .ref q13, .ref q19, .null, .null, .int 0, .int 0, .null, .int 0])) := ⟨_, rfl⟩
  replace hW : gw_P G.1 vwCl G.2.2.2 M24 H := by rw [eM24]; exact hW
  have hf_q1 : M24 q1 = some (101, .inl (G.2.1 0, 10000, .inl (fun _ => 0))) := by rw [eM24]; exact gw_keep hf_q1 hf_mo (by decide)
  have hf_q7 : M24 q7 = some (102, .inl (G.2.1 0, 300, .inl (fun _ => 0))) := by rw [eM24]; exact gw_keep hf_q7 hf_mo (by decide)
  have hf_q13 : M24 q13 = some (103, .inl (G.2.1 0, 10240, .inl (fun _ => 0))) := by rw [eM24]; exact gw_keep hf_q13 hf_mo (by decide)
  have hf_q19 : M24 q19 = some (104, .inl (G.2.1 0, 41, .inl (fun _ => 0))) := by rw [eM24]; exact gw_keep hf_q19 hf_mo (by decide)
  have hf_mo : M24 mo = some (100, .inr (5, [.int 0, .int 0, .int 0, .int 0, .ref q1, .ref q7, .int 0, .ref q13, .ref q19, .null, .null, .int 0, .int 0, .null, .int 0])) := by rw [eM24]; exact gw_up_self _ _ _ _
  rw [← eM24] at hF23
  refine lv_aload_n hx hb d_Mo_init_39 rfl (lv_at hl 0 rfl) ?_
  refine lv_bipush (v := 41) hx hb d_Mo_init_40 (by decide) ?_
  refine gw_newa (atype := .int) (ty := .int) (n := 41) (a0 := (41, .inl (fun _ => 0))) (N' := 41) hx hb (hts (.arrayClass .int) mw175) rfl hE.K hW hS hB (gw_zi 41) (by decide) (by decide) (Nat.le_of_ble_eq_true rfl) (Nat.le_of_ble_eq_true rfl) (Nat.le_of_ble_eq_true rfl) d_Mo_init_42 0 rfl (fun cA h1 h2 => gw_ri _ _ h1 h2) 105 (fun q25 H hq26 hW hS => ?_)
  refine W.widen (k := 5) (n := 20622) (Nat.le_refl _) (Nat.le_refl _) ?_
  have hF27 : gw_fg (gw_out [100, 101, 102, 103, 104, 105, 106, 107]) M (gw_up M24 q25 105 (.inl (G.2.1 0, 41, .inl (fun _ => 0)))) := gw_fg.new hF23 hq26 (show ¬ ((gw_out [100, 101, 102, 103, 104, 105, 106, 107]) 105) by decide)
  obtain ⟨M28, eM28⟩ : ∃ z, z = gw_up M24 q25 105 (.inl (G.2.1 0, 41, .inl (fun _ => 0))) := ⟨_, rfl⟩
  replace hW : gw_P G.1 vwCl G.2.2.2 M28 H := by rw [eM28]; exact hW
  have hf_q1 : M28 q1 = some (101, .inl (G.2.1 0, 10000, .inl (fun _ => 0))) := by rw [eM28]; exact gw_keepN hf_q1 hq26
  have hf_q7 : M28 q7 = some (102, .inl (G.2.1 0, 300, .inl (fun _ => 0))) := by rw [eM28]; exact gw_keepN hf_q7 hq26
  have hf_q13 : M28 q13 = some (103, .inl (G.2.1 0, 10240, .inl (fun _ => 0))) := by rw [eM28]; exact gw_keepN hf_q13 hq26
  have hf_q19 : M28 q19 = some (104, .inl (G.2.1 0, 41, .inl (fun _ => 0))) := by rw [eM28]; exact gw_keepN hf_q19 hq26
  have hf_mo : M28 mo = some (100, .inr (5, [.int 0, .int 0, .int 0, .int 0, .ref q1, .ref q7, .int 0, .ref q13, .ref q19, .null, .null, .int 0, .int 0, .null, .int 0])) := by rw [eM28]; exact gw_keepN hf_mo hq26
  have hf_q25 : M28 q25 = some (105, .inl (G.2.1 0, 41, .inl (fun _ => 0))) := by rw [eM28]; exact gw_up_self _ _ _ _
  rw [← eM28] at hF27
  refine gw_putF (ci := 5) (fs := [.int 0, .int 0, .int 0, .int 0, .ref q1, .ref q7, .int 0, .ref q13, .ref q19, .null, .null, .int 0, .int 0, .null, .int 0]) (v := .ref q25) (ty := .array .int) hx hb hts in_Mo t_Mo t_Mo_ok n_Mo hown hE.K hW hS hf_mo rfl 9 (by decide) (hts _ mw283) (fun _ h9 => h9) rfl hin rfl (by decide +kernel) rfl rfl (Nat.le_of_ble_eq_true rfl) d_Mo_init_44 (fun H locs hW hS => ?_)
  have hF29 : gw_fg (gw_out [100, 101, 102, 103, 104, 105, 106, 107]) M (gw_up M28 mo 100 (.inr (5, [.int 0, .int 0, .int 0, .int 0, .ref q1, .ref q7, .int 0, .ref q13, .ref q19, .ref q25, .null, .int 0, .int 0, .null, .int 0]))) := gw_fg.up hF27 hf_mo (show ¬ ((gw_out [100, 101, 102, 103, 104, 105, 106, 107]) 100) by decide) (show ¬ ((gw_out [100, 101, 102, 103, 104, 105, 106, 107]) 100) by decide)
  obtain ⟨M30, eM30⟩ : ∃ z, z = gw_up M28 mo 100 (.inr (5, [.int 0, .int 0, .int 0, .int 0, .ref q1, .ref q7, .int 0, .ref q13, .ref q19, .ref q25, .null, .int 0, .int 0, .null, .int 0])) := ⟨_, rfl⟩
  replace hW : gw_P G.1 vwCl G.2.2.2 M30 H := by rw [eM30]; exact hW
  have hf_q1 : M30 q1 = some (101, .inl (G.2.1 0, 10000, .inl (fun _ => 0))) := by rw [eM30]; exact gw_keep hf_q1 hf_mo (by decide)
  have hf_q7 : M30 q7 = some (102, .inl (G.2.1 0, 300, .inl (fun _ => 0))) := by rw [eM30]; exact gw_keep hf_q7 hf_mo (by decide)
  have hf_q13 : M30 q13 = some (103, .inl (G.2.1 0, 10240, .inl (fun _ => 0))) := by rw [eM30]; exact gw_keep hf_q13 hf_mo (by decide)
  have hf_q19 : M30 q19 = some (104, .inl (G.2.1 0, 41, .inl (fun _ => 0))) := by rw [eM30]; exact gw_keep hf_q19 hf_mo (by decide)
  have hf_q25 : M30 q25 = some (105, .inl (G.2.1 0, 41, .inl (fun _ => 0))) := by rw [eM30]; exact gw_keep hf_q25 hf_mo (by decide)
  have hf_mo : M30 mo = some (100, .inr (5, [.int 0, .int 0, .int 0, .int 0, .ref q1, .ref q7, .int 0, .ref q13, .ref q19, .ref q25, .null, .int 0, .int 0, .null, .int 0])) := by rw [eM30]; exact gw_up_self _ _ _ _
  rw [← eM30] at hF29
  refine lv_aload_n hx hb d_Mo_init_47 rfl (lv_at hl 0 rfl) ?_
  refine lv_sipush (v := 4100) hx hb d_Mo_init_48 (by decide) ?_
  refine gw_newa (atype := .int) (ty := .int) (n := 4100) (a0 := (4100, .inl (fun _ => 0))) (N' := 4100) hx hb (hts (.arrayClass .int) mw175) rfl hE.K hW hS hB (gw_zi 4100) (by decide) (by decide) (Nat.le_of_ble_eq_true rfl) (Nat.le_of_ble_eq_true rfl) (Nat.le_of_ble_eq_true rfl) d_Mo_init_51 0 rfl (fun cA h1 h2 => gw_ri _ _ h1 h2) 106 (fun q31 H hq32 hW hS => ?_)
  refine W.widen (k := 6) (n := 24722) (Nat.le_refl _) (Nat.le_refl _) ?_
  have hF33 : gw_fg (gw_out [100, 101, 102, 103, 104, 105, 106, 107]) M (gw_up M30 q31 106 (.inl (G.2.1 0, 4100, .inl (fun _ => 0)))) := gw_fg.new hF29 hq32 (show ¬ ((gw_out [100, 101, 102, 103, 104, 105, 106, 107]) 106) by decide)
  obtain ⟨M34, eM34⟩ : ∃ z, z = gw_up M30 q31 106 (.inl (G.2.1 0, 4100, .inl (fun _ => 0))) := ⟨_, rfl⟩
  replace hW : gw_P G.1 vwCl G.2.2.2 M34 H := by rw [eM34]; exact hW
  have hf_q1 : M34 q1 = some (101, .inl (G.2.1 0, 10000, .inl (fun _ => 0))) := by rw [eM34]; exact gw_keepN hf_q1 hq32
  have hf_q7 : M34 q7 = some (102, .inl (G.2.1 0, 300, .inl (fun _ => 0))) := by rw [eM34]; exact gw_keepN hf_q7 hq32
  have hf_q13 : M34 q13 = some (103, .inl (G.2.1 0, 10240, .inl (fun _ => 0))) := by rw [eM34]; exact gw_keepN hf_q13 hq32
  have hf_q19 : M34 q19 = some (104, .inl (G.2.1 0, 41, .inl (fun _ => 0))) := by rw [eM34]; exact gw_keepN hf_q19 hq32
  have hf_q25 : M34 q25 = some (105, .inl (G.2.1 0, 41, .inl (fun _ => 0))) := by rw [eM34]; exact gw_keepN hf_q25 hq32
  have hf_mo : M34 mo = some (100, .inr (5, [.int 0, .int 0, .int 0, .int 0, .ref q1, .ref q7, .int 0, .ref q13, .ref q19, .ref q25, .null, .int 0, .int 0, .null, .int 0])) := by rw [eM34]; exact gw_keepN hf_mo hq32
  have hf_q31 : M34 q31 = some (106, .inl (G.2.1 0, 4100, .inl (fun _ => 0))) := by rw [eM34]; exact gw_up_self _ _ _ _
  rw [← eM34] at hF33
  refine gw_putF (ci := 5) (fs := [.int 0, .int 0, .int 0, .int 0, .ref q1, .ref q7, .int 0, .ref q13, .ref q19, .ref q25, .null, .int 0, .int 0, .null, .int 0]) (v := .ref q31) (ty := .array .int) hx hb hts in_Mo t_Mo t_Mo_ok n_Mo hown hE.K hW hS hf_mo rfl 10 (by decide) (hts _ mw273) (fun _ h9 => h9) rfl hin rfl (by decide +kernel) rfl rfl (Nat.le_of_ble_eq_true rfl) d_Mo_init_53 (fun H locs hW hS => ?_)
  have hF35 : gw_fg (gw_out [100, 101, 102, 103, 104, 105, 106, 107]) M (gw_up M34 mo 100 (.inr (5, [.int 0, .int 0, .int 0, .int 0, .ref q1, .ref q7, .int 0, .ref q13, .ref q19, .ref q25, .ref q31, .int 0, .int 0, .null, .int 0]))) := gw_fg.up hF33 hf_mo (show ¬ ((gw_out [100, 101, 102, 103, 104, 105, 106, 107]) 100) by decide) (show ¬ ((gw_out [100, 101, 102, 103, 104, 105, 106, 107]) 100) by decide)
  obtain ⟨M36, eM36⟩ : ∃ z, z = gw_up M34 mo 100 (.inr (5, [.int 0, .int 0, .int 0, .int 0, .ref q1, .ref q7, .int 0, .ref q13, .ref q19, .ref q25, .ref q31, .int 0, .int 0, .null, .int 0])) := ⟨_, rfl⟩
  replace hW : gw_P G.1 vwCl G.2.2.2 M36 H := by rw [eM36]; exact hW
  have hf_q1 : M36 q1 = some (101, .inl (G.2.1 0, 10000, .inl (fun _ => 0))) := by rw [eM36]; exact gw_keep hf_q1 hf_mo (by decide)
  have hf_q7 : M36 q7 = some (102, .inl (G.2.1 0, 300, .inl (fun _ => 0))) := by rw [eM36]; exact gw_keep hf_q7 hf_mo (by decide)
  have hf_q13 : M36 q13 = some (103, .inl (G.2.1 0, 10240, .inl (fun _ => 0))) := by rw [eM36]; exact gw_keep hf_q13 hf_mo (by decide)
  have hf_q19 : M36 q19 = some (104, .inl (G.2.1 0, 41, .inl (fun _ => 0))) := by rw [eM36]; exact gw_keep hf_q19 hf_mo (by decide)
  have hf_q25 : M36 q25 = some (105, .inl (G.2.1 0, 41, .inl (fun _ => 0))) := by rw [eM36]; exact gw_keep hf_q25 hf_mo (by decide)
  have hf_q31 : M36 q31 = some (106, .inl (G.2.1 0, 4100, .inl (fun _ => 0))) := by rw [eM36]; exact gw_keep hf_q31 hf_mo (by decide)
  have hf_mo : M36 mo = some (100, .inr (5, [.int 0, .int 0, .int 0, .int 0, .ref q1, .ref q7, .int 0, .ref q13, .ref q19, .ref q25, .ref q31, .int 0, .int 0, .null, .int 0])) := by rw [eM36]; exact gw_up_self _ _ _ _
  rw [← eM36] at hF35
  refine lv_aload_n hx hb d_Mo_init_56 rfl (lv_at hl 0 rfl) ?_
  refine lv_sipush (v := 2048) hx hb d_Mo_init_57 (by decide) ?_
  refine gw_newa (atype := .int) (ty := .int) (n := 2048) (a0 := (2048, .inl (fun _ => 0))) (N' := 2048) hx hb (hts (.arrayClass .int) mw175) rfl hE.K hW hS hB (gw_zi 2048) (by decide) (by decide) (Nat.le_of_ble_eq_true rfl) (Nat.le_of_ble_eq_true rfl) (Nat.le_of_ble_eq_true rfl) d_Mo_init_60 0 rfl (fun cA h1 h2 => gw_ri _ _ h1 h2) 107 (fun q37 H hq38 hW hS => ?_)
  refine W.widen (k := 7) (n := 26770) (Nat.le_refl _) (Nat.le_refl _) ?_
  have hF39 : gw_fg (gw_out [100, 101, 102, 103, 104, 105, 106, 107]) M (gw_up M36 q37 107 (.inl (G.2.1 0, 2048, .inl (fun _ => 0)))) := gw_fg.new hF35 hq38 (show ¬ ((gw_out [100, 101, 102, 103, 104, 105, 106, 107]) 107) by decide)
  obtain ⟨M40, eM40⟩ : ∃ z, z = gw_up M36 q37 107 (.inl (G.2.1 0, 2048, .inl (fun _ => 0))) := ⟨_, rfl⟩
  replace hW : gw_P G.1 vwCl G.2.2.2 M40 H := by rw [eM40]; exact hW
  have hf_q1 : M40 q1 = some (101, .inl (G.2.1 0, 10000, .inl (fun _ => 0))) := by rw [eM40]; exact gw_keepN hf_q1 hq38
  have hf_q7 : M40 q7 = some (102, .inl (G.2.1 0, 300, .inl (fun _ => 0))) := by rw [eM40]; exact gw_keepN hf_q7 hq38
  have hf_q13 : M40 q13 = some (103, .inl (G.2.1 0, 10240, .inl (fun _ => 0))) := by rw [eM40]; exact gw_keepN hf_q13 hq38
  have hf_q19 : M40 q19 = some (104, .inl (G.2.1 0, 41, .inl (fun _ => 0))) := by rw [eM40]; exact gw_keepN hf_q19 hq38
  have hf_q25 : M40 q25 = some (105, .inl (G.2.1 0, 41, .inl (fun _ => 0))) := by rw [eM40]; exact gw_keepN hf_q25 hq38
  have hf_q31 : M40 q31 = some (106, .inl (G.2.1 0, 4100, .inl (fun _ => 0))) := by rw [eM40]; exact gw_keepN hf_q31 hq38
  have hf_mo : M40 mo = some (100, .inr (5, [.int 0, .int 0, .int 0, .int 0, .ref q1, .ref q7, .int 0, .ref q13, .ref q19, .ref q25, .ref q31, .int 0, .int 0, .null, .int 0])) := by rw [eM40]; exact gw_keepN hf_mo hq38
  have hf_q37 : M40 q37 = some (107, .inl (G.2.1 0, 2048, .inl (fun _ => 0))) := by rw [eM40]; exact gw_up_self _ _ _ _
  rw [← eM40] at hF39
  refine gw_putF (ci := 5) (fs := [.int 0, .int 0, .int 0, .int 0, .ref q1, .ref q7, .int 0, .ref q13, .ref q19, .ref q25, .ref q31, .int 0, .int 0, .null, .int 0]) (v := .ref q37) (ty := .array .int) hx hb hts in_Mo t_Mo t_Mo_ok n_Mo hown hE.K hW hS hf_mo rfl 13 (by decide) (hts _ mw246) (fun _ h9 => h9) rfl hin rfl (by decide +kernel) rfl rfl (Nat.le_of_ble_eq_true rfl) d_Mo_init_62 (fun H locs hW hS => ?_)
  have hF41 : gw_fg (gw_out [100, 101, 102, 103, 104, 105, 106, 107]) M (gw_up M40 mo 100 (.inr (5, [.int 0, .int 0, .int 0, .int 0, .ref q1, .ref q7, .int 0, .ref q13, .ref q19, .ref q25, .ref q31, .int 0, .int 0, .ref q37, .int 0]))) := gw_fg.up hF39 hf_mo (show ¬ ((gw_out [100, 101, 102, 103, 104, 105, 106, 107]) 100) by decide) (show ¬ ((gw_out [100, 101, 102, 103, 104, 105, 106, 107]) 100) by decide)
  obtain ⟨M42, eM42⟩ : ∃ z, z = gw_up M40 mo 100 (.inr (5, [.int 0, .int 0, .int 0, .int 0, .ref q1, .ref q7, .int 0, .ref q13, .ref q19, .ref q25, .ref q31, .int 0, .int 0, .ref q37, .int 0])) := ⟨_, rfl⟩
  replace hW : gw_P G.1 vwCl G.2.2.2 M42 H := by rw [eM42]; exact hW
  have hf_q1 : M42 q1 = some (101, .inl (G.2.1 0, 10000, .inl (fun _ => 0))) := by rw [eM42]; exact gw_keep hf_q1 hf_mo (by decide)
  have hf_q7 : M42 q7 = some (102, .inl (G.2.1 0, 300, .inl (fun _ => 0))) := by rw [eM42]; exact gw_keep hf_q7 hf_mo (by decide)
  have hf_q13 : M42 q13 = some (103, .inl (G.2.1 0, 10240, .inl (fun _ => 0))) := by rw [eM42]; exact gw_keep hf_q13 hf_mo (by decide)
  have hf_q19 : M42 q19 = some (104, .inl (G.2.1 0, 41, .inl (fun _ => 0))) := by rw [eM42]; exact gw_keep hf_q19 hf_mo (by decide)
  have hf_q25 : M42 q25 = some (105, .inl (G.2.1 0, 41, .inl (fun _ => 0))) := by rw [eM42]; exact gw_keep hf_q25 hf_mo (by decide)
  have hf_q31 : M42 q31 = some (106, .inl (G.2.1 0, 4100, .inl (fun _ => 0))) := by rw [eM42]; exact gw_keep hf_q31 hf_mo (by decide)
  have hf_q37 : M42 q37 = some (107, .inl (G.2.1 0, 2048, .inl (fun _ => 0))) := by rw [eM42]; exact gw_keep hf_q37 hf_mo (by decide)
  have hf_mo : M42 mo = some (100, .inr (5, [.int 0, .int 0, .int 0, .int 0, .ref q1, .ref q7, .int 0, .ref q13, .ref q19, .ref q25, .ref q31, .int 0, .int 0, .ref q37, .int 0])) := by rw [eM42]; exact gw_up_self _ _ _ _
  rw [← eM42] at hF41
  refine lv_aload_n hx hb d_Mo_init_65 rfl (lv_at hl 0 rfl) ?_
  refine lv_iload_n hx hb d_Mo_init_66 rfl (lv_at hl 1 rfl) ?_
  refine lv_iconst (v := 1) hx hb d_Mo_init_67 (by decide) ?_
  refine lv_icmp_ge (tgt := 75) hx hb d_Mo_init_68 (by decide) (fun c68 => ?_) (fun c68 => ?_)
  · refine lv_iload_n hx hb d_Mo_init_75 rfl (lv_at hl 1 rfl) ?_
    refine lv_sipush (v := 255) hx hb d_Mo_init_76 (by decide) ?_
    refine lv_icmp_le (tgt := 88) hx hb d_Mo_init_79 (by decide) (fun c79 => ?_) (fun c79 => ?_)
    · refine lv_iload_n hx hb d_Mo_init_88 rfl (lv_at hl 1 rfl) ?_
      refine gw_putF (ci := 5) (fs := [.int 0, .int 0, .int 0, .int 0, .ref q1, .ref q7, .int 0, .ref q13, .ref q19, .ref q25, .ref q31, .int 0, .int 0, .ref q37, .int 0]) (v := .int p0) (ty := .int) hx hb hts in_Mo t_Mo t_Mo_ok n_Mo hown hE.K hW hS hf_mo rfl 1 (by decide) (hts _ mw243) (fun _ h9 => h9) rfl hin rfl (by decide +kernel) rfl rfl (Nat.le_of_ble_eq_true rfl) d_Mo_init_89 (fun H locs hW hS => ?_)
      have hF43 : gw_fg (gw_out [100, 101, 102, 103, 104, 105, 106, 107]) M (gw_up M42 mo 100 (.inr (5, [.int 0, .int p0, .int 0, .int 0, .ref q1, .ref q7, .int 0, .ref q13, .ref q19, .ref q25, .ref q31, .int 0, .int 0, .ref q37, .int 0]))) := gw_fg.up hF41 hf_mo (show ¬ ((gw_out [100, 101, 102, 103, 104, 105, 106, 107]) 100) by decide) (show ¬ ((gw_out [100, 101, 102, 103, 104, 105, 106, 107]) 100) by decide)
      obtain ⟨M44, eM44⟩ : ∃ z, z = gw_up M42 mo 100 (.inr (5, [.int 0, .int p0, .int 0, .int 0, .ref q1, .ref q7, .int 0, .ref q13, .ref q19, .ref q25, .ref q31, .int 0, .int 0, .ref q37, .int 0])) := ⟨_, rfl⟩
      replace hW : gw_P G.1 vwCl G.2.2.2 M44 H := by rw [eM44]; exact hW
      have hf_q1 : M44 q1 = some (101, .inl (G.2.1 0, 10000, .inl (fun _ => 0))) := by rw [eM44]; exact gw_keep hf_q1 hf_mo (by decide)
      have hf_q7 : M44 q7 = some (102, .inl (G.2.1 0, 300, .inl (fun _ => 0))) := by rw [eM44]; exact gw_keep hf_q7 hf_mo (by decide)
      have hf_q13 : M44 q13 = some (103, .inl (G.2.1 0, 10240, .inl (fun _ => 0))) := by rw [eM44]; exact gw_keep hf_q13 hf_mo (by decide)
      have hf_q19 : M44 q19 = some (104, .inl (G.2.1 0, 41, .inl (fun _ => 0))) := by rw [eM44]; exact gw_keep hf_q19 hf_mo (by decide)
      have hf_q25 : M44 q25 = some (105, .inl (G.2.1 0, 41, .inl (fun _ => 0))) := by rw [eM44]; exact gw_keep hf_q25 hf_mo (by decide)
      have hf_q31 : M44 q31 = some (106, .inl (G.2.1 0, 4100, .inl (fun _ => 0))) := by rw [eM44]; exact gw_keep hf_q31 hf_mo (by decide)
      have hf_q37 : M44 q37 = some (107, .inl (G.2.1 0, 2048, .inl (fun _ => 0))) := by rw [eM44]; exact gw_keep hf_q37 hf_mo (by decide)
      have hf_mo : M44 mo = some (100, .inr (5, [.int 0, .int p0, .int 0, .int 0, .ref q1, .ref q7, .int 0, .ref q13, .ref q19, .ref q25, .ref q31, .int 0, .int 0, .ref q37, .int 0])) := by rw [eM44]; exact gw_up_self _ _ _ _
      rw [← eM44] at hF43
      refine lv_aload_n hx hb d_Mo_init_92 rfl (lv_at hl 0 rfl) ?_
      refine lv_iload_n hx hb d_Mo_init_93 rfl (lv_at hl 2 rfl) ?_
      refine lv_if_eq (tgt := 101) hx hb d_Mo_init_94 (by decide) (fun c94 => ?_) (fun c94 => ?_)
      · refine lv_iconst (v := 0) hx hb d_Mo_init_101 (by decide) ?_
        refine gw_putF (ci := 5) (fs := [.int 0, .int p0, .int 0, .int 0, .ref q1, .ref q7, .int 0, .ref q13, .ref q19, .ref q25, .ref q31, .int 0, .int 0, .ref q37, .int 0]) (v := .int 0) (ty := .boolean) hx hb hts in_Mo t_Mo t_Mo_ok n_Mo hown hE.K hW hS hf_mo rfl 2 (by decide) (hts _ mw245) (fun _ h9 => h9) rfl hin rfl (by decide +kernel) rfl rfl (Nat.le_of_ble_eq_true rfl) d_Mo_init_102 (fun H locs hW hS => ?_)
        have hF45 : gw_fg (gw_out [100, 101, 102, 103, 104, 105, 106, 107]) M (gw_up M44 mo 100 (.inr (5, [.int 0, .int p0, .int 0, .int 0, .ref q1, .ref q7, .int 0, .ref q13, .ref q19, .ref q25, .ref q31, .int 0, .int 0, .ref q37, .int 0]))) := gw_fg.up hF43 hf_mo (show ¬ ((gw_out [100, 101, 102, 103, 104, 105, 106, 107]) 100) by decide) (show ¬ ((gw_out [100, 101, 102, 103, 104, 105, 106, 107]) 100) by decide)
        obtain ⟨M46, eM46⟩ : ∃ z, z = gw_up M44 mo 100 (.inr (5, [.int 0, .int p0, .int 0, .int 0, .ref q1, .ref q7, .int 0, .ref q13, .ref q19, .ref q25, .ref q31, .int 0, .int 0, .ref q37, .int 0])) := ⟨_, rfl⟩
        replace hW : gw_P G.1 vwCl G.2.2.2 M46 H := by rw [eM46]; exact hW
        have hf_q1 : M46 q1 = some (101, .inl (G.2.1 0, 10000, .inl (fun _ => 0))) := by rw [eM46]; exact gw_keep hf_q1 hf_mo (by decide)
        have hf_q7 : M46 q7 = some (102, .inl (G.2.1 0, 300, .inl (fun _ => 0))) := by rw [eM46]; exact gw_keep hf_q7 hf_mo (by decide)
        have hf_q13 : M46 q13 = some (103, .inl (G.2.1 0, 10240, .inl (fun _ => 0))) := by rw [eM46]; exact gw_keep hf_q13 hf_mo (by decide)
        have hf_q19 : M46 q19 = some (104, .inl (G.2.1 0, 41, .inl (fun _ => 0))) := by rw [eM46]; exact gw_keep hf_q19 hf_mo (by decide)
        have hf_q25 : M46 q25 = some (105, .inl (G.2.1 0, 41, .inl (fun _ => 0))) := by rw [eM46]; exact gw_keep hf_q25 hf_mo (by decide)
        have hf_q31 : M46 q31 = some (106, .inl (G.2.1 0, 4100, .inl (fun _ => 0))) := by rw [eM46]; exact gw_keep hf_q31 hf_mo (by decide)
        have hf_q37 : M46 q37 = some (107, .inl (G.2.1 0, 2048, .inl (fun _ => 0))) := by rw [eM46]; exact gw_keep hf_q37 hf_mo (by decide)
        have hf_mo : M46 mo = some (100, .inr (5, [.int 0, .int p0, .int 0, .int 0, .ref q1, .ref q7, .int 0, .ref q13, .ref q19, .ref q25, .ref q31, .int 0, .int 0, .ref q37, .int 0])) := by rw [eM46]; exact gw_up_self _ _ _ _
        rw [← eM46] at hF45
        exact gw_vret hx hb hr hlocks hS hW (Nat.le_of_ble_eq_true rfl) (Nat.le_of_ble_eq_true rfl) d_Mo_init_105 (⟨q1, q7, q13, q19, q25, q31, q37, p0, 0, hf_mo, hf_q1, hf_q7, hf_q13, hf_q19, hf_q25, hf_q31, hf_q37, (gm_limN c68 c79), hF45⟩)
      · refine lv_iconst (v := 1) hx hb d_Mo_init_97 (by decide) ?_
        refine lv_goto (tgt := 102) hx hb d_Mo_init_98 (by decide) ?_
        refine gw_putF (ci := 5) (fs := [.int 0, .int p0, .int 0, .int 0, .ref q1, .ref q7, .int 0, .ref q13, .ref q19, .ref q25, .ref q31, .int 0, .int 0, .ref q37, .int 0]) (v := .int 1) (ty := .boolean) hx hb hts in_Mo t_Mo t_Mo_ok n_Mo hown hE.K hW hS hf_mo rfl 2 (by decide) (hts _ mw245) (fun _ h9 => h9) rfl hin rfl (by decide +kernel) rfl rfl (Nat.le_of_ble_eq_true rfl) d_Mo_init_102 (fun H locs hW hS => ?_)
        have hF47 : gw_fg (gw_out [100, 101, 102, 103, 104, 105, 106, 107]) M (gw_up M44 mo 100 (.inr (5, [.int 0, .int p0, .int 1, .int 0, .ref q1, .ref q7, .int 0, .ref q13, .ref q19, .ref q25, .ref q31, .int 0, .int 0, .ref q37, .int 0]))) := gw_fg.up hF43 hf_mo (show ¬ ((gw_out [100, 101, 102, 103, 104, 105, 106, 107]) 100) by decide) (show ¬ ((gw_out [100, 101, 102, 103, 104, 105, 106, 107]) 100) by decide)
        obtain ⟨M48, eM48⟩ : ∃ z, z = gw_up M44 mo 100 (.inr (5, [.int 0, .int p0, .int 1, .int 0, .ref q1, .ref q7, .int 0, .ref q13, .ref q19, .ref q25, .ref q31, .int 0, .int 0, .ref q37, .int 0])) := ⟨_, rfl⟩
        replace hW : gw_P G.1 vwCl G.2.2.2 M48 H := by rw [eM48]; exact hW
        have hf_q1 : M48 q1 = some (101, .inl (G.2.1 0, 10000, .inl (fun _ => 0))) := by rw [eM48]; exact gw_keep hf_q1 hf_mo (by decide)
        have hf_q7 : M48 q7 = some (102, .inl (G.2.1 0, 300, .inl (fun _ => 0))) := by rw [eM48]; exact gw_keep hf_q7 hf_mo (by decide)
        have hf_q13 : M48 q13 = some (103, .inl (G.2.1 0, 10240, .inl (fun _ => 0))) := by rw [eM48]; exact gw_keep hf_q13 hf_mo (by decide)
        have hf_q19 : M48 q19 = some (104, .inl (G.2.1 0, 41, .inl (fun _ => 0))) := by rw [eM48]; exact gw_keep hf_q19 hf_mo (by decide)
        have hf_q25 : M48 q25 = some (105, .inl (G.2.1 0, 41, .inl (fun _ => 0))) := by rw [eM48]; exact gw_keep hf_q25 hf_mo (by decide)
        have hf_q31 : M48 q31 = some (106, .inl (G.2.1 0, 4100, .inl (fun _ => 0))) := by rw [eM48]; exact gw_keep hf_q31 hf_mo (by decide)
        have hf_q37 : M48 q37 = some (107, .inl (G.2.1 0, 2048, .inl (fun _ => 0))) := by rw [eM48]; exact gw_keep hf_q37 hf_mo (by decide)
        have hf_mo : M48 mo = some (100, .inr (5, [.int 0, .int p0, .int 1, .int 0, .ref q1, .ref q7, .int 0, .ref q13, .ref q19, .ref q25, .ref q31, .int 0, .int 0, .ref q37, .int 0])) := by rw [eM48]; exact gw_up_self _ _ _ _
        rw [← eM48] at hF47
        exact gw_vret hx hb hr hlocks hS hW (Nat.le_of_ble_eq_true rfl) (Nat.le_of_ble_eq_true rfl) d_Mo_init_105 (⟨q1, q7, q13, q19, q25, q31, q37, p0, 1, hf_mo, hf_q1, hf_q7, hf_q13, hf_q19, hf_q25, hf_q31, hf_q37, (gm_limN c68 c79), hF47⟩)
    · refine lv_sipush (v := 255) hx hb d_Mo_init_82 (by decide) ?_
      refine lv_goto (tgt := 89) hx hb d_Mo_init_85 (by decide) ?_
      refine gw_putF (ci := 5) (fs := [.int 0, .int 0, .int 0, .int 0, .ref q1, .ref q7, .int 0, .ref q13, .ref q19, .ref q25, .ref q31, .int 0, .int 0, .ref q37, .int 0]) (v := .int 255) (ty := .int) hx hb hts in_Mo t_Mo t_Mo_ok n_Mo hown hE.K hW hS hf_mo rfl 1 (by decide) (hts _ mw243) (fun _ h9 => h9) rfl hin rfl (by decide +kernel) rfl rfl (Nat.le_of_ble_eq_true rfl) d_Mo_init_89 (fun H locs hW hS => ?_)
      have hF49 : gw_fg (gw_out [100, 101, 102, 103, 104, 105, 106, 107]) M (gw_up M42 mo 100 (.inr (5, [.int 0, .int 255, .int 0, .int 0, .ref q1, .ref q7, .int 0, .ref q13, .ref q19, .ref q25, .ref q31, .int 0, .int 0, .ref q37, .int 0]))) := gw_fg.up hF41 hf_mo (show ¬ ((gw_out [100, 101, 102, 103, 104, 105, 106, 107]) 100) by decide) (show ¬ ((gw_out [100, 101, 102, 103, 104, 105, 106, 107]) 100) by decide)
      obtain ⟨M50, eM50⟩ : ∃ z, z = gw_up M42 mo 100 (.inr (5, [.int 0, .int 255, .int 0, .int 0, .ref q1, .ref q7, .int 0, .ref q13, .ref q19, .ref q25, .ref q31, .int 0, .int 0, .ref q37, .int 0])) := ⟨_, rfl⟩
      replace hW : gw_P G.1 vwCl G.2.2.2 M50 H := by rw [eM50]; exact hW
      have hf_q1 : M50 q1 = some (101, .inl (G.2.1 0, 10000, .inl (fun _ => 0))) := by rw [eM50]; exact gw_keep hf_q1 hf_mo (by decide)
      have hf_q7 : M50 q7 = some (102, .inl (G.2.1 0, 300, .inl (fun _ => 0))) := by rw [eM50]; exact gw_keep hf_q7 hf_mo (by decide)
      have hf_q13 : M50 q13 = some (103, .inl (G.2.1 0, 10240, .inl (fun _ => 0))) := by rw [eM50]; exact gw_keep hf_q13 hf_mo (by decide)
      have hf_q19 : M50 q19 = some (104, .inl (G.2.1 0, 41, .inl (fun _ => 0))) := by rw [eM50]; exact gw_keep hf_q19 hf_mo (by decide)
      have hf_q25 : M50 q25 = some (105, .inl (G.2.1 0, 41, .inl (fun _ => 0))) := by rw [eM50]; exact gw_keep hf_q25 hf_mo (by decide)
      have hf_q31 : M50 q31 = some (106, .inl (G.2.1 0, 4100, .inl (fun _ => 0))) := by rw [eM50]; exact gw_keep hf_q31 hf_mo (by decide)
      have hf_q37 : M50 q37 = some (107, .inl (G.2.1 0, 2048, .inl (fun _ => 0))) := by rw [eM50]; exact gw_keep hf_q37 hf_mo (by decide)
      have hf_mo : M50 mo = some (100, .inr (5, [.int 0, .int 255, .int 0, .int 0, .ref q1, .ref q7, .int 0, .ref q13, .ref q19, .ref q25, .ref q31, .int 0, .int 0, .ref q37, .int 0])) := by rw [eM50]; exact gw_up_self _ _ _ _
      rw [← eM50] at hF49
      refine lv_aload_n hx hb d_Mo_init_92 rfl (lv_at hl 0 rfl) ?_
      refine lv_iload_n hx hb d_Mo_init_93 rfl (lv_at hl 2 rfl) ?_
      refine lv_if_eq (tgt := 101) hx hb d_Mo_init_94 (by decide) (fun c94 => ?_) (fun c94 => ?_)
      · refine lv_iconst (v := 0) hx hb d_Mo_init_101 (by decide) ?_
        refine gw_putF (ci := 5) (fs := [.int 0, .int 255, .int 0, .int 0, .ref q1, .ref q7, .int 0, .ref q13, .ref q19, .ref q25, .ref q31, .int 0, .int 0, .ref q37, .int 0]) (v := .int 0) (ty := .boolean) hx hb hts in_Mo t_Mo t_Mo_ok n_Mo hown hE.K hW hS hf_mo rfl 2 (by decide) (hts _ mw245) (fun _ h9 => h9) rfl hin rfl (by decide +kernel) rfl rfl (Nat.le_of_ble_eq_true rfl) d_Mo_init_102 (fun H locs hW hS => ?_)
        have hF51 : gw_fg (gw_out [100, 101, 102, 103, 104, 105, 106, 107]) M (gw_up M50 mo 100 (.inr (5, [.int 0, .int 255, .int 0, .int 0, .ref q1, .ref q7, .int 0, .ref q13, .ref q19, .ref q25, .ref q31, .int 0, .int 0, .ref q37, .int 0]))) := gw_fg.up hF49 hf_mo (show ¬ ((gw_out [100, 101, 102, 103, 104, 105, 106, 107]) 100) by decide) (show ¬ ((gw_out [100, 101, 102, 103, 104, 105, 106, 107]) 100) by decide)
        obtain ⟨M52, eM52⟩ : ∃ z, z = gw_up M50 mo 100 (.inr (5, [.int 0, .int 255, .int 0, .int 0, .ref q1, .ref q7, .int 0, .ref q13, .ref q19, .ref q25, .ref q31, .int 0, .int 0, .ref q37, .int 0])) := ⟨_, rfl⟩
        replace hW : gw_P G.1 vwCl G.2.2.2 M52 H := by rw [eM52]; exact hW
        have hf_q1 : M52 q1 = some (101, .inl (G.2.1 0, 10000, .inl (fun _ => 0))) := by rw [eM52]; exact gw_keep hf_q1 hf_mo (by decide)
        have hf_q7 : M52 q7 = some (102, .inl (G.2.1 0, 300, .inl (fun _ => 0))) := by rw [eM52]; exact gw_keep hf_q7 hf_mo (by decide)
        have hf_q13 : M52 q13 = some (103, .inl (G.2.1 0, 10240, .inl (fun _ => 0))) := by rw [eM52]; exact gw_keep hf_q13 hf_mo (by decide)
        have hf_q19 : M52 q19 = some (104, .inl (G.2.1 0, 41, .inl (fun _ => 0))) := by rw [eM52]; exact gw_keep hf_q19 hf_mo (by decide)
        have hf_q25 : M52 q25 = some (105, .inl (G.2.1 0, 41, .inl (fun _ => 0))) := by rw [eM52]; exact gw_keep hf_q25 hf_mo (by decide)
        have hf_q31 : M52 q31 = some (106, .inl (G.2.1 0, 4100, .inl (fun _ => 0))) := by rw [eM52]; exact gw_keep hf_q31 hf_mo (by decide)
        have hf_q37 : M52 q37 = some (107, .inl (G.2.1 0, 2048, .inl (fun _ => 0))) := by rw [eM52]; exact gw_keep hf_q37 hf_mo (by decide)
        have hf_mo : M52 mo = some (100, .inr (5, [.int 0, .int 255, .int 0, .int 0, .ref q1, .ref q7, .int 0, .ref q13, .ref q19, .ref q25, .ref q31, .int 0, .int 0, .ref q37, .int 0])) := by rw [eM52]; exact gw_up_self _ _ _ _
        rw [← eM52] at hF51
        exact gw_vret hx hb hr hlocks hS hW (Nat.le_of_ble_eq_true rfl) (Nat.le_of_ble_eq_true rfl) d_Mo_init_105 (⟨q1, q7, q13, q19, q25, q31, q37, 255, 0, hf_mo, hf_q1, hf_q7, hf_q13, hf_q19, hf_q25, hf_q31, hf_q37, ⟨255, rfl, by omega, by omega⟩, hF51⟩)
      · refine lv_iconst (v := 1) hx hb d_Mo_init_97 (by decide) ?_
        refine lv_goto (tgt := 102) hx hb d_Mo_init_98 (by decide) ?_
        refine gw_putF (ci := 5) (fs := [.int 0, .int 255, .int 0, .int 0, .ref q1, .ref q7, .int 0, .ref q13, .ref q19, .ref q25, .ref q31, .int 0, .int 0, .ref q37, .int 0]) (v := .int 1) (ty := .boolean) hx hb hts in_Mo t_Mo t_Mo_ok n_Mo hown hE.K hW hS hf_mo rfl 2 (by decide) (hts _ mw245) (fun _ h9 => h9) rfl hin rfl (by decide +kernel) rfl rfl (Nat.le_of_ble_eq_true rfl) d_Mo_init_102 (fun H locs hW hS => ?_)
        have hF53 : gw_fg (gw_out [100, 101, 102, 103, 104, 105, 106, 107]) M (gw_up M50 mo 100 (.inr (5, [.int 0, .int 255, .int 1, .int 0, .ref q1, .ref q7, .int 0, .ref q13, .ref q19, .ref q25, .ref q31, .int 0, .int 0, .ref q37, .int 0]))) := gw_fg.up hF49 hf_mo (show ¬ ((gw_out [100, 101, 102, 103, 104, 105, 106, 107]) 100) by decide) (show ¬ ((gw_out [100, 101, 102, 103, 104, 105, 106, 107]) 100) by decide)
        obtain ⟨M54, eM54⟩ : ∃ z, z = gw_up M50 mo 100 (.inr (5, [.int 0, .int 255, .int 1, .int 0, .ref q1, .ref q7, .int 0, .ref q13, .ref q19, .ref q25, .ref q31, .int 0, .int 0, .ref q37, .int 0])) := ⟨_, rfl⟩
        replace hW : gw_P G.1 vwCl G.2.2.2 M54 H := by rw [eM54]; exact hW
        have hf_q1 : M54 q1 = some (101, .inl (G.2.1 0, 10000, .inl (fun _ => 0))) := by rw [eM54]; exact gw_keep hf_q1 hf_mo (by decide)
        have hf_q7 : M54 q7 = some (102, .inl (G.2.1 0, 300, .inl (fun _ => 0))) := by rw [eM54]; exact gw_keep hf_q7 hf_mo (by decide)
        have hf_q13 : M54 q13 = some (103, .inl (G.2.1 0, 10240, .inl (fun _ => 0))) := by rw [eM54]; exact gw_keep hf_q13 hf_mo (by decide)
        have hf_q19 : M54 q19 = some (104, .inl (G.2.1 0, 41, .inl (fun _ => 0))) := by rw [eM54]; exact gw_keep hf_q19 hf_mo (by decide)
        have hf_q25 : M54 q25 = some (105, .inl (G.2.1 0, 41, .inl (fun _ => 0))) := by rw [eM54]; exact gw_keep hf_q25 hf_mo (by decide)
        have hf_q31 : M54 q31 = some (106, .inl (G.2.1 0, 4100, .inl (fun _ => 0))) := by rw [eM54]; exact gw_keep hf_q31 hf_mo (by decide)
        have hf_q37 : M54 q37 = some (107, .inl (G.2.1 0, 2048, .inl (fun _ => 0))) := by rw [eM54]; exact gw_keep hf_q37 hf_mo (by decide)
        have hf_mo : M54 mo = some (100, .inr (5, [.int 0, .int 255, .int 1, .int 0, .ref q1, .ref q7, .int 0, .ref q13, .ref q19, .ref q25, .ref q31, .int 0, .int 0, .ref q37, .int 0])) := by rw [eM54]; exact gw_up_self _ _ _ _
        rw [← eM54] at hF53
        exact gw_vret hx hb hr hlocks hS hW (Nat.le_of_ble_eq_true rfl) (Nat.le_of_ble_eq_true rfl) d_Mo_init_105 (⟨q1, q7, q13, q19, q25, q31, q37, 255, 1, hf_mo, hf_q1, hf_q7, hf_q13, hf_q19, hf_q25, hf_q31, hf_q37, ⟨255, rfl, by omega, by omega⟩, hF53⟩)
  · refine lv_iconst (v := 1) hx hb d_Mo_init_71 (by decide) ?_
    refine lv_goto (tgt := 89) hx hb d_Mo_init_72 (by decide) ?_
    refine gw_putF (ci := 5) (fs := [.int 0, .int 0, .int 0, .int 0, .ref q1, .ref q7, .int 0, .ref q13, .ref q19, .ref q25, .ref q31, .int 0, .int 0, .ref q37, .int 0]) (v := .int 1) (ty := .int) hx hb hts in_Mo t_Mo t_Mo_ok n_Mo hown hE.K hW hS hf_mo rfl 1 (by decide) (hts _ mw243) (fun _ h9 => h9) rfl hin rfl (by decide +kernel) rfl rfl (Nat.le_of_ble_eq_true rfl) d_Mo_init_89 (fun H locs hW hS => ?_)
    have hF55 : gw_fg (gw_out [100, 101, 102, 103, 104, 105, 106, 107]) M (gw_up M42 mo 100 (.inr (5, [.int 0, .int 1, .int 0, .int 0, .ref q1, .ref q7, .int 0, .ref q13, .ref q19, .ref q25, .ref q31, .int 0, .int 0, .ref q37, .int 0]))) := gw_fg.up hF41 hf_mo (show ¬ ((gw_out [100, 101, 102, 103, 104, 105, 106, 107]) 100) by decide) (show ¬ ((gw_out [100, 101, 102, 103, 104, 105, 106, 107]) 100) by decide)
    obtain ⟨M56, eM56⟩ : ∃ z, z = gw_up M42 mo 100 (.inr (5, [.int 0, .int 1, .int 0, .int 0, .ref q1, .ref q7, .int 0, .ref q13, .ref q19, .ref q25, .ref q31, .int 0, .int 0, .ref q37, .int 0])) := ⟨_, rfl⟩
    replace hW : gw_P G.1 vwCl G.2.2.2 M56 H := by rw [eM56]; exact hW
    have hf_q1 : M56 q1 = some (101, .inl (G.2.1 0, 10000, .inl (fun _ => 0))) := by rw [eM56]; exact gw_keep hf_q1 hf_mo (by decide)
    have hf_q7 : M56 q7 = some (102, .inl (G.2.1 0, 300, .inl (fun _ => 0))) := by rw [eM56]; exact gw_keep hf_q7 hf_mo (by decide)
    have hf_q13 : M56 q13 = some (103, .inl (G.2.1 0, 10240, .inl (fun _ => 0))) := by rw [eM56]; exact gw_keep hf_q13 hf_mo (by decide)
    have hf_q19 : M56 q19 = some (104, .inl (G.2.1 0, 41, .inl (fun _ => 0))) := by rw [eM56]; exact gw_keep hf_q19 hf_mo (by decide)
    have hf_q25 : M56 q25 = some (105, .inl (G.2.1 0, 41, .inl (fun _ => 0))) := by rw [eM56]; exact gw_keep hf_q25 hf_mo (by decide)
    have hf_q31 : M56 q31 = some (106, .inl (G.2.1 0, 4100, .inl (fun _ => 0))) := by rw [eM56]; exact gw_keep hf_q31 hf_mo (by decide)
    have hf_q37 : M56 q37 = some (107, .inl (G.2.1 0, 2048, .inl (fun _ => 0))) := by rw [eM56]; exact gw_keep hf_q37 hf_mo (by decide)
    have hf_mo : M56 mo = some (100, .inr (5, [.int 0, .int 1, .int 0, .int 0, .ref q1, .ref q7, .int 0, .ref q13, .ref q19, .ref q25, .ref q31, .int 0, .int 0, .ref q37, .int 0])) := by rw [eM56]; exact gw_up_self _ _ _ _
    rw [← eM56] at hF55
    refine lv_aload_n hx hb d_Mo_init_92 rfl (lv_at hl 0 rfl) ?_
    refine lv_iload_n hx hb d_Mo_init_93 rfl (lv_at hl 2 rfl) ?_
    refine lv_if_eq (tgt := 101) hx hb d_Mo_init_94 (by decide) (fun c94 => ?_) (fun c94 => ?_)
    · refine lv_iconst (v := 0) hx hb d_Mo_init_101 (by decide) ?_
      refine gw_putF (ci := 5) (fs := [.int 0, .int 1, .int 0, .int 0, .ref q1, .ref q7, .int 0, .ref q13, .ref q19, .ref q25, .ref q31, .int 0, .int 0, .ref q37, .int 0]) (v := .int 0) (ty := .boolean) hx hb hts in_Mo t_Mo t_Mo_ok n_Mo hown hE.K hW hS hf_mo rfl 2 (by decide) (hts _ mw245) (fun _ h9 => h9) rfl hin rfl (by decide +kernel) rfl rfl (Nat.le_of_ble_eq_true rfl) d_Mo_init_102 (fun H locs hW hS => ?_)
      have hF57 : gw_fg (gw_out [100, 101, 102, 103, 104, 105, 106, 107]) M (gw_up M56 mo 100 (.inr (5, [.int 0, .int 1, .int 0, .int 0, .ref q1, .ref q7, .int 0, .ref q13, .ref q19, .ref q25, .ref q31, .int 0, .int 0, .ref q37, .int 0]))) := gw_fg.up hF55 hf_mo (show ¬ ((gw_out [100, 101, 102, 103, 104, 105, 106, 107]) 100) by decide) (show ¬ ((gw_out [100, 101, 102, 103, 104, 105, 106, 107]) 100) by decide)
      obtain ⟨M58, eM58⟩ : ∃ z, z = gw_up M56 mo 100 (.inr (5, [.int 0, .int 1, .int 0, .int 0, .ref q1, .ref q7, .int 0, .ref q13, .ref q19, .ref q25, .ref q31, .int 0, .int 0, .ref q37, .int 0])) := ⟨_, rfl⟩
      replace hW : gw_P G.1 vwCl G.2.2.2 M58 H := by rw [eM58]; exact hW
      have hf_q1 : M58 q1 = some (101, .inl (G.2.1 0, 10000, .inl (fun _ => 0))) := by rw [eM58]; exact gw_keep hf_q1 hf_mo (by decide)
      have hf_q7 : M58 q7 = some (102, .inl (G.2.1 0, 300, .inl (fun _ => 0))) := by rw [eM58]; exact gw_keep hf_q7 hf_mo (by decide)
      have hf_q13 : M58 q13 = some (103, .inl (G.2.1 0, 10240, .inl (fun _ => 0))) := by rw [eM58]; exact gw_keep hf_q13 hf_mo (by decide)
      have hf_q19 : M58 q19 = some (104, .inl (G.2.1 0, 41, .inl (fun _ => 0))) := by rw [eM58]; exact gw_keep hf_q19 hf_mo (by decide)
      have hf_q25 : M58 q25 = some (105, .inl (G.2.1 0, 41, .inl (fun _ => 0))) := by rw [eM58]; exact gw_keep hf_q25 hf_mo (by decide)
      have hf_q31 : M58 q31 = some (106, .inl (G.2.1 0, 4100, .inl (fun _ => 0))) := by rw [eM58]; exact gw_keep hf_q31 hf_mo (by decide)
      have hf_q37 : M58 q37 = some (107, .inl (G.2.1 0, 2048, .inl (fun _ => 0))) := by rw [eM58]; exact gw_keep hf_q37 hf_mo (by decide)
      have hf_mo : M58 mo = some (100, .inr (5, [.int 0, .int 1, .int 0, .int 0, .ref q1, .ref q7, .int 0, .ref q13, .ref q19, .ref q25, .ref q31, .int 0, .int 0, .ref q37, .int 0])) := by rw [eM58]; exact gw_up_self _ _ _ _
      rw [← eM58] at hF57
      exact gw_vret hx hb hr hlocks hS hW (Nat.le_of_ble_eq_true rfl) (Nat.le_of_ble_eq_true rfl) d_Mo_init_105 (⟨q1, q7, q13, q19, q25, q31, q37, 1, 0, hf_mo, hf_q1, hf_q7, hf_q13, hf_q19, hf_q25, hf_q31, hf_q37, ⟨1, rfl, by omega, by omega⟩, hF57⟩)
    · refine lv_iconst (v := 1) hx hb d_Mo_init_97 (by decide) ?_
      refine lv_goto (tgt := 102) hx hb d_Mo_init_98 (by decide) ?_
      refine gw_putF (ci := 5) (fs := [.int 0, .int 1, .int 0, .int 0, .ref q1, .ref q7, .int 0, .ref q13, .ref q19, .ref q25, .ref q31, .int 0, .int 0, .ref q37, .int 0]) (v := .int 1) (ty := .boolean) hx hb hts in_Mo t_Mo t_Mo_ok n_Mo hown hE.K hW hS hf_mo rfl 2 (by decide) (hts _ mw245) (fun _ h9 => h9) rfl hin rfl (by decide +kernel) rfl rfl (Nat.le_of_ble_eq_true rfl) d_Mo_init_102 (fun H locs hW hS => ?_)
      have hF59 : gw_fg (gw_out [100, 101, 102, 103, 104, 105, 106, 107]) M (gw_up M56 mo 100 (.inr (5, [.int 0, .int 1, .int 1, .int 0, .ref q1, .ref q7, .int 0, .ref q13, .ref q19, .ref q25, .ref q31, .int 0, .int 0, .ref q37, .int 0]))) := gw_fg.up hF55 hf_mo (show ¬ ((gw_out [100, 101, 102, 103, 104, 105, 106, 107]) 100) by decide) (show ¬ ((gw_out [100, 101, 102, 103, 104, 105, 106, 107]) 100) by decide)
      obtain ⟨M60, eM60⟩ : ∃ z, z = gw_up M56 mo 100 (.inr (5, [.int 0, .int 1, .int 1, .int 0, .ref q1, .ref q7, .int 0, .ref q13, .ref q19, .ref q25, .ref q31, .int 0, .int 0, .ref q37, .int 0])) := ⟨_, rfl⟩
      replace hW : gw_P G.1 vwCl G.2.2.2 M60 H := by rw [eM60]; exact hW
      have hf_q1 : M60 q1 = some (101, .inl (G.2.1 0, 10000, .inl (fun _ => 0))) := by rw [eM60]; exact gw_keep hf_q1 hf_mo (by decide)
      have hf_q7 : M60 q7 = some (102, .inl (G.2.1 0, 300, .inl (fun _ => 0))) := by rw [eM60]; exact gw_keep hf_q7 hf_mo (by decide)
      have hf_q13 : M60 q13 = some (103, .inl (G.2.1 0, 10240, .inl (fun _ => 0))) := by rw [eM60]; exact gw_keep hf_q13 hf_mo (by decide)
      have hf_q19 : M60 q19 = some (104, .inl (G.2.1 0, 41, .inl (fun _ => 0))) := by rw [eM60]; exact gw_keep hf_q19 hf_mo (by decide)
      have hf_q25 : M60 q25 = some (105, .inl (G.2.1 0, 41, .inl (fun _ => 0))) := by rw [eM60]; exact gw_keep hf_q25 hf_mo (by decide)
      have hf_q31 : M60 q31 = some (106, .inl (G.2.1 0, 4100, .inl (fun _ => 0))) := by rw [eM60]; exact gw_keep hf_q31 hf_mo (by decide)
      have hf_q37 : M60 q37 = some (107, .inl (G.2.1 0, 2048, .inl (fun _ => 0))) := by rw [eM60]; exact gw_keep hf_q37 hf_mo (by decide)
      have hf_mo : M60 mo = some (100, .inr (5, [.int 0, .int 1, .int 1, .int 0, .ref q1, .ref q7, .int 0, .ref q13, .ref q19, .ref q25, .ref q31, .int 0, .int 0, .ref q37, .int 0])) := by rw [eM60]; exact gw_up_self _ _ _ _
      rw [← eM60] at hF59
      exact gw_vret hx hb hr hlocks hS hW (Nat.le_of_ble_eq_true rfl) (Nat.le_of_ble_eq_true rfl) d_Mo_init_105 (⟨q1, q7, q13, q19, q25, q31, q37, 1, 1, hf_mo, hf_q1, hf_q7, hf_q13, hf_q19, hf_q25, hf_q31, hf_q37, ⟨1, rfl, by omega, by omega⟩, hF59⟩)
