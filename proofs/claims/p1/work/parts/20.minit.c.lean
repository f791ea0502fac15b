set_option maxHeartbeats 4000000 in
set_option maxRecDepth 100000 in
theorem m_init (l : Launch) (G : gw_G) (M : gw_M) (mo : Nat) (p0 : Int32) (p1 : Int32) (hf_mo : M mo = some (100, .inr (5, [.int 0, .int 0, .int 0, .int 0, .null, .null, .int 0, .null, .null, .null, .null, .int 0, .int 0, .null, .int 0]))) : Met l y_Mo_init [.code y_Mo_init b_Mo_init 3 none] ({ frames := 1, cells := 7, slots := 26770, locals := 12 }) (gw_Pc G M [.ref mo, .int p0, .int p1]) (gw_Qv G (fun M2 => ∃ (there : Nat) (mrow : Nat) (found : Nat) (fsz : Nat) (ends : Nat) (made : Nat) (drops : Nat) (lm : Int32) (sm : Int32), M2 mo = some (100, .inr (5, [.int 0, .int lm, .int sm, .int 0, .ref there, .ref mrow, .int 0, .ref found, .ref fsz, .ref ends, .ref made, .int 0, .int 0, .ref drops, .int 0])) ∧ M2 there = some (101, .inl (G.2.1 0, 10000, .inl (fun _ => 0))) ∧ M2 mrow = some (102, .inl (G.2.1 0, 300, .inl (fun _ => 0))) ∧ M2 found = some (103, .inl (G.2.1 0, 10240, .inl (fun _ => 0))) ∧ M2 fsz = some (104, .inl (G.2.1 0, 41, .inl (fun _ => 0))) ∧ M2 ends = some (105, .inl (G.2.1 0, 41, .inl (fun _ => 0))) ∧ M2 made = some (106, .inl (G.2.1 0, 4100, .inl (fun _ => 0))) ∧ M2 drops = some (107, .inl (G.2.1 0, 2048, .inl (fun _ => 0))) ∧ ¬ lm < 0 + 1 ∧ gw_fr (gw_out [100, 101, 102, 103, 104, 105, 106, 107]) M M2)) 7 26770 (gw_A G) := by
  refine gw_start (by decide) (Nat.le_of_ble_eq_true rfl) (fun p9 e9 s m b9 mt9 c9 hx hb hr hml hown hlocks hin hE hB hW ls hl => ?_)
  have hts := hE.ts ([.ref mo, .int p0, .int p1] : List Value).toArray
  have hl : lv_has ls 3 [(0, .ref mo), (1, .int p0), (2, .int p1)] := hl
  have hS : va_S (gw_A G) s.heap s.heap [] := va_S.rf
  have hown : s.vm.findClass "GenerationsModel" = some m.cls := hown
  have hin : mt9.name = "<init>" := hin
  refine lv_aload_n hx hb d_Mo_init_0 rfl (lv_at hl 0 rfl) ?_
  refine W.objInit hx hb hown (hts _ mw154) (hts _ mw1) (hts _ mw2) rfl (by rw [hml]; exact hl.1) rfl d_Mo_init_1 (Nat.le_of_ble_eq_true rfl) (Nat.le_of_ble_eq_true rfl) ?_
  refine W.eq (g2 := F0 m 4 ls []) rfl ?_
  refine lv_aload_n hx hb d_Mo_init_4 rfl (lv_at hl 0 rfl) ?_
  refine lv_sipush (v := 10000) hx hb d_Mo_init_5 (by decide) ?_
  refine gw_newa (atype := .int) (ty := .int) (n := 10000) (a0 := (10000, .inl (fun _ => 0))) (N' := 10000) hx hb (hts (.arrayClass .int) mw3) rfl hE.K hW hS hB (gw_zi 10000) (by decide) (by decide) (Nat.le_of_ble_eq_true rfl) (Nat.le_of_ble_eq_true rfl) (Nat.le_of_ble_eq_true rfl) d_Mo_init_8 0 rfl (fun cA h1 h2 => gw_ri _ _ h1 h2) 101 (fun q1 H hq2 hW hS => ?_)
  refine W.widen (k := 1) (n := 10000) (Nat.le_refl _) (Nat.le_refl _) ?_
  have hF3 : gw_fr (gw_out [100, 101, 102, 103, 104, 105, 106, 107]) M (gw_up M q1 101 (.inl (G.2.1 0, 10000, .inl (fun _ => 0)))) := gw_fr.new gw_fr.rf hq2 (show ¬ ((gw_out [100, 101, 102, 103, 104, 105, 106, 107]) 101) by decide)
  obtain ⟨M4, eM4⟩ : ∃ z, z = gw_up M q1 101 (.inl (G.2.1 0, 10000, .inl (fun _ => 0))) := ⟨_, rfl⟩
  replace hW : gw_P G.1 vwCl G.2.2.2 M4 H := by rw [eM4]; exact hW
  have hf_mo : M4 mo = some (100, .inr (5, [.int 0, .int 0, .int 0, .int 0, .null, .null, .int 0, .null, .null, .null, .null, .int 0, .int 0, .null, .int 0])) := by rw [eM4]; exact gw_keepN hf_mo hq2
  have hf_q1 : M4 q1 = some (101, .inl (G.2.1 0, 10000, .inl (fun _ => 0))) := by rw [eM4]; exact gw_up_self _ _ _ _
  rw [← eM4] at hF3
  refine gw_putF (ci := 5) (fs := [.int 0, .int 0, .int 0, .int 0, .null, .null, .int 0, .null, .null, .null, .null, .int 0, .int 0, .null, .int 0]) (v := .ref q1) (ty := .array .int) hx hb hts in_Mo t_Mo t_Mo_ok n_Mo hown hE.K hW hS hf_mo rfl 4 (by decide) (hts _ mw155) (fun _ h9 => h9) rfl hin rfl (by decide +kernel) rfl rfl (Nat.le_of_ble_eq_true rfl) d_Mo_init_10 (fun H locs hW hS => ?_)
  have hF5 : gw_fr (gw_out [100, 101, 102, 103, 104, 105, 106, 107]) M (gw_up M4 mo 100 (.inr (5, [.int 0, .int 0, .int 0, .int 0, .ref q1, .null, .int 0, .null, .null, .null, .null, .int 0, .int 0, .null, .int 0]))) := gw_fr.up hF3 hf_mo (show ¬ ((gw_out [100, 101, 102, 103, 104, 105, 106, 107]) 100) by decide) (show ¬ ((gw_out [100, 101, 102, 103, 104, 105, 106, 107]) 100) by decide)
  obtain ⟨M6, eM6⟩ : ∃ z, z = gw_up M4 mo 100 (.inr (5, [.int 0, .int 0, .int 0, .int 0, .ref q1, .null, .int 0, .null, .null, .null, .null, .int 0, .int 0, .null, .int 0])) := ⟨_, rfl⟩
  replace hW : gw_P G.1 vwCl G.2.2.2 M6 H := by rw [eM6]; exact hW
  have hf_q1 : M6 q1 = some (101, .inl (G.2.1 0, 10000, .inl (fun _ => 0))) := by rw [eM6]; exact gw_keep hf_q1 hf_mo (by decide)
  have hf_mo : M6 mo = some (100, .inr (5, [.int 0, .int 0, .int 0, .int 0, .ref q1, .null, .int 0, .null, .null, .null, .null, .int 0, .int 0, .null, .int 0])) := by rw [eM6]; exact gw_up_self _ _ _ _
  rw [← eM6] at hF5
  refine lv_aload_n hx hb d_Mo_init_13 rfl (lv_at hl 0 rfl) ?_
  refine lv_sipush (v := 300) hx hb d_Mo_init_14 (by decide) ?_
  refine gw_newa (atype := .int) (ty := .int) (n := 300) (a0 := (300, .inl (fun _ => 0))) (N' := 300) hx hb (hts (.arrayClass .int) mw3) rfl hE.K hW hS hB (gw_zi 300) (by decide) (by decide) (Nat.le_of_ble_eq_true rfl) (Nat.le_of_ble_eq_true rfl) (Nat.le_of_ble_eq_true rfl) d_Mo_init_17 0 rfl (fun cA h1 h2 => gw_ri _ _ h1 h2) 102 (fun q7 H hq8 hW hS => ?_)
  refine W.widen (k := 2) (n := 10300) (Nat.le_refl _) (Nat.le_refl _) ?_
  have hF9 : gw_fr (gw_out [100, 101, 102, 103, 104, 105, 106, 107]) M (gw_up M6 q7 102 (.inl (G.2.1 0, 300, .inl (fun _ => 0)))) := gw_fr.new hF5 hq8 (show ¬ ((gw_out [100, 101, 102, 103, 104, 105, 106, 107]) 102) by decide)
  obtain ⟨M10, eM10⟩ : ∃ z, z = gw_up M6 q7 102 (.inl (G.2.1 0, 300, .inl (fun _ => 0))) := ⟨_, rfl⟩
  replace hW : gw_P G.1 vwCl G.2.2.2 M10 H := by rw [eM10]; exact hW
  have hf_q1 : M10 q1 = some (101, .inl (G.2.1 0, 10000, .inl (fun _ => 0))) := by rw [eM10]; exact gw_keepN hf_q1 hq8
  have hf_mo : M10 mo = some (100, .inr (5, [.int 0, .int 0, .int 0, .int 0, .ref q1, .null, .int 0, .null, .null, .null, .null, .int 0, .int 0, .null, .int 0])) := by rw [eM10]; exact gw_keepN hf_mo hq8
  have hf_q7 : M10 q7 = some (102, .inl (G.2.1 0, 300, .inl (fun _ => 0))) := by rw [eM10]; exact gw_up_self _ _ _ _
  rw [← eM10] at hF9
  refine gw_putF (ci := 5) (fs := [.int 0, .int 0, .int 0, .int 0, .ref q1, .null, .int 0, .null, .null, .null, .null, .int 0, .int 0, .null, .int 0]) (v := .ref q7) (ty := .array .int) hx hb hts in_Mo t_Mo t_Mo_ok n_Mo hown hE.K hW hS hf_mo rfl 5 (by decide) (hts _ mw156) (fun _ h9 => h9) rfl hin rfl (by decide +kernel) rfl rfl (Nat.le_of_ble_eq_true rfl) d_Mo_init_19 (fun H locs hW hS => ?_)
  have hF11 : gw_fr (gw_out [100, 101, 102, 103, 104, 105, 106, 107]) M (gw_up M10 mo 100 (.inr (5, [.int 0, .int 0, .int 0, .int 0, .ref q1, .ref q7, .int 0, .null, .null, .null, .null, .int 0, .int 0, .null, .int 0]))) := gw_fr.up hF9 hf_mo (show ¬ ((gw_out [100, 101, 102, 103, 104, 105, 106, 107]) 100) by decide) (show ¬ ((gw_out [100, 101, 102, 103, 104, 105, 106, 107]) 100) by decide)
  obtain ⟨M12, eM12⟩ : ∃ z, z = gw_up M10 mo 100 (.inr (5, [.int 0, .int 0, .int 0, .int 0, .ref q1, .ref q7, .int 0, .null, .null, .null, .null, .int 0, .int 0, .null, .int 0])) := ⟨_, rfl⟩
  replace hW : gw_P G.1 vwCl G.2.2.2 M12 H := by rw [eM12]; exact hW
  have hf_q1 : M12 q1 = some (101, .inl (G.2.1 0, 10000, .inl (fun _ => 0))) := by rw [eM12]; exact gw_keep hf_q1 hf_mo (by decide)
  have hf_q7 : M12 q7 = some (102, .inl (G.2.1 0, 300, .inl (fun _ => 0))) := by rw [eM12]; exact gw_keep hf_q7 hf_mo (by decide)
  have hf_mo : M12 mo = some (100, .inr (5, [.int 0, .int 0, .int 0, .int 0, .ref q1, .ref q7, .int 0, .null, .null, .null, .null, .int 0, .int 0, .null, .int 0])) := by rw [eM12]; exact gw_up_self _ _ _ _
  rw [← eM12] at hF11
  refine lv_aload_n hx hb d_Mo_init_22 rfl (lv_at hl 0 rfl) ?_
  refine lv_sipush (v := 10240) hx hb d_Mo_init_23 (by decide) ?_
  refine gw_newa (atype := .int) (ty := .int) (n := 10240) (a0 := (10240, .inl (fun _ => 0))) (N' := 10240) hx hb (hts (.arrayClass .int) mw3) rfl hE.K hW hS hB (gw_zi 10240) (by decide) (by decide) (Nat.le_of_ble_eq_true rfl) (Nat.le_of_ble_eq_true rfl) (Nat.le_of_ble_eq_true rfl) d_Mo_init_26 0 rfl (fun cA h1 h2 => gw_ri _ _ h1 h2) 103 (fun q13 H hq14 hW hS => ?_)
  refine W.widen (k := 3) (n := 20540) (Nat.le_refl _) (Nat.le_refl _) ?_
  have hF15 : gw_fr (gw_out [100, 101, 102, 103, 104, 105, 106, 107]) M (gw_up M12 q13 103 (.inl (G.2.1 0, 10240, .inl (fun _ => 0)))) := gw_fr.new hF11 hq14 (show ¬ ((gw_out [100, 101, 102, 103, 104, 105, 106, 107]) 103) by decide)
  obtain ⟨M16, eM16⟩ : ∃ z, z = gw_up M12 q13 103 (.inl (G.2.1 0, 10240, .inl (fun _ => 0))) := ⟨_, rfl⟩
  replace hW : gw_P G.1 vwCl G.2.2.2 M16 H := by rw [eM16]; exact hW
  have hf_q1 : M16 q1 = some (101, .inl (G.2.1 0, 10000, .inl (fun _ => 0))) := by rw [eM16]; exact gw_keepN hf_q1 hq14
  have hf_q7 : M16 q7 = some (102, .inl (G.2.1 0, 300, .inl (fun _ => 0))) := by rw [eM16]; exact gw_keepN hf_q7 hq14
  have hf_mo : M16 mo = some (100, .inr (5, [.int 0, .int 0, .int 0, .int 0, .ref q1, .ref q7, .int 0, .null, .null, .null, .null, .int 0, .int 0, .null, .int 0])) := by rw [eM16]; exact gw_keepN hf_mo hq14
  have hf_q13 : M16 q13 = some (103, .inl (G.2.1 0, 10240, .inl (fun _ => 0))) := by rw [eM16]; exact gw_up_self _ _ _ _
  rw [← eM16] at hF15
  refine gw_putF (ci := 5) (fs := [.int 0, .int 0, .int 0, .int 0, .ref q1, .ref q7, .int 0, .null, .null, .null, .null, .int 0, .int 0, .null, .int 0]) (v := .ref q13) (ty := .array .int) hx hb hts in_Mo t_Mo t_Mo_ok n_Mo hown hE.K hW hS hf_mo rfl 7 (by decide) (hts _ mw157) (fun _ h9 => h9) rfl hin rfl (by decide +kernel) rfl rfl (Nat.le_of_ble_eq_true rfl) d_Mo_init_28 (fun H locs hW hS => ?_)
  have hF17 : gw_fr (gw_out [100, 101, 102, 103, 104, 105, 106, 107]) M (gw_up M16 mo 100 (.inr (5, [.int 0, .int 0, .int 0, .int 0, .ref q1, .ref q7, .int 0, .ref q13, .null, .null, .null, .int 0, .int 0, .null, .int 0]))) := gw_fr.up hF15 hf_mo (show ¬ ((gw_out [100, 101, 102, 103, 104, 105, 106, 107]) 100) by decide) (show ¬ ((gw_out [100, 101, 102, 103, 104, 105, 106, 107]) 100) by decide)
  obtain ⟨M18, eM18⟩ : ∃ z, z = gw_up M16 mo 100 (.inr (5, [.int 0, .int 0, .int 0, .int 0, .ref q1, .ref q7, .int 0, .ref q13, .null, .null, .null, .int 0, .int 0, .null, .int 0])) := ⟨_, rfl⟩
  replace hW : gw_P G.1 vwCl G.2.2.2 M18 H := by rw [eM18]; exact hW
  have hf_q1 : M18 q1 = some (101, .inl (G.2.1 0, 10000, .inl (fun _ => 0))) := by rw [eM18]; exact gw_keep hf_q1 hf_mo (by decide)
  have hf_q7 : M18 q7 = some (102, .inl (G.2.1 0, 300, .inl (fun _ => 0))) := by rw [eM18]; exact gw_keep hf_q7 hf_mo (by decide)
  have hf_q13 : M18 q13 = some (103, .inl (G.2.1 0, 10240, .inl (fun _ => 0))) := by rw [eM18]; exact gw_keep hf_q13 hf_mo (by decide)
  have hf_mo : M18 mo = some (100, .inr (5, [.int 0, .int 0, .int 0, .int 0, .ref q1, .ref q7, .int 0, .ref q13, .null, .null, .null, .int 0, .int 0, .null, .int 0])) := by rw [eM18]; exact gw_up_self _ _ _ _
  rw [← eM18] at hF17
  refine lv_aload_n hx hb d_Mo_init_31 rfl (lv_at hl 0 rfl) ?_
  refine lv_bipush (v := 41) hx hb d_Mo_init_32 (by decide) ?_
  refine gw_newa (atype := .int) (ty := .int) (n := 41) (a0 := (41, .inl (fun _ => 0))) (N' := 41) hx hb (hts (.arrayClass .int) mw3) rfl hE.K hW hS hB (gw_zi 41) (by decide) (by decide) (Nat.le_of_ble_eq_true rfl) (Nat.le_of_ble_eq_true rfl) (Nat.le_of_ble_eq_true rfl) d_Mo_init_34 0 rfl (fun cA h1 h2 => gw_ri _ _ h1 h2) 104 (fun q19 H hq20 hW hS => ?_)
  refine W.widen (k := 4) (n := 20581) (Nat.le_refl _) (Nat.le_refl _) ?_
  have hF21 : gw_fr (gw_out [100, 101, 102, 103, 104, 105, 106, 107]) M (gw_up M18 q19 104 (.inl (G.2.1 0, 41, .inl (fun _ => 0)))) := gw_fr.new hF17 hq20 (show ¬ ((gw_out [100, 101, 102, 103, 104, 105, 106, 107]) 104) by decide)
  obtain ⟨M22, eM22⟩ : ∃ z, z = gw_up M18 q19 104 (.inl (G.2.1 0, 41, .inl (fun _ => 0))) := ⟨_, rfl⟩
  replace hW : gw_P G.1 vwCl G.2.2.2 M22 H := by rw [eM22]; exact hW
  have hf_q1 : M22 q1 = some (101, .inl (G.2.1 0, 10000, .inl (fun _ => 0))) := by rw [eM22]; exact gw_keepN hf_q1 hq20
  have hf_q7 : M22 q7 = some (102, .inl (G.2.1 0, 300, .inl (fun _ => 0))) := by rw [eM22]; exact gw_keepN hf_q7 hq20
  have hf_q13 : M22 q13 = some (103, .inl (G.2.1 0, 10240, .inl (fun _ => 0))) := by rw [eM22]; exact gw_keepN hf_q13 hq20
  have hf_mo : M22 mo = some (100, .inr (5, [.int 0, .int 0, .int 0, .int 0, .ref q1, .ref q7, .int 0, .ref q13, .null, .null, .null, .int 0, .int 0, .null, .int 0])) := by rw [eM22]; exact gw_keepN hf_mo hq20
  have hf_q19 : M22 q19 = some (104, .inl (G.2.1 0, 41, .inl (fun _ => 0))) := by rw [eM22]; exact gw_up_self _ _ _ _
  rw [← eM22] at hF21
  refine gw_putF (ci := 5) (fs := [.int 0, .int 0, .int 0, .int 0, .ref q1, .ref q7, .int 0, .ref q13, .null, .null, .null, .int 0, .int 0, .null, .int 0]) (v := .ref q19) (ty := .array .int) hx hb hts in_Mo t_Mo t_Mo_ok n_Mo hown hE.K hW hS hf_mo rfl 8 (by decide) (hts _ mw158) (fun _ h9 => h9) rfl hin rfl (by decide +kernel) rfl rfl (Nat.le_of_ble_eq_true rfl) d_Mo_init_36 (fun H locs hW hS => ?_)
  have hF23 : gw_fr (gw_out [100, 101, 102, 103, 104, 105, 106, 107]) M (gw_up M22 mo 100 (.inr (5, [.int 0, .int 0, .int 0, .int 0, .ref q1, .ref q7, .int 0, .ref q13, .ref q19, .null, .null, .int 0, .int 0, .null, .int 0]))) := gw_fr.up hF21 hf_mo (show ¬ ((gw_out [100, 101, 102, 103, 104, 105, 106, 107]) 100) by decide) (show ¬ ((gw_out [100, 101, 102, 103, 104, 105, 106, 107]) 100) by decide)
  obtain ⟨M24, eM24⟩ : ∃ z, z = gw_up M22 mo 100 (.inr (5, [.int 0, .int 0, .int 0, .int 0, .ref q1, .ref q7, .int 0, .ref q13, .ref q19, .null, .null, .int 0, .int 0, .null, .int 0])) := ⟨_, rfl⟩
  replace hW : gw_P G.1 vwCl G.2.2.2 M24 H := by rw [eM24]; exact hW
  have hf_q1 : M24 q1 = some (101, .inl (G.2.1 0, 10000, .inl (fun _ => 0))) := by rw [eM24]; exact gw_keep hf_q1 hf_mo (by decide)
  have hf_q7 : M24 q7 = some (102, .inl (G.2.1 0, 300, .inl (fun _ => 0))) := by rw [eM24]; exact gw_keep hf_q7 hf_mo (by decide)
  have hf_q13 : M24 q13 = some (103, .inl (G.2.1 0, 10240, .inl (fun _ => 0))) := by rw [eM24]; exact gw_keep hf_q13 hf_mo (by decide)
  have hf_q19 : M24 q19 = some (104, .inl (G.2.1 0, 41, .inl (fun _ => 0))) := by rw [eM24]; exact gw_keep hf_q19 hf_mo (by decide)
  have hf_mo : M24 mo = some (100, .inr (5, [.int 0, .int 0, .int 0, .int 0, .ref q1, .ref q7, .int 0, .ref q13, .ref q19, .null, .null, .int 0, .int 0, .null, .int 0])) := by rw [eM24]; exact gw_up_self _ _ _ _
  rw [← eM24] at hF23
  refine lv_aload_n hx hb d_Mo_init_39 rfl (lv_at hl 0 rfl) ?_
  refine lv_bipush (v := 41) hx hb d_Mo_init_40 (by decide) ?_
  refine gw_newa (atype := .int) (ty := .int) (n := 41) (a0 := (41, .inl (fun _ => 0))) (N' := 41) hx hb (hts (.arrayClass .int) mw3) rfl hE.K hW hS hB (gw_zi 41) (by decide) (by decide) (Nat.le_of_ble_eq_true rfl) (Nat.le_of_ble_eq_true rfl) (Nat.le_of_ble_eq_true rfl) d_Mo_init_42 0 rfl (fun cA h1 h2 => gw_ri _ _ h1 h2) 105 (fun q25 H hq26 hW hS => ?_)
  refine W.widen (k := 5) (n := 20622) (Nat.le_refl _) (Nat.le_refl _) ?_
  have hF27 : gw_fr (gw_out [100, 101, 102, 103, 104, 105, 106, 107]) M (gw_up M24 q25 105 (.inl (G.2.1 0, 41, .inl (fun _ => 0)))) := gw_fr.new hF23 hq26 (show ¬ ((gw_out [100, 101, 102, 103, 104, 105, 106, 107]) 105) by decide)
  obtain ⟨M28, eM28⟩ : ∃ z, z = gw_up M24 q25 105 (.inl (G.2.1 0, 41, .inl (fun _ => 0))) := ⟨_, rfl⟩
  replace hW : gw_P G.1 vwCl G.2.2.2 M28 H := by rw [eM28]; exact hW
  have hf_q1 : M28 q1 = some (101, .inl (G.2.1 0, 10000, .inl (fun _ => 0))) := by rw [eM28]; exact gw_keepN hf_q1 hq26
  have hf_q7 : M28 q7 = some (102, .inl (G.2.1 0, 300, .inl (fun _ => 0))) := by rw [eM28]; exact gw_keepN hf_q7 hq26
  have hf_q13 : M28 q13 = some (103, .inl (G.2.1 0, 10240, .inl (fun _ => 0))) := by rw [eM28]; exact gw_keepN hf_q13 hq26
  have hf_q19 : M28 q19 = some (104, .inl (G.2.1 0, 41, .inl (fun _ => 0))) := by rw [eM28]; exact gw_keepN hf_q19 hq26
  have hf_mo : M28 mo = some (100, .inr (5, [.int 0, .int 0, .int 0, .int 0, .ref q1, .ref q7, .int 0, .ref q13, .ref q19, .null, .null, .int 0, .int 0, .null, .int 0])) := by rw [eM28]; exact gw_keepN hf_mo hq26
  have hf_q25 : M28 q25 = some (105, .inl (G.2.1 0, 41, .inl (fun _ => 0))) := by rw [eM28]; exact gw_up_self _ _ _ _
  rw [← eM28] at hF27
  refine gw_putF (ci := 5) (fs := [.int 0, .int 0, .int 0, .int 0, .ref q1, .ref q7, .int 0, .ref q13, .ref q19, .null, .null, .int 0, .int 0, .null, .int 0]) (v := .ref q25) (ty := .array .int) hx hb hts in_Mo t_Mo t_Mo_ok n_Mo hown hE.K hW hS hf_mo rfl 9 (by decide) (hts _ mw159) (fun _ h9 => h9) rfl hin rfl (by decide +kernel) rfl rfl (Nat.le_of_ble_eq_true rfl) d_Mo_init_44 (fun H locs hW hS => ?_)
  have hF29 : gw_fr (gw_out [100, 101, 102, 103, 104, 105, 106, 107]) M (gw_up M28 mo 100 (.inr (5, [.int 0, .int 0, .int 0, .int 0, .ref q1, .ref q7, .int 0, .ref q13, .ref q19, .ref q25, .null, .int 0, .int 0, .null, .int 0]))) := gw_fr.up hF27 hf_mo (show ¬ ((gw_out [100, 101, 102, 103, 104, 105, 106, 107]) 100) by decide) (show ¬ ((gw_out [100, 101, 102, 103, 104, 105, 106, 107]) 100) by decide)
  obtain ⟨M30, eM30⟩ : ∃ z, z = gw_up M28 mo 100 (.inr (5, [.int 0, .int 0, .int 0, .int 0, .ref q1, .ref q7, .int 0, .ref q13, .ref q19, .ref q25, .null, .int 0, .int 0, .null, .int 0])) := ⟨_, rfl⟩
  replace hW : gw_P G.1 vwCl G.2.2.2 M30 H := by rw [eM30]; exact hW
  have hf_q1 : M30 q1 = some (101, .inl (G.2.1 0, 10000, .inl (fun _ => 0))) := by rw [eM30]; exact gw_keep hf_q1 hf_mo (by decide)
  have hf_q7 : M30 q7 = some (102, .inl (G.2.1 0, 300, .inl (fun _ => 0))) := by rw [eM30]; exact gw_keep hf_q7 hf_mo (by decide)
  have hf_q13 : M30 q13 = some (103, .inl (G.2.1 0, 10240, .inl (fun _ => 0))) := by rw [eM30]; exact gw_keep hf_q13 hf_mo (by decide)
  have hf_q19 : M30 q19 = some (104, .inl (G.2.1 0, 41, .inl (fun _ => 0))) := by rw [eM30]; exact gw_keep hf_q19 hf_mo (by decide)
  have hf_q25 : M30 q25 = some (105, .inl (G.2.1 0, 41, .inl (fun _ => 0))) := by rw [eM30]; exact gw_keep hf_q25 hf_mo (by decide)
  have hf_mo : M30 mo = some (100, .inr (5, [.int 0, .int 0, .int 0, .int 0, .ref q1, .ref q7, .int 0, .ref q13, .ref q19, .ref q25, .null, .int 0, .int 0, .null, .int 0])) := by rw [eM30]; exact gw_up_self _ _ _ _
  rw [← eM30] at hF29
  refine lv_aload_n hx hb d_Mo_init_47 rfl (lv_at hl 0 rfl) ?_
  refine lv_sipush (v := 4100) hx hb d_Mo_init_48 (by decide) ?_
  refine gw_newa (atype := .int) (ty := .int) (n := 4100) (a0 := (4100, .inl (fun _ => 0))) (N' := 4100) hx hb (hts (.arrayClass .int) mw3) rfl hE.K hW hS hB (gw_zi 4100) (by decide) (by decide) (Nat.le_of_ble_eq_true rfl) (Nat.le_of_ble_eq_true rfl) (Nat.le_of_ble_eq_true rfl) d_Mo_init_51 0 rfl (fun cA h1 h2 => gw_ri _ _ h1 h2) 106 (fun q31 H hq32 hW hS => ?_)
  refine W.widen (k := 6) (n := 24722) (Nat.le_refl _) (Nat.le_refl _) ?_
  have hF33 : gw_fr (gw_out [100, 101, 102, 103, 104, 105, 106, 107]) M (gw_up M30 q31 106 (.inl (G.2.1 0, 4100, .inl (fun _ => 0)))) := gw_fr.new hF29 hq32 (show ¬ ((gw_out [100, 101, 102, 103, 104, 105, 106, 107]) 106) by decide)
  obtain ⟨M34, eM34⟩ : ∃ z, z = gw_up M30 q31 106 (.inl (G.2.1 0, 4100, .inl (fun _ => 0))) := ⟨_, rfl⟩
  replace hW : gw_P G.1 vwCl G.2.2.2 M34 H := by rw [eM34]; exact hW
  have hf_q1 : M34 q1 = some (101, .inl (G.2.1 0, 10000, .inl (fun _ => 0))) := by rw [eM34]; exact gw_keepN hf_q1 hq32
  have hf_q7 : M34 q7 = some (102, .inl (G.2.1 0, 300, .inl (fun _ => 0))) := by rw [eM34]; exact gw_keepN hf_q7 hq32
  have hf_q13 : M34 q13 = some (103, .inl (G.2.1 0, 10240, .inl (fun _ => 0))) := by rw [eM34]; exact gw_keepN hf_q13 hq32
  have hf_q19 : M34 q19 = some (104, .inl (G.2.1 0, 41, .inl (fun _ => 0))) := by rw [eM34]; exact gw_keepN hf_q19 hq32
  have hf_q25 : M34 q25 = some (105, .inl (G.2.1 0, 41, .inl (fun _ => 0))) := by rw [eM34]; exact gw_keepN hf_q25 hq32
  have hf_mo : M34 mo = some (100, .inr (5, [.int 0, .int 0, .int 0, .int 0, .ref q1, .ref q7, .int 0, .ref q13, .ref q19, .ref q25, .null, .int 0, .int 0, .null, .int 0])) := by rw [eM34]; exact gw_keepN hf_mo hq32
  have hf_q31 : M34 q31 = some (106, .inl (G.2.1 0, 4100, .inl (fun _ => 0))) := by rw [eM34]; exact gw_up_self _ _ _ _
  rw [← eM34] at hF33
  refine gw_putF (ci := 5) (fs := [.int 0, .int 0, .int 0, .int 0, .ref q1, .ref q7, .int 0, .ref q13, .ref q19, .ref q25, .null, .int 0, .int 0, .null, .int 0]) (v := .ref q31) (ty := .array .int) hx hb hts in_Mo t_Mo t_Mo_ok n_Mo hown hE.K hW hS hf_mo rfl 10 (by decide) (hts _ mw160) (fun _ h9 => h9) rfl hin rfl (by decide +kernel) rfl rfl (Nat.le_of_ble_eq_true rfl) d_Mo_init_53 (fun H locs hW hS => ?_)
  have hF35 : gw_fr (gw_out [100, 101, 102, 103, 104, 105, 106, 107]) M (gw_up M34 mo 100 (.inr (5, [.int 0, .int 0, .int 0, .int 0, .ref q1, .ref q7, .int 0, .ref q13, .ref q19, .ref q25, .ref q31, .int 0, .int 0, .null, .int 0]))) := gw_fr.up hF33 hf_mo (show ¬ ((gw_out [100, 101, 102, 103, 104, 105, 106, 107]) 100) by decide) (show ¬ ((gw_out [100, 101, 102, 103, 104, 105, 106, 107]) 100) by decide)
  obtain ⟨M36, eM36⟩ : ∃ z, z = gw_up M34 mo 100 (.inr (5, [.int 0, .int 0, .int 0, .int 0, .ref q1, .ref q7, .int 0, .ref q13, .ref q19, .ref q25, .ref q31, .int 0, .int 0, .null, .int 0])) := ⟨_, rfl⟩
  replace hW : gw_P G.1 vwCl G.2.2.2 M36 H := by rw [eM36]; exact hW
  have hf_q1 : M36 q1 = some (101, .inl (G.2.1 0, 10000, .inl (fun _ => 0))) := by rw [eM36]; exact gw_keep hf_q1 hf_mo (by decide)
  have hf_q7 : M36 q7 = some (102, .inl (G.2.1 0, 300, .inl (fun _ => 0))) := by rw [eM36]; exact gw_keep hf_q7 hf_mo (by decide)
  have hf_q13 : M36 q13 = some (103, .inl (G.2.1 0, 10240, .inl (fun _ => 0))) := by rw [eM36]; exact gw_keep hf_q13 hf_mo (by decide)
  have hf_q19 : M36 q19 = some (104, .inl (G.2.1 0, 41, .inl (fun _ => 0))) := by rw [eM36]; exact gw_keep hf_q19 hf_mo (by decide)
  have hf_q25 : M36 q25 = some (105, .inl (G.2.1 0, 41, .inl (fun _ => 0))) := by rw [eM36]; exact gw_keep hf_q25 hf_mo (by decide)
  have hf_q31 : M36 q31 = some (106, .inl (G.2.1 0, 4100, .inl (fun _ => 0))) := by rw [eM36]; exact gw_keep hf_q31 hf_mo (by decide)
  have hf_mo : M36 mo = some (100, .inr (5, [.int 0, .int 0, .int 0, .int 0, .ref q1, .ref q7, .int 0, .ref q13, .ref q19, .ref q25, .ref q31, .int 0, .int 0, .null, .int 0])) := by rw [eM36]; exact gw_up_self _ _ _ _
  rw [← eM36] at hF35
  refine lv_aload_n hx hb d_Mo_init_56 rfl (lv_at hl 0 rfl) ?_
  refine lv_sipush (v := 2048) hx hb d_Mo_init_57 (by decide) ?_
  refine gw_newa (atype := .int) (ty := .int) (n := 2048) (a0 := (2048, .inl (fun _ => 0))) (N' := 2048) hx hb (hts (.arrayClass .int) mw3) rfl hE.K hW hS hB (gw_zi 2048) (by decide) (by decide) (Nat.le_of_ble_eq_true rfl) (Nat.le_of_ble_eq_true rfl) (Nat.le_of_ble_eq_true rfl) d_Mo_init_60 0 rfl (fun cA h1 h2 => gw_ri _ _ h1 h2) 107 (fun q37 H hq38 hW hS => ?_)
  refine W.widen (k := 7) (n := 26770) (Nat.le_refl _) (Nat.le_refl _) ?_
  have hF39 : gw_fr (gw_out [100, 101, 102, 103, 104, 105, 106, 107]) M (gw_up M36 q37 107 (.inl (G.2.1 0, 2048, .inl (fun _ => 0)))) := gw_fr.new hF35 hq38 (show ¬ ((gw_out [100, 101, 102, 103, 104, 105, 106, 107]) 107) by decide)
  obtain ⟨M40, eM40⟩ : ∃ z, z = gw_up M36 q37 107 (.inl (G.2.1 0, 2048, .inl (fun _ => 0))) := ⟨_, rfl⟩
  replace hW : gw_P G.1 vwCl G.2.2.2 M40 H := by rw [eM40]; exact hW
  have hf_q1 : M40 q1 = some (101, .inl (G.2.1 0, 10000, .inl (fun _ => 0))) := by rw [eM40]; exact gw_keepN hf_q1 hq38
  have hf_q7 : M40 q7 = some (102, .inl (G.2.1 0, 300, .inl (fun _ => 0))) := by rw [eM40]; exact gw_keepN hf_q7 hq38
  have hf_q13 : M40 q13 = some (103, .inl (G.2.1 0, 10240, .inl (fun _ => 0))) := by rw [eM40]; exact gw_keepN hf_q13 hq38
  have hf_q19 : M40 q19 = some (104, .inl (G.2.1 0, 41, .inl (fun _ => 0))) := by rw [eM40]; exact gw_keepN hf_q19 hq38
  have hf_q25 : M40 q25 = some (105, .inl (G.2.1 0, 41, .inl (fun _ => 0))) := by rw [eM40]; exact gw_keepN hf_q25 hq38
  have hf_q31 : M40 q31 = some (106, .inl (G.2.1 0, 4100, .inl (fun _ => 0))) := by rw [eM40]; exact gw_keepN hf_q31 hq38
  have hf_mo : M40 mo = some (100, .inr (5, [.int 0, .int 0, .int 0, .int 0, .ref q1, .ref q7, .int 0, .ref q13, .ref q19, .ref q25, .ref q31, .int 0, .int 0, .null, .int 0])) := by rw [eM40]; exact gw_keepN hf_mo hq38
  have hf_q37 : M40 q37 = some (107, .inl (G.2.1 0, 2048, .inl (fun _ => 0))) := by rw [eM40]; exact gw_up_self _ _ _ _
  rw [← eM40] at hF39
  refine gw_putF (ci := 5) (fs := [.int 0, .int 0, .int 0, .int 0, .ref q1, .ref q7, .int 0, .ref q13, .ref q19, .ref q25, .ref q31, .int 0, .int 0, .null, .int 0]) (v := .ref q37) (ty := .array .int) hx hb hts in_Mo t_Mo t_Mo_ok n_Mo hown hE.K hW hS hf_mo rfl 13 (by decide) (hts _ mw161) (fun _ h9 => h9) rfl hin rfl (by decide +kernel) rfl rfl (Nat.le_of_ble_eq_true rfl) d_Mo_init_62 (fun H locs hW hS => ?_)
  have hF41 : gw_fr (gw_out [100, 101, 102, 103, 104, 105, 106, 107]) M (gw_up M40 mo 100 (.inr (5, [.int 0, .int 0, .int 0, .int 0, .ref q1, .ref q7, .int 0, .ref q13, .ref q19, .ref q25, .ref q31, .int 0, .int 0, .ref q37, .int 0]))) := gw_fr.up hF39 hf_mo (show ¬ ((gw_out [100, 101, 102, 103, 104, 105, 106, 107]) 100) by decide) (show ¬ ((gw_out [100, 101, 102, 103, 104, 105, 106, 107]) 100) by decide)
  obtain ⟨M42, eM42⟩ : ∃ z, z = gw_up M40 mo 100 (.inr (5, [.int 0, .int 0, .int 0, .int 0, .ref q1, .ref q7, .int 0, .ref q13, .ref q19, .ref q25, .ref q31, .int 0, .int 0, .ref q37, .int 0])) := ⟨_, rfl⟩
  replace hW : gw_P G.1 vwCl G.2.2.2 M42 H := by rw [eM42]; exact hW
  have hf_q1 : M42 q1 = some (101, .inl (G.2.1 0, 10000, .inl (fun _ => 0))) := by rw [eM42]; exact gw_keep hf_q1 hf_mo (by decide)
  have hf_q7 : M42 q7 = some (102, .inl (G.2.1 0, 300, .inl (fun _ => 0))) := by rw [eM42]; exact gw_keep hf_q7 hf_mo (by decide)
  have hf_q13 : M42 q13 = some (103, .inl (G.2.1 0, 10240, .inl (fun _ => 0))) := by rw [eM42]; exact gw_keep hf_q13 hf_mo (by decide)
  have hf_q19 : M42 q19 = some (104, .inl (G.2.1 0, 41, .inl (fun _ => 0))) := by rw [eM42]; exact gw_keep hf_q19 hf_mo (by decide)
  have hf_q25 : M42 q25 = some (105, .inl (G.2.1 0, 41, .inl (fun _ => 0))) := by rw [eM42]; exact gw_keep hf_q25 hf_mo (by decide)
  have hf_q31 : M42 q31 = some (106, .inl (G.2.1 0, 4100, .inl (fun _ => 0))) := by rw [eM42]; exact gw_keep hf_q31 hf_mo (by decide)
  have hf_q37 : M42 q37 = some (107, .inl (G.2.1 0, 2048, .inl (fun _ => 0))) := by rw [eM42]; exact gw_keep hf_q37 hf_mo (by decide)
  have hf_mo : M42 mo = some (100, .inr (5, [.int 0, .int 0, .int 0, .int 0, .ref q1, .ref q7, .int 0, .ref q13, .ref q19, .ref q25, .ref q31, .int 0, .int 0, .ref q37, .int 0])) := by rw [eM42]; exact gw_up_self _ _ _ _
  rw [← eM42] at hF41
  refine lv_aload_n hx hb d_Mo_init_65 rfl (lv_at hl 0 rfl) ?_
  refine lv_iload_n hx hb d_Mo_init_66 rfl (lv_at hl 1 rfl) ?_
  refine lv_iconst (v := 1) hx hb d_Mo_init_67 (by decide) ?_
  refine lv_icmp_ge (tgt := 75) hx hb d_Mo_init_68 (by decide) (fun c68 => ?_) (fun c68 => ?_)
  · refine lv_iload_n hx hb d_Mo_init_75 rfl (lv_at hl 1 rfl) ?_
    refine lv_sipush (v := 255) hx hb d_Mo_init_76 (by decide) ?_
    refine lv_icmp_le (tgt := 88) hx hb d_Mo_init_79 (by decide) (fun c79 => ?_) (fun c79 => ?_)
    · refine lv_iload_n hx hb d_Mo_init_88 rfl (lv_at hl 1 rfl) ?_
      refine gw_putF (ci := 5) (fs := [.int 0, .int 0, .int 0, .int 0, .ref q1, .ref q7, .int 0, .ref q13, .ref q19, .ref q25, .ref q31, .int 0, .int 0, .ref q37, .int 0]) (v := .int p0) (ty := .int) hx hb hts in_Mo t_Mo t_Mo_ok n_Mo hown hE.K hW hS hf_mo rfl 1 (by decide) (hts _ mw162) (fun _ h9 => h9) rfl hin rfl (by decide +kernel) rfl rfl (Nat.le_of_ble_eq_true rfl) d_Mo_init_89 (fun H locs hW hS => ?_)
      have hF43 : gw_fr (gw_out [100, 101, 102, 103, 104, 105, 106, 107]) M (gw_up M42 mo 100 (.inr (5, [.int 0, .int p0, .int 0, .int 0, .ref q1, .ref q7, .int 0, .ref q13, .ref q19, .ref q25, .ref q31, .int 0, .int 0, .ref q37, .int 0]))) := gw_fr.up hF41 hf_mo (show ¬ ((gw_out [100, 101, 102, 103, 104, 105, 106, 107]) 100) by decide) (show ¬ ((gw_out [100, 101, 102, 103, 104, 105, 106, 107]) 100) by decide)
      obtain ⟨M44, eM44⟩ : ∃ z, z = gw_up M42 mo 100 (.inr (5, [.int 0, .int p0, .int 0, .int 0, .ref q1, .ref q7, .int 0, .ref q13, .ref q19, .ref q25, .ref q31, .int 0, .int 0, .ref q37, .int 0])) := ⟨_, rfl⟩
      replace hW : gw_P G.1 vwCl G.2.2.2 M44 H := by rw [eM44]; exact hW
      have hf_q1 : M44 q1 = some (101, .inl (G.2.1 0, 10000, .inl (fun _ => 0))) := by rw [eM44]; exact gw_keep hf_q1 hf_mo (by decide)
      have hf_q7 : M44 q7 = some (102, .inl (G.2.1 0, 300, .inl (fun _ => 0))) := by rw [eM44]; exact gw_keep hf_q7 hf_mo (by decide)
      have hf_q13 : M44 q13 = some (103, .inl (G.2.1 0, 10240, .inl (fun _ => 0))) := by rw [eM44]; exact gw_keep hf_q13 hf_mo (by decide)
      have hf_q19 : M44 q19 = some (104, .inl (G.2.1 0, 41, .inl (fun _ => 0))) := by rw [eM44]; exact gw_keep hf_q19 hf_mo (by decide)
      have hf_q25 : M44 q25 = some (105, .inl (G.2.1 0, 41, .inl (fun _ => 0))) := by rw [eM44]; exact gw_keep hf_q25 hf_mo (by decide)
      have hf_q31 : M44 q31 = some (106, .inl (G.2.1 0, 4100, .inl (fun _ => 0))) := by rw [eM44]; exact gw_keep hf_q31 hf_mo (by decide)
      have hf_q37 : M44 q37 = some (107, .inl (G.2.1 0, 2048, .inl (fun _ => 0))) := by rw [eM44]; exact gw_keep hf_q37 hf_mo (by decide)
      have hf_mo : M44 mo = some (100, .inr (5, [.int 0, .int p0, .int 0, .int 0, .ref q1, .ref q7, .int 0, .ref q13, .ref q19, .ref q25, .ref q31, .int 0, .int 0, .ref q37, .int 0])) := by rw [eM44]; exact gw_up_self _ _ _ _
      rw [← eM44] at hF43
      refine lv_aload_n hx hb d_Mo_init_92 rfl (lv_at hl 0 rfl) ?_
      refine lv_iload_n hx hb d_Mo_init_93 rfl (lv_at hl 2 rfl) ?_
      refine lv_if_eq (tgt := 101) hx hb d_Mo_init_94 (by decide) (fun c94 => ?_) (fun c94 => ?_)
      · refine lv_iconst (v := 0) hx hb d_Mo_init_101 (by decide) ?_
        refine gw_putF (ci := 5) (fs := [.int 0, .int p0, .int 0, .int 0, .ref q1, .ref q7, .int 0, .ref q13, .ref q19, .ref q25, .ref q31, .int 0, .int 0, .ref q37, .int 0]) (v := .int 0) (ty := .boolean) hx hb hts in_Mo t_Mo t_Mo_ok n_Mo hown hE.K hW hS hf_mo rfl 2 (by decide) (hts _ mw163) (fun _ h9 => h9) rfl hin rfl (by decide +kernel) rfl rfl (Nat.le_of_ble_eq_true rfl) d_Mo_init_102 (fun H locs hW hS => ?_)
        have hF45 : gw_fr (gw_out [100, 101, 102, 103, 104, 105, 106, 107]) M (gw_up M44 mo 100 (.inr (5, [.int 0, .int p0, .int 0, .int 0, .ref q1, .ref q7, .int 0, .ref q13, .ref q19, .ref q25, .ref q31, .int 0, .int 0, .ref q37, .int 0]))) := gw_fr.up hF43 hf_mo (show ¬ ((gw_out [100, 101, 102, 103, 104, 105, 106, 107]) 100) by decide) (show ¬ ((gw_out [100, 101, 102, 103, 104, 105, 106, 107]) 100) by decide)
        obtain ⟨M46, eM46⟩ : ∃ z, z = gw_up M44 mo 100 (.inr (5, [.int 0, .int p0, .int 0, .int 0, .ref q1, .ref q7, .int 0, .ref q13, .ref q19, .ref q25, .ref q31, .int 0, .int 0, .ref q37, .int 0])) := ⟨_, rfl⟩
        replace hW : gw_P G.1 vwCl G.2.2.2 M46 H := by rw [eM46]; exact hW
        have hf_q1 : M46 q1 = some (101, .inl (G.2.1 0, 10000, .inl (fun _ => 0))) := by rw [eM46]; exact gw_keep hf_q1 hf_mo (by decide)
        have hf_q7 : M46 q7 = some (102, .inl (G.2.1 0, 300, .inl (fun _ => 0))) := by rw [eM46]; exact gw_keep hf_q7 hf_mo (by decide)
        have hf_q13 : M46 q13 = some (103, .inl (G.2.1 0, 10240, .inl (fun _ => 0))) := by rw [eM46]; exact gw_keep hf_q13 hf_mo (by decide)
        have hf_q19 : M46 q19 = some (104, .inl (G.2.1 0, 41, .inl (fun _ => 0))) := by rw [eM46]; exact gw_keep hf_q19 hf_mo (by decide)
        have hf_q25 : M46 q25 = some (105, .inl (G.2.1 0, 41, .inl (fun _ => 0))) := by rw [eM46]; exact gw_keep hf_q25 hf_mo (by decide)
        have hf_q31 : M46 q31 = some (106, .inl (G.2.1 0, 4100, .inl (fun _ => 0))) := by rw [eM46]; exact gw_keep hf_q31 hf_mo (by decide)
        have hf_q37 : M46 q37 = some (107, .inl (G.2.1 0, 2048, .inl (fun _ => 0))) := by rw [eM46]; exact gw_keep hf_q37 hf_mo (by decide)
        have hf_mo : M46 mo = some (100, .inr (5, [.int 0, .int p0, .int 0, .int 0, .ref q1, .ref q7, .int 0, .ref q13, .ref q19, .ref q25, .ref q31, .int 0, .int 0, .ref q37, .int 0])) := by rw [eM46]; exact gw_up_self _ _ _ _
        rw [← eM46] at hF45
        exact gw_vret hx hb hr hlocks hS hW (Nat.le_of_ble_eq_true rfl) (Nat.le_of_ble_eq_true rfl) d_Mo_init_105 (⟨q1, q7, q13, q19, q25, q31, q37, p0, 0, hf_mo, hf_q1, hf_q7, hf_q13, hf_q19, hf_q25, hf_q31, hf_q37, (gm_lim c68), hF45⟩)
      · refine lv_iconst (v := 1) hx hb d_Mo_init_97 (by decide) ?_
        refine lv_goto (tgt := 102) hx hb d_Mo_init_98 (by decide) ?_
        refine gw_putF (ci := 5) (fs := [.int 0, .int p0, .int 0, .int 0, .ref q1, .ref q7, .int 0, .ref q13, .ref q19, .ref q25, .ref q31, .int 0, .int 0, .ref q37, .int 0]) (v := .int 1) (ty := .boolean) hx hb hts in_Mo t_Mo t_Mo_ok n_Mo hown hE.K hW hS hf_mo rfl 2 (by decide) (hts _ mw163) (fun _ h9 => h9) rfl hin rfl (by decide +kernel) rfl rfl (Nat.le_of_ble_eq_true rfl) d_Mo_init_102 (fun H locs hW hS => ?_)
        have hF47 : gw_fr (gw_out [100, 101, 102, 103, 104, 105, 106, 107]) M (gw_up M44 mo 100 (.inr (5, [.int 0, .int p0, .int 1, .int 0, .ref q1, .ref q7, .int 0, .ref q13, .ref q19, .ref q25, .ref q31, .int 0, .int 0, .ref q37, .int 0]))) := gw_fr.up hF43 hf_mo (show ¬ ((gw_out [100, 101, 102, 103, 104, 105, 106, 107]) 100) by decide) (show ¬ ((gw_out [100, 101, 102, 103, 104, 105, 106, 107]) 100) by decide)
        obtain ⟨M48, eM48⟩ : ∃ z, z = gw_up M44 mo 100 (.inr (5, [.int 0, .int p0, .int 1, .int 0, .ref q1, .ref q7, .int 0, .ref q13, .ref q19, .ref q25, .ref q31, .int 0, .int 0, .ref q37, .int 0])) := ⟨_, rfl⟩
        replace hW : gw_P G.1 vwCl G.2.2.2 M48 H := by rw [eM48]; exact hW
        have hf_q1 : M48 q1 = some (101, .inl (G.2.1 0, 10000, .inl (fun _ => 0))) := by rw [eM48]; exact gw_keep hf_q1 hf_mo (by decide)
        have hf_q7 : M48 q7 = some (102, .inl (G.2.1 0, 300, .inl (fun _ => 0))) := by rw [eM48]; exact gw_keep hf_q7 hf_mo (by decide)
        have hf_q13 : M48 q13 = some (103, .inl (G.2.1 0, 10240, .inl (fun _ => 0))) := by rw [eM48]; exact gw_keep hf_q13 hf_mo (by decide)
        have hf_q19 : M48 q19 = some (104, .inl (G.2.1 0, 41, .inl (fun _ => 0))) := by rw [eM48]; exact gw_keep hf_q19 hf_mo (by decide)
        have hf_q25 : M48 q25 = some (105, .inl (G.2.1 0, 41, .inl (fun _ => 0))) := by rw [eM48]; exact gw_keep hf_q25 hf_mo (by decide)
        have hf_q31 : M48 q31 = some (106, .inl (G.2.1 0, 4100, .inl (fun _ => 0))) := by rw [eM48]; exact gw_keep hf_q31 hf_mo (by decide)
        have hf_q37 : M48 q37 = some (107, .inl (G.2.1 0, 2048, .inl (fun _ => 0))) := by rw [eM48]; exact gw_keep hf_q37 hf_mo (by decide)
        have hf_mo : M48 mo = some (100, .inr (5, [.int 0, .int p0, .int 1, .int 0, .ref q1, .ref q7, .int 0, .ref q13, .ref q19, .ref q25, .ref q31, .int 0, .int 0, .ref q37, .int 0])) := by rw [eM48]; exact gw_up_self _ _ _ _
        rw [← eM48] at hF47
        exact gw_vret hx hb hr hlocks hS hW (Nat.le_of_ble_eq_true rfl) (Nat.le_of_ble_eq_true rfl) d_Mo_init_105 (⟨q1, q7, q13, q19, q25, q31, q37, p0, 1, hf_mo, hf_q1, hf_q7, hf_q13, hf_q19, hf_q25, hf_q31, hf_q37, (gm_lim c68), hF47⟩)
    · refine lv_sipush (v := 255) hx hb d_Mo_init_82 (by decide) ?_
      refine lv_goto (tgt := 89) hx hb d_Mo_init_85 (by decide) ?_
      refine gw_putF (ci := 5) (fs := [.int 0, .int 0, .int 0, .int 0, .ref q1, .ref q7, .int 0, .ref q13, .ref q19, .ref q25, .ref q31, .int 0, .int 0, .ref q37, .int 0]) (v := .int 255) (ty := .int) hx hb hts in_Mo t_Mo t_Mo_ok n_Mo hown hE.K hW hS hf_mo rfl 1 (by decide) (hts _ mw162) (fun _ h9 => h9) rfl hin rfl (by decide +kernel) rfl rfl (Nat.le_of_ble_eq_true rfl) d_Mo_init_89 (fun H locs hW hS => ?_)
      have hF49 : gw_fr (gw_out [100, 101, 102, 103, 104, 105, 106, 107]) M (gw_up M42 mo 100 (.inr (5, [.int 0, .int 255, .int 0, .int 0, .ref q1, .ref q7, .int 0, .ref q13, .ref q19, .ref q25, .ref q31, .int 0, .int 0, .ref q37, .int 0]))) := gw_fr.up hF41 hf_mo (show ¬ ((gw_out [100, 101, 102, 103, 104, 105, 106, 107]) 100) by decide) (show ¬ ((gw_out [100, 101, 102, 103, 104, 105, 106, 107]) 100) by decide)
      obtain ⟨M50, eM50⟩ : ∃ z, z = gw_up M42 mo 100 (.inr (5, [.int 0, .int 255, .int 0, .int 0, .ref q1, .ref q7, .int 0, .ref q13, .ref q19, .ref q25, .ref q31, .int 0, .int 0, .ref q37, .int 0])) := ⟨_, rfl⟩
      replace hW : gw_P G.1 vwCl G.2.2.2 M50 H := by rw [eM50]; exact hW
      have hf_q1 : M50 q1 = some (101, .inl (G.2.1 0, 10000, .inl (fun _ => 0))) := by rw [eM50]; exact gw_keep hf_q1 hf_mo (by decide)
      have hf_q7 : M50 q7 = some (102, .inl (G.2.1 0, 300, .inl (fun _ => 0))) := by rw [eM50]; exact gw_keep hf_q7 hf_mo (by decide)
      have hf_q13 : M50 q13 = some (103, .inl (G.2.1 0, 10240, .inl (fun _ => 0))) := by rw [eM50]; exact gw_keep hf_q13 hf_mo (by decide)
      have hf_q19 : M50 q19 = some (104, .inl (G.2.1 0, 41, .inl (fun _ => 0))) := by rw [eM50]; exact gw_keep hf_q19 hf_mo (by decide)
      have hf_q25 : M50 q25 = some (105, .inl (G.2.1 0, 41, .inl (fun _ => 0))) := by rw [eM50]; exact gw_keep hf_q25 hf_mo (by decide)
      have hf_q31 : M50 q31 = some (106, .inl (G.2.1 0, 4100, .inl (fun _ => 0))) := by rw [eM50]; exact gw_keep hf_q31 hf_mo (by decide)
      have hf_q37 : M50 q37 = some (107, .inl (G.2.1 0, 2048, .inl (fun _ => 0))) := by rw [eM50]; exact gw_keep hf_q37 hf_mo (by decide)
      have hf_mo : M50 mo = some (100, .inr (5, [.int 0, .int 255, .int 0, .int 0, .ref q1, .ref q7, .int 0, .ref q13, .ref q19, .ref q25, .ref q31, .int 0, .int 0, .ref q37, .int 0])) := by rw [eM50]; exact gw_up_self _ _ _ _
      rw [← eM50] at hF49
      refine lv_aload_n hx hb d_Mo_init_92 rfl (lv_at hl 0 rfl) ?_
      refine lv_iload_n hx hb d_Mo_init_93 rfl (lv_at hl 2 rfl) ?_
      refine lv_if_eq (tgt := 101) hx hb d_Mo_init_94 (by decide) (fun c94 => ?_) (fun c94 => ?_)
      · refine lv_iconst (v := 0) hx hb d_Mo_init_101 (by decide) ?_
        refine gw_putF (ci := 5) (fs := [.int 0, .int 255, .int 0, .int 0, .ref q1, .ref q7, .int 0, .ref q13, .ref q19, .ref q25, .ref q31, .int 0, .int 0, .ref q37, .int 0]) (v := .int 0) (ty := .boolean) hx hb hts in_Mo t_Mo t_Mo_ok n_Mo hown hE.K hW hS hf_mo rfl 2 (by decide) (hts _ mw163) (fun _ h9 => h9) rfl hin rfl (by decide +kernel) rfl rfl (Nat.le_of_ble_eq_true rfl) d_Mo_init_102 (fun H locs hW hS => ?_)
        have hF51 : gw_fr (gw_out [100, 101, 102, 103, 104, 105, 106, 107]) M (gw_up M50 mo 100 (.inr (5, [.int 0, .int 255, .int 0, .int 0, .ref q1, .ref q7, .int 0, .ref q13, .ref q19, .ref q25, .ref q31, .int 0, .int 0, .ref q37, .int 0]))) := gw_fr.up hF49 hf_mo (show ¬ ((gw_out [100, 101, 102, 103, 104, 105, 106, 107]) 100) by decide) (show ¬ ((gw_out [100, 101, 102, 103, 104, 105, 106, 107]) 100) by decide)
        obtain ⟨M52, eM52⟩ : ∃ z, z = gw_up M50 mo 100 (.inr (5, [.int 0, .int 255, .int 0, .int 0, .ref q1, .ref q7, .int 0, .ref q13, .ref q19, .ref q25, .ref q31, .int 0, .int 0, .ref q37, .int 0])) := ⟨_, rfl⟩
        replace hW : gw_P G.1 vwCl G.2.2.2 M52 H := by rw [eM52]; exact hW
        have hf_q1 : M52 q1 = some (101, .inl (G.2.1 0, 10000, .inl (fun _ => 0))) := by rw [eM52]; exact gw_keep hf_q1 hf_mo (by decide)
        have hf_q7 : M52 q7 = some (102, .inl (G.2.1 0, 300, .inl (fun _ => 0))) := by rw [eM52]; exact gw_keep hf_q7 hf_mo (by decide)
        have hf_q13 : M52 q13 = some (103, .inl (G.2.1 0, 10240, .inl (fun _ => 0))) := by rw [eM52]; exact gw_keep hf_q13 hf_mo (by decide)
        have hf_q19 : M52 q19 = some (104, .inl (G.2.1 0, 41, .inl (fun _ => 0))) := by rw [eM52]; exact gw_keep hf_q19 hf_mo (by decide)
        have hf_q25 : M52 q25 = some (105, .inl (G.2.1 0, 41, .inl (fun _ => 0))) := by rw [eM52]; exact gw_keep hf_q25 hf_mo (by decide)
        have hf_q31 : M52 q31 = some (106, .inl (G.2.1 0, 4100, .inl (fun _ => 0))) := by rw [eM52]; exact gw_keep hf_q31 hf_mo (by decide)
        have hf_q37 : M52 q37 = some (107, .inl (G.2.1 0, 2048, .inl (fun _ => 0))) := by rw [eM52]; exact gw_keep hf_q37 hf_mo (by decide)
        have hf_mo : M52 mo = some (100, .inr (5, [.int 0, .int 255, .int 0, .int 0, .ref q1, .ref q7, .int 0, .ref q13, .ref q19, .ref q25, .ref q31, .int 0, .int 0, .ref q37, .int 0])) := by rw [eM52]; exact gw_up_self _ _ _ _
        rw [← eM52] at hF51
        exact gw_vret hx hb hr hlocks hS hW (Nat.le_of_ble_eq_true rfl) (Nat.le_of_ble_eq_true rfl) d_Mo_init_105 (⟨q1, q7, q13, q19, q25, q31, q37, 255, 0, hf_mo, hf_q1, hf_q7, hf_q13, hf_q19, hf_q25, hf_q31, hf_q37, (by decide), hF51⟩)
      · refine lv_iconst (v := 1) hx hb d_Mo_init_97 (by decide) ?_
        refine lv_goto (tgt := 102) hx hb d_Mo_init_98 (by decide) ?_
        refine gw_putF (ci := 5) (fs := [.int 0, .int 255, .int 0, .int 0, .ref q1, .ref q7, .int 0, .ref q13, .ref q19, .ref q25, .ref q31, .int 0, .int 0, .ref q37, .int 0]) (v := .int 1) (ty := .boolean) hx hb hts in_Mo t_Mo t_Mo_ok n_Mo hown hE.K hW hS hf_mo rfl 2 (by decide) (hts _ mw163) (fun _ h9 => h9) rfl hin rfl (by decide +kernel) rfl rfl (Nat.le_of_ble_eq_true rfl) d_Mo_init_102 (fun H locs hW hS => ?_)
        have hF53 : gw_fr (gw_out [100, 101, 102, 103, 104, 105, 106, 107]) M (gw_up M50 mo 100 (.inr (5, [.int 0, .int 255, .int 1, .int 0, .ref q1, .ref q7, .int 0, .ref q13, .ref q19, .ref q25, .ref q31, .int 0, .int 0, .ref q37, .int 0]))) := gw_fr.up hF49 hf_mo (show ¬ ((gw_out [100, 101, 102, 103, 104, 105, 106, 107]) 100) by decide) (show ¬ ((gw_out [100, 101, 102, 103, 104, 105, 106, 107]) 100) by decide)
        obtain ⟨M54, eM54⟩ : ∃ z, z = gw_up M50 mo 100 (.inr (5, [.int 0, .int 255, .int 1, .int 0, .ref q1, .ref q7, .int 0, .ref q13, .ref q19, .ref q25, .ref q31, .int 0, .int 0, .ref q37, .int 0])) := ⟨_, rfl⟩
        replace hW : gw_P G.1 vwCl G.2.2.2 M54 H := by rw [eM54]; exact hW
        have hf_q1 : M54 q1 = some (101, .inl (G.2.1 0, 10000, .inl (fun _ => 0))) := by rw [eM54]; exact gw_keep hf_q1 hf_mo (by decide)
        have hf_q7 : M54 q7 = some (102, .inl (G.2.1 0, 300, .inl (fun _ => 0))) := by rw [eM54]; exact gw_keep hf_q7 hf_mo (by decide)
        have hf_q13 : M54 q13 = some (103, .inl (G.2.1 0, 10240, .inl (fun _ => 0))) := by rw [eM54]; exact gw_keep hf_q13 hf_mo (by decide)
        have hf_q19 : M54 q19 = some (104, .inl (G.2.1 0, 41, .inl (fun _ => 0))) := by rw [eM54]; exact gw_keep hf_q19 hf_mo (by decide)
        have hf_q25 : M54 q25 = some (105, .inl (G.2.1 0, 41, .inl (fun _ => 0))) := by rw [eM54]; exact gw_keep hf_q25 hf_mo (by decide)
        have hf_q31 : M54 q31 = some (106, .inl (G.2.1 0, 4100, .inl (fun _ => 0))) := by rw [eM54]; exact gw_keep hf_q31 hf_mo (by decide)
        have hf_q37 : M54 q37 = some (107, .inl (G.2.1 0, 2048, .inl (fun _ => 0))) := by rw [eM54]; exact gw_keep hf_q37 hf_mo (by decide)
        have hf_mo : M54 mo = some (100, .inr (5, [.int 0, .int 255, .int 1, .int 0, .ref q1, .ref q7, .int 0, .ref q13, .ref q19, .ref q25, .ref q31, .int 0, .int 0, .ref q37, .int 0])) := by rw [eM54]; exact gw_up_self _ _ _ _
        rw [← eM54] at hF53
        exact gw_vret hx hb hr hlocks hS hW (Nat.le_of_ble_eq_true rfl) (Nat.le_of_ble_eq_true rfl) d_Mo_init_105 (⟨q1, q7, q13, q19, q25, q31, q37, 255, 1, hf_mo, hf_q1, hf_q7, hf_q13, hf_q19, hf_q25, hf_q31, hf_q37, (by decide), hF53⟩)
  · refine lv_iconst (v := 1) hx hb d_Mo_init_71 (by decide) ?_
    refine lv_goto (tgt := 89) hx hb d_Mo_init_72 (by decide) ?_
    refine gw_putF (ci := 5) (fs := [.int 0, .int 0, .int 0, .int 0, .ref q1, .ref q7, .int 0, .ref q13, .ref q19, .ref q25, .ref q31, .int 0, .int 0, .ref q37, .int 0]) (v := .int 1) (ty := .int) hx hb hts in_Mo t_Mo t_Mo_ok n_Mo hown hE.K hW hS hf_mo rfl 1 (by decide) (hts _ mw162) (fun _ h9 => h9) rfl hin rfl (by decide +kernel) rfl rfl (Nat.le_of_ble_eq_true rfl) d_Mo_init_89 (fun H locs hW hS => ?_)
    have hF55 : gw_fr (gw_out [100, 101, 102, 103, 104, 105, 106, 107]) M (gw_up M42 mo 100 (.inr (5, [.int 0, .int 1, .int 0, .int 0, .ref q1, .ref q7, .int 0, .ref q13, .ref q19, .ref q25, .ref q31, .int 0, .int 0, .ref q37, .int 0]))) := gw_fr.up hF41 hf_mo (show ¬ ((gw_out [100, 101, 102, 103, 104, 105, 106, 107]) 100) by decide) (show ¬ ((gw_out [100, 101, 102, 103, 104, 105, 106, 107]) 100) by decide)
    obtain ⟨M56, eM56⟩ : ∃ z, z = gw_up M42 mo 100 (.inr (5, [.int 0, .int 1, .int 0, .int 0, .ref q1, .ref q7, .int 0, .ref q13, .ref q19, .ref q25, .ref q31, .int 0, .int 0, .ref q37, .int 0])) := ⟨_, rfl⟩
    replace hW : gw_P G.1 vwCl G.2.2.2 M56 H := by rw [eM56]; exact hW
    have hf_q1 : M56 q1 = some (101, .inl (G.2.1 0, 10000, .inl (fun _ => 0))) := by rw [eM56]; exact gw_keep hf_q1 hf_mo (by decide)
    have hf_q7 : M56 q7 = some (102, .inl (G.2.1 0, 300, .inl (fun _ => 0))) := by rw [eM56]; exact gw_keep hf_q7 hf_mo (by decide)
    have hf_q13 : M56 q13 = some (103, .inl (G.2.1 0, 10240, .inl (fun _ => 0))) := by rw [eM56]; exact gw_keep hf_q13 hf_mo (by decide)
    have hf_q19 : M56 q19 = some (104, .inl (G.2.1 0, 41, .inl (fun _ => 0))) := by rw [eM56]; exact gw_keep hf_q19 hf_mo (by decide)
    have hf_q25 : M56 q25 = some (105, .inl (G.2.1 0, 41, .inl (fun _ => 0))) := by rw [eM56]; exact gw_keep hf_q25 hf_mo (by decide)
    have hf_q31 : M56 q31 = some (106, .inl (G.2.1 0, 4100, .inl (fun _ => 0))) := by rw [eM56]; exact gw_keep hf_q31 hf_mo (by decide)
    have hf_q37 : M56 q37 = some (107, .inl (G.2.1 0, 2048, .inl (fun _ => 0))) := by rw [eM56]; exact gw_keep hf_q37 hf_mo (by decide)
    have hf_mo : M56 mo = some (100, .inr (5, [.int 0, .int 1, .int 0, .int 0, .ref q1, .ref q7, .int 0, .ref q13, .ref q19, .ref q25, .ref q31, .int 0, .int 0, .ref q37, .int 0])) := by rw [eM56]; exact gw_up_self _ _ _ _
    rw [← eM56] at hF55
    refine lv_aload_n hx hb d_Mo_init_92 rfl (lv_at hl 0 rfl) ?_
    refine lv_iload_n hx hb d_Mo_init_93 rfl (lv_at hl 2 rfl) ?_
    refine lv_if_eq (tgt := 101) hx hb d_Mo_init_94 (by decide) (fun c94 => ?_) (fun c94 => ?_)
    · refine lv_iconst (v := 0) hx hb d_Mo_init_101 (by decide) ?_
      refine gw_putF (ci := 5) (fs := [.int 0, .int 1, .int 0, .int 0, .ref q1, .ref q7, .int 0, .ref q13, .ref q19, .ref q25, .ref q31, .int 0, .int 0, .ref q37, .int 0]) (v := .int 0) (ty := .boolean) hx hb hts in_Mo t_Mo t_Mo_ok n_Mo hown hE.K hW hS hf_mo rfl 2 (by decide) (hts _ mw163) (fun _ h9 => h9) rfl hin rfl (by decide +kernel) rfl rfl (Nat.le_of_ble_eq_true rfl) d_Mo_init_102 (fun H locs hW hS => ?_)
      have hF57 : gw_fr (gw_out [100, 101, 102, 103, 104, 105, 106, 107]) M (gw_up M56 mo 100 (.inr (5, [.int 0, .int 1, .int 0, .int 0, .ref q1, .ref q7, .int 0, .ref q13, .ref q19, .ref q25, .ref q31, .int 0, .int 0, .ref q37, .int 0]))) := gw_fr.up hF55 hf_mo (show ¬ ((gw_out [100, 101, 102, 103, 104, 105, 106, 107]) 100) by decide) (show ¬ ((gw_out [100, 101, 102, 103, 104, 105, 106, 107]) 100) by decide)
      obtain ⟨M58, eM58⟩ : ∃ z, z = gw_up M56 mo 100 (.inr (5, [.int 0, .int 1, .int 0, .int 0, .ref q1, .ref q7, .int 0, .ref q13, .ref q19, .ref q25, .ref q31, .int 0, .int 0, .ref q37, .int 0])) := ⟨_, rfl⟩
      replace hW : gw_P G.1 vwCl G.2.2.2 M58 H := by rw [eM58]; exact hW
      have hf_q1 : M58 q1 = some (101, .inl (G.2.1 0, 10000, .inl (fun _ => 0))) := by rw [eM58]; exact gw_keep hf_q1 hf_mo (by decide)
      have hf_q7 : M58 q7 = some (102, .inl (G.2.1 0, 300, .inl (fun _ => 0))) := by rw [eM58]; exact gw_keep hf_q7 hf_mo (by decide)
      have hf_q13 : M58 q13 = some (103, .inl (G.2.1 0, 10240, .inl (fun _ => 0))) := by rw [eM58]; exact gw_keep hf_q13 hf_mo (by decide)
      have hf_q19 : M58 q19 = some (104, .inl (G.2.1 0, 41, .inl (fun _ => 0))) := by rw [eM58]; exact gw_keep hf_q19 hf_mo (by decide)
      have hf_q25 : M58 q25 = some (105, .inl (G.2.1 0, 41, .inl (fun _ => 0))) := by rw [eM58]; exact gw_keep hf_q25 hf_mo (by decide)
      have hf_q31 : M58 q31 = some (106, .inl (G.2.1 0, 4100, .inl (fun _ => 0))) := by rw [eM58]; exact gw_keep hf_q31 hf_mo (by decide)
      have hf_q37 : M58 q37 = some (107, .inl (G.2.1 0, 2048, .inl (fun _ => 0))) := by rw [eM58]; exact gw_keep hf_q37 hf_mo (by decide)
      have hf_mo : M58 mo = some (100, .inr (5, [.int 0, .int 1, .int 0, .int 0, .ref q1, .ref q7, .int 0, .ref q13, .ref q19, .ref q25, .ref q31, .int 0, .int 0, .ref q37, .int 0])) := by rw [eM58]; exact gw_up_self _ _ _ _
      rw [← eM58] at hF57
      exact gw_vret hx hb hr hlocks hS hW (Nat.le_of_ble_eq_true rfl) (Nat.le_of_ble_eq_true rfl) d_Mo_init_105 (⟨q1, q7, q13, q19, q25, q31, q37, 1, 0, hf_mo, hf_q1, hf_q7, hf_q13, hf_q19, hf_q25, hf_q31, hf_q37, (by decide), hF57⟩)
    · refine lv_iconst (v := 1) hx hb d_Mo_init_97 (by decide) ?_
      refine lv_goto (tgt := 102) hx hb d_Mo_init_98 (by decide) ?_
      refine gw_putF (ci := 5) (fs := [.int 0, .int 1, .int 0, .int 0, .ref q1, .ref q7, .int 0, .ref q13, .ref q19, .ref q25, .ref q31, .int 0, .int 0, .ref q37, .int 0]) (v := .int 1) (ty := .boolean) hx hb hts in_Mo t_Mo t_Mo_ok n_Mo hown hE.K hW hS hf_mo rfl 2 (by decide) (hts _ mw163) (fun _ h9 => h9) rfl hin rfl (by decide +kernel) rfl rfl (Nat.le_of_ble_eq_true rfl) d_Mo_init_102 (fun H locs hW hS => ?_)
      have hF59 : gw_fr (gw_out [100, 101, 102, 103, 104, 105, 106, 107]) M (gw_up M56 mo 100 (.inr (5, [.int 0, .int 1, .int 1, .int 0, .ref q1, .ref q7, .int 0, .ref q13, .ref q19, .ref q25, .ref q31, .int 0, .int 0, .ref q37, .int 0]))) := gw_fr.up hF55 hf_mo (show ¬ ((gw_out [100, 101, 102, 103, 104, 105, 106, 107]) 100) by decide) (show ¬ ((gw_out [100, 101, 102, 103, 104, 105, 106, 107]) 100) by decide)
      obtain ⟨M60, eM60⟩ : ∃ z, z = gw_up M56 mo 100 (.inr (5, [.int 0, .int 1, .int 1, .int 0, .ref q1, .ref q7, .int 0, .ref q13, .ref q19, .ref q25, .ref q31, .int 0, .int 0, .ref q37, .int 0])) := ⟨_, rfl⟩
      replace hW : gw_P G.1 vwCl G.2.2.2 M60 H := by rw [eM60]; exact hW
      have hf_q1 : M60 q1 = some (101, .inl (G.2.1 0, 10000, .inl (fun _ => 0))) := by rw [eM60]; exact gw_keep hf_q1 hf_mo (by decide)
      have hf_q7 : M60 q7 = some (102, .inl (G.2.1 0, 300, .inl (fun _ => 0))) := by rw [eM60]; exact gw_keep hf_q7 hf_mo (by decide)
      have hf_q13 : M60 q13 = some (103, .inl (G.2.1 0, 10240, .inl (fun _ => 0))) := by rw [eM60]; exact gw_keep hf_q13 hf_mo (by decide)
      have hf_q19 : M60 q19 = some (104, .inl (G.2.1 0, 41, .inl (fun _ => 0))) := by rw [eM60]; exact gw_keep hf_q19 hf_mo (by decide)
      have hf_q25 : M60 q25 = some (105, .inl (G.2.1 0, 41, .inl (fun _ => 0))) := by rw [eM60]; exact gw_keep hf_q25 hf_mo (by decide)
      have hf_q31 : M60 q31 = some (106, .inl (G.2.1 0, 4100, .inl (fun _ => 0))) := by rw [eM60]; exact gw_keep hf_q31 hf_mo (by decide)
      have hf_q37 : M60 q37 = some (107, .inl (G.2.1 0, 2048, .inl (fun _ => 0))) := by rw [eM60]; exact gw_keep hf_q37 hf_mo (by decide)
      have hf_mo : M60 mo = some (100, .inr (5, [.int 0, .int 1, .int 1, .int 0, .ref q1, .ref q7, .int 0, .ref q13, .ref q19, .ref q25, .ref q31, .int 0, .int 0, .ref q37, .int 0])) := by rw [eM60]; exact gw_up_self _ _ _ _
      rw [← eM60] at hF59
      exact gw_vret hx hb hr hlocks hS hW (Nat.le_of_ble_eq_true rfl) (Nat.le_of_ble_eq_true rfl) d_Mo_init_105 (⟨q1, q7, q13, q19, q25, q31, q37, 1, 1, hf_mo, hf_q1, hf_q7, hf_q13, hf_q19, hf_q25, hf_q31, hf_q37, (by decide), hF59⟩)

set_option maxHeartbeats 4000000 in
set_option maxRecDepth 100000 in
theorem m_thrown (l : Launch) (G : gw_G) (M : gw_M) (mo : Nat) (there : Nat) (mrow : Nat) (found : Nat) (fsz : Nat) (ends : Nat) (made : Nat) (drops : Nat) (cd : Int32) (lm : Int32) (sm : Int32) (hf_mo : M mo = some (100, .inr (5, [.int cd, .int lm, .int sm, .int 0, .ref there, .ref mrow, .int 0, .ref found, .ref fsz, .ref ends, .ref made, .int 0, .int 0, .ref drops, .int 0]))) : Met l y_Mo_thrown [.code y_Mo_thrown b_Mo_thrown 1 (some .int)] ({ frames := 0, cells := 0, slots := 0, locals := 0 }) (gw_Pc G M [.ref mo]) (gw_Qi G (fun r M2 => cd = r ∧ M = M2)) 0 0 (gw_A G) := by
  refine gw_start (by decide) (Nat.le_of_ble_eq_true rfl) (fun p9 e9 s m b9 mt9 c9 hx hb hr hml hown hlocks hin hE hB hW ls hl => ?_)
  have hts := hE.ts ([.ref mo] : List Value).toArray
  have hl : lv_has ls 1 [(0, .ref mo)] := hl
  have hS : va_S (gw_A G) s.heap s.heap [] := va_S.rf
  have hown : s.vm.findClass "GenerationsModel" = some m.cls := hown
  refine lv_aload_n hx hb d_Mo_thrown_0 rfl (lv_at hl 0 rfl) ?_
  refine gw_get (ci := 5) (fs := [.int cd, .int lm, .int sm, .int 0, .ref there, .ref mrow, .int 0, .ref found, .ref fsz, .ref ends, .ref made, .int 0, .int 0, .ref drops, .int 0]) hx hb hts in_Mo hown hE.K hW hf_mo rfl 0 (by decide) (hts _ mw164) (fun _ h9 => h9) rfl d_Mo_thrown_1 ?_
  exact gw_iret hx hb hr hlocks hS hW (Nat.le_of_ble_eq_true rfl) (Nat.le_of_ble_eq_true rfl) d_Mo_thrown_4 (⟨rfl, rfl⟩)

set_option maxHeartbeats 4000000 in
set_option maxRecDepth 100000 in
theorem m_isNumber (l : Launch) (G : gw_G) (M : gw_M) (k : Int32) : Met l y_Mo_isNumber [.code y_Mo_isNumber b_Mo_isNumber 1 (some .boolean)] ({ frames := 0, cells := 0, slots := 0, locals := 0 }) (gw_Pc G M [.int k]) (gw_Qi G (fun r M2 => gx_num k = r ∧ M = M2)) 0 0 (gw_A G) := by
  refine gw_start (by decide) (Nat.le_of_ble_eq_true rfl) (fun p9 e9 s m b9 mt9 c9 hx hb hr hml hown hlocks hin hE hB hW ls hl => ?_)
  have hts := hE.ts ([.int k] : List Value).toArray
  have hl : lv_has ls 1 [(0, .int k)] := hl
  have hS : va_S (gw_A G) s.heap s.heap [] := va_S.rf
  have hown : s.vm.findClass "GenerationsModel" = some m.cls := hown
  refine lv_iload_n hx hb d_Mo_isNumber_0 rfl (lv_at hl 0 rfl) ?_
  refine lv_if_le (tgt := 15) hx hb d_Mo_isNumber_1 (by decide) (fun c1 => ?_) (fun c1 => ?_)
  · refine lv_iconst (v := 0) hx hb d_Mo_isNumber_15 (by decide) ?_
    exact gw_zret hx hb hr hlocks rfl hS hW (Nat.le_of_ble_eq_true rfl) (Nat.le_of_ble_eq_true rfl) d_Mo_isNumber_16 (⟨(gm_num0 c1), rfl⟩)
  · refine lv_iload_n hx hb d_Mo_isNumber_4 rfl (lv_at hl 0 rfl) ?_
    refine lv_sipush (v := 9999) hx hb d_Mo_isNumber_5 (by decide) ?_
    refine lv_icmp_gt (tgt := 15) hx hb d_Mo_isNumber_8 (by decide) (fun c8 => ?_) (fun c8 => ?_)
    · refine lv_iconst (v := 0) hx hb d_Mo_isNumber_15 (by decide) ?_
      exact gw_zret hx hb hr hlocks rfl hS hW (Nat.le_of_ble_eq_true rfl) (Nat.le_of_ble_eq_true rfl) d_Mo_isNumber_16 (⟨(gx_num0' c8), rfl⟩)
    · refine lv_iconst (v := 1) hx hb d_Mo_isNumber_11 (by decide) ?_
      refine lv_goto (tgt := 16) hx hb d_Mo_isNumber_12 (by decide) ?_
      exact gw_zret hx hb hr hlocks rfl hS hW (Nat.le_of_ble_eq_true rfl) (Nat.le_of_ble_eq_true rfl) d_Mo_isNumber_16 (⟨(gm_num1 c1 c8), rfl⟩)

set_option maxHeartbeats 4000000 in
set_option maxRecDepth 100000 in
theorem m_what (l : Launch) (G : gw_G) (M : gw_M) (mo : Nat) (there : Nat) (mrow : Nat) (found : Nat) (fsz : Nat) (ends : Nat) (made : Nat) (drops : Nat) (cd : Int32) (lm : Int32) (sm : Int32) (k : Int32) (hf_mo : M mo = some (100, .inr (5, [.int cd, .int lm, .int sm, .int 0, .ref there, .ref mrow, .int 0, .ref found, .ref fsz, .ref ends, .ref made, .int 0, .int 0, .ref drops, .int 0]))) (hf_there : M there = some (101, .inl (G.2.1 0, 10000, .inl (fun _ => 0)))) (hin9 : vp_in k 10000) : Met l y_Mo_what [.code y_Mo_what b_Mo_what 2 (some .int)] ({ frames := 0, cells := 0, slots := 0, locals := 0 }) (gw_Pc G M [.ref mo, .int k]) (gw_Qi G (fun r M2 => 0 = r ∧ M = M2)) 0 0 (gw_A G) := by
  refine gw_start (by decide) (Nat.le_of_ble_eq_true rfl) (fun p9 e9 s m b9 mt9 c9 hx hb hr hml hown hlocks hin hE hB hW ls hl => ?_)
  have hts := hE.ts ([.ref mo, .int k] : List Value).toArray
  have hl : lv_has ls 2 [(0, .ref mo), (1, .int k)] := hl
  have hS : va_S (gw_A G) s.heap s.heap [] := va_S.rf
  have hown : s.vm.findClass "GenerationsModel" = some m.cls := hown
  refine lv_aload_n hx hb d_Mo_what_0 rfl (lv_at hl 0 rfl) ?_
  refine gw_get (ci := 5) (fs := [.int cd, .int lm, .int sm, .int 0, .ref there, .ref mrow, .int 0, .ref found, .ref fsz, .ref ends, .ref made, .int 0, .int 0, .ref drops, .int 0]) hx hb hts in_Mo hown hE.K hW hf_mo rfl 4 (by decide) (hts _ mw155) (fun _ h9 => h9) rfl d_Mo_what_1 ?_
  refine lv_iload_n hx hb d_Mo_what_4 rfl (lv_at hl 1 rfl) ?_
  refine gw_iald (i := k) hx hb hE.K hW 0 hf_there rfl hin9 d_Mo_what_5 ?_
  refine lv_bipush (v := 7) hx hb d_Mo_what_6 (by decide) ?_
  refine lv_iand hx hb d_Mo_what_8 ?_
  exact gw_iret hx hb hr hlocks hS hW (Nat.le_of_ble_eq_true rfl) (Nat.le_of_ble_eq_true rfl) d_Mo_what_9 (⟨(show (0 : Int32) = 0 &&& 7 by decide), rfl⟩)

set_option maxHeartbeats 4000000 in
set_option maxRecDepth 100000 in
theorem m_owner (l : Launch) (G : gw_G) (M : gw_M) (mo : Nat) (there : Nat) (mrow : Nat) (found : Nat) (fsz : Nat) (ends : Nat) (made : Nat) (drops : Nat) (cd : Int32) (lm : Int32) (sm : Int32) (k : Int32) (hf_mo : M mo = some (100, .inr (5, [.int cd, .int lm, .int sm, .int 0, .ref there, .ref mrow, .int 0, .ref found, .ref fsz, .ref ends, .ref made, .int 0, .int 0, .ref drops, .int 0]))) (hf_there : M there = some (101, .inl (G.2.1 0, 10000, .inl (fun _ => 0)))) (hin9 : vp_in k 10000) : Met l y_Mo_owner [.code y_Mo_owner b_Mo_owner 2 (some .int)] ({ frames := 0, cells := 0, slots := 0, locals := 0 }) (gw_Pc G M [.ref mo, .int k]) (gw_Qi G (fun r M2 => 0 = r ∧ M = M2)) 0 0 (gw_A G) := by
  refine gw_start (by decide) (Nat.le_of_ble_eq_true rfl) (fun p9 e9 s m b9 mt9 c9 hx hb hr hml hown hlocks hin hE hB hW ls hl => ?_)
  have hts := hE.ts ([.ref mo, .int k] : List Value).toArray
  have hl : lv_has ls 2 [(0, .ref mo), (1, .int k)] := hl
  have hS : va_S (gw_A G) s.heap s.heap [] := va_S.rf
  have hown : s.vm.findClass "GenerationsModel" = some m.cls := hown
  refine lv_aload_n hx hb d_Mo_owner_0 rfl (lv_at hl 0 rfl) ?_
  refine gw_get (ci := 5) (fs := [.int cd, .int lm, .int sm, .int 0, .ref there, .ref mrow, .int 0, .ref found, .ref fsz, .ref ends, .ref made, .int 0, .int 0, .ref drops, .int 0]) hx hb hts in_Mo hown hE.K hW hf_mo rfl 4 (by decide) (hts _ mw155) (fun _ h9 => h9) rfl d_Mo_owner_1 ?_
  refine lv_iload_n hx hb d_Mo_owner_4 rfl (lv_at hl 1 rfl) ?_
  refine gw_iald (i := k) hx hb hE.K hW 0 hf_there rfl hin9 d_Mo_owner_5 ?_
  refine lv_iconst (v := 3) hx hb d_Mo_owner_6 (by decide) ?_
  refine lv_ishr hx hb d_Mo_owner_7 ?_
  refine lv_bipush (v := 63) hx hb d_Mo_owner_8 (by decide) ?_
  refine lv_iand hx hb d_Mo_owner_10 ?_
  exact gw_iret hx hb hr hlocks hS hW (Nat.le_of_ble_eq_true rfl) (Nat.le_of_ble_eq_true rfl) d_Mo_owner_11 (⟨(show (0 : Int32) = (0 : Int32) >>> ((3 : Int32) &&& 31) &&& 63 by decide), rfl⟩)

set_option maxHeartbeats 4000000 in
set_option maxRecDepth 100000 in
theorem m_versionOf (l : Launch) (G : gw_G) (M : gw_M) (mo : Nat) (there : Nat) (mrow : Nat) (found : Nat) (fsz : Nat) (ends : Nat) (made : Nat) (drops : Nat) (cd : Int32) (lm : Int32) (sm : Int32) (k : Int32) (hf_mo : M mo = some (100, .inr (5, [.int cd, .int lm, .int sm, .int 0, .ref there, .ref mrow, .int 0, .ref found, .ref fsz, .ref ends, .ref made, .int 0, .int 0, .ref drops, .int 0]))) (hf_there : M there = some (101, .inl (G.2.1 0, 10000, .inl (fun _ => 0)))) (hin9 : vp_in k 10000) : Met l y_Mo_versionOf [.code y_Mo_versionOf b_Mo_versionOf 2 (some .int)] ({ frames := 0, cells := 0, slots := 0, locals := 0 }) (gw_Pc G M [.ref mo, .int k]) (gw_Qi G (fun r M2 => 0 = r ∧ M = M2)) 0 0 (gw_A G) := by
  refine gw_start (by decide) (Nat.le_of_ble_eq_true rfl) (fun p9 e9 s m b9 mt9 c9 hx hb hr hml hown hlocks hin hE hB hW ls hl => ?_)
  have hts := hE.ts ([.ref mo, .int k] : List Value).toArray
  have hl : lv_has ls 2 [(0, .ref mo), (1, .int k)] := hl
  have hS : va_S (gw_A G) s.heap s.heap [] := va_S.rf
  have hown : s.vm.findClass "GenerationsModel" = some m.cls := hown
  refine lv_aload_n hx hb d_Mo_versionOf_0 rfl (lv_at hl 0 rfl) ?_
  refine gw_get (ci := 5) (fs := [.int cd, .int lm, .int sm, .int 0, .ref there, .ref mrow, .int 0, .ref found, .ref fsz, .ref ends, .ref made, .int 0, .int 0, .ref drops, .int 0]) hx hb hts in_Mo hown hE.K hW hf_mo rfl 4 (by decide) (hts _ mw155) (fun _ h9 => h9) rfl d_Mo_versionOf_1 ?_
  refine lv_iload_n hx hb d_Mo_versionOf_4 rfl (lv_at hl 1 rfl) ?_
  refine gw_iald (i := k) hx hb hE.K hW 0 hf_there rfl hin9 d_Mo_versionOf_5 ?_
  refine lv_bipush (v := 9) hx hb d_Mo_versionOf_6 (by decide) ?_
  refine lv_ishr hx hb d_Mo_versionOf_8 ?_
  exact gw_iret hx hb hr hlocks hS hW (Nat.le_of_ble_eq_true rfl) (Nat.le_of_ble_eq_true rfl) d_Mo_versionOf_9 (⟨(show (0 : Int32) = (0 : Int32) >>> ((9 : Int32) &&& 31) by decide), rfl⟩)

set_option maxHeartbeats 4000000 in
set_option maxRecDepth 100000 in
theorem m_owner1 (l : Launch) (G : gw_G) (M : gw_M) (mo : Nat) (there : Nat) (mrow : Nat) (found : Nat) (fsz : Nat) (ends : Nat) (made : Nat) (drops : Nat) (cd : Int32) (lm : Int32) (sm : Int32) (k : Int32) (hf_mo : M mo = some (100, .inr (5, [.int cd, .int lm, .int sm, .int 0, .ref there, .ref mrow, .int (0 + 1), .ref found, .ref fsz, .ref ends, .ref made, .int 0, .int 0, .ref drops, .int 0]))) (hf_there : M there = some (101, .inl (G.2.1 0, 10000, .inl (fun _ => 0)))) (hin9 : vp_in k 10000) : Met l y_Mo_owner [.code y_Mo_owner b_Mo_owner 2 (some .int)] ({ frames := 0, cells := 0, slots := 0, locals := 0 }) (gw_Pc G M [.ref mo, .int k]) (gw_Qi G (fun r M2 => 0 = r ∧ M = M2)) 0 0 (gw_A G) := by
  refine gw_start (by decide) (Nat.le_of_ble_eq_true rfl) (fun p9 e9 s m b9 mt9 c9 hx hb hr hml hown hlocks hin hE hB hW ls hl => ?_)
  have hts := hE.ts ([.ref mo, .int k] : List Value).toArray
  have hl : lv_has ls 2 [(0, .ref mo), (1, .int k)] := hl
  have hS : va_S (gw_A G) s.heap s.heap [] := va_S.rf
  have hown : s.vm.findClass "GenerationsModel" = some m.cls := hown
  refine lv_aload_n hx hb d_Mo_owner_0 rfl (lv_at hl 0 rfl) ?_
  refine gw_get (ci := 5) (fs := [.int cd, .int lm, .int sm, .int 0, .ref there, .ref mrow, .int (0 + 1), .ref found, .ref fsz, .ref ends, .ref made, .int 0, .int 0, .ref drops, .int 0]) hx hb hts in_Mo hown hE.K hW hf_mo rfl 4 (by decide) (hts _ mw155) (fun _ h9 => h9) rfl d_Mo_owner_1 ?_
  refine lv_iload_n hx hb d_Mo_owner_4 rfl (lv_at hl 1 rfl) ?_
  refine gw_iald (i := k) hx hb hE.K hW 0 hf_there rfl hin9 d_Mo_owner_5 ?_
  refine lv_iconst (v := 3) hx hb d_Mo_owner_6 (by decide) ?_
  refine lv_ishr hx hb d_Mo_owner_7 ?_
  refine lv_bipush (v := 63) hx hb d_Mo_owner_8 (by decide) ?_
  refine lv_iand hx hb d_Mo_owner_10 ?_
  exact gw_iret hx hb hr hlocks hS hW (Nat.le_of_ble_eq_true rfl) (Nat.le_of_ble_eq_true rfl) d_Mo_owner_11 (⟨(show (0 : Int32) = (0 : Int32) >>> ((3 : Int32) &&& 31) &&& 63 by decide), rfl⟩)

set_option maxHeartbeats 4000000 in
set_option maxRecDepth 100000 in
theorem m_versionOf1 (l : Launch) (G : gw_G) (M : gw_M) (mo : Nat) (there : Nat) (mrow : Nat) (found : Nat) (fsz : Nat) (ends : Nat) (made : Nat) (drops : Nat) (cd : Int32) (lm : Int32) (sm : Int32) (k : Int32) (hf_mo : M mo = some (100, .inr (5, [.int cd, .int lm, .int sm, .int 0, .ref there, .ref mrow, .int (0 + 1), .ref found, .ref fsz, .ref ends, .ref made, .int 0, .int 0, .ref drops, .int 0]))) (hf_there : M there = some (101, .inl (G.2.1 0, 10000, .inl (fun _ => 0)))) (hin9 : vp_in k 10000) : Met l y_Mo_versionOf [.code y_Mo_versionOf b_Mo_versionOf 2 (some .int)] ({ frames := 0, cells := 0, slots := 0, locals := 0 }) (gw_Pc G M [.ref mo, .int k]) (gw_Qi G (fun r M2 => 0 = r ∧ M = M2)) 0 0 (gw_A G) := by
  refine gw_start (by decide) (Nat.le_of_ble_eq_true rfl) (fun p9 e9 s m b9 mt9 c9 hx hb hr hml hown hlocks hin hE hB hW ls hl => ?_)
  have hts := hE.ts ([.ref mo, .int k] : List Value).toArray
  have hl : lv_has ls 2 [(0, .ref mo), (1, .int k)] := hl
  have hS : va_S (gw_A G) s.heap s.heap [] := va_S.rf
  have hown : s.vm.findClass "GenerationsModel" = some m.cls := hown
  refine lv_aload_n hx hb d_Mo_versionOf_0 rfl (lv_at hl 0 rfl) ?_
  refine gw_get (ci := 5) (fs := [.int cd, .int lm, .int sm, .int 0, .ref there, .ref mrow, .int (0 + 1), .ref found, .ref fsz, .ref ends, .ref made, .int 0, .int 0, .ref drops, .int 0]) hx hb hts in_Mo hown hE.K hW hf_mo rfl 4 (by decide) (hts _ mw155) (fun _ h9 => h9) rfl d_Mo_versionOf_1 ?_
  refine lv_iload_n hx hb d_Mo_versionOf_4 rfl (lv_at hl 1 rfl) ?_
  refine gw_iald (i := k) hx hb hE.K hW 0 hf_there rfl hin9 d_Mo_versionOf_5 ?_
  refine lv_bipush (v := 9) hx hb d_Mo_versionOf_6 (by decide) ?_
  refine lv_ishr hx hb d_Mo_versionOf_8 ?_
  exact gw_iret hx hb hr hlocks hS hW (Nat.le_of_ble_eq_true rfl) (Nat.le_of_ble_eq_true rfl) d_Mo_versionOf_9 (⟨(show (0 : Int32) = (0 : Int32) >>> ((9 : Int32) &&& 31) by decide), rfl⟩)

set_option maxHeartbeats 4000000 in
set_option maxRecDepth 100000 in
theorem m_be (l : Launch) (G : gw_G) (M : gw_M) (mo : Nat) (there : Nat) (mrow : Nat) (found : Nat) (fsz : Nat) (ends : Nat) (made : Nat) (drops : Nat) (cd : Int32) (lm : Int32) (sm : Int32) (k : Int32) (ps : Int32) (po : Int32) (pv : Int32) (t0 : Nat → Int32) (hf_mo : M mo = some (100, .inr (5, [.int cd, .int lm, .int sm, .int 0, .ref there, .ref mrow, .int (0 + 1), .ref found, .ref fsz, .ref ends, .ref made, .int 0, .int 0, .ref drops, .int 0]))) (hf_there : M there = some (101, .inl (G.2.1 0, 10000, .inl t0))) (hin9 : vp_in k 10000) : Met l y_Mo_be [.code y_Mo_be b_Mo_be 5 none] ({ frames := 0, cells := 0, slots := 0, locals := 0 }) (gw_Pc G M [.ref mo, .int k, .int ps, .int po, .int pv]) (gw_Qv G (fun M2 => ∃ (tf : Nat → Int32), M2 there = some (101, .inl (G.2.1 0, 10000, .inl tf)) ∧ gw_fr (gw_out [101]) M M2)) 0 0 (gw_A G) := by
  refine gw_start (by decide) (Nat.le_of_ble_eq_true rfl) (fun p9 e9 s m b9 mt9 c9 hx hb hr hml hown hlocks hin hE hB hW ls hl => ?_)
  have hts := hE.ts ([.ref mo, .int k, .int ps, .int po, .int pv] : List Value).toArray
  have hl : lv_has ls 5 [(0, .ref mo), (1, .int k), (2, .int ps), (3, .int po), (4, .int pv)] := hl
  have hS : va_S (gw_A G) s.heap s.heap [] := va_S.rf
  have hown : s.vm.findClass "GenerationsModel" = some m.cls := hown
  refine lv_aload_n hx hb d_Mo_be_0 rfl (lv_at hl 0 rfl) ?_
  refine gw_get (ci := 5) (fs := [.int cd, .int lm, .int sm, .int 0, .ref there, .ref mrow, .int (0 + 1), .ref found, .ref fsz, .ref ends, .ref made, .int 0, .int 0, .ref drops, .int 0]) hx hb hts in_Mo hown hE.K hW hf_mo rfl 4 (by decide) (hts _ mw155) (fun _ h9 => h9) rfl d_Mo_be_1 ?_
  refine lv_iload_n hx hb d_Mo_be_4 rfl (lv_at hl 1 rfl) ?_
  refine lv_iload_n hx hb d_Mo_be_5 rfl (lv_at hl 2 rfl) ?_
  refine lv_iload_n hx hb d_Mo_be_6 rfl (lv_at hl 3 rfl) ?_
  refine lv_iconst (v := 3) hx hb d_Mo_be_7 (by decide) ?_
  refine lv_ishl hx hb d_Mo_be_8 ?_
  refine lv_ior hx hb d_Mo_be_9 ?_
  refine lv_iload hx hb d_Mo_be_10 (lv_at hl 4 rfl) ?_
  refine lv_bipush (v := 9) hx hb d_Mo_be_12 (by decide) ?_
  refine lv_ishl hx hb d_Mo_be_14 ?_
  refine lv_ior hx hb d_Mo_be_15 ?_
  refine gw_iast (i := k) (x := (ps ||| (po <<< (3 &&& 31))) ||| (pv <<< (9 &&& 31))) hx hb hE.K hW hS 0 hf_there rfl hin9 d_Mo_be_16 (fun H locs hW hS => ?_)
  have hF1 : gw_fr (gw_out [101]) M (gw_up M there 101 (.inl (G.2.1 0, 10000, .inl (upd t0 (k : Int32).toNatClampNeg ((ps ||| (po <<< (3 &&& 31))) ||| (pv <<< (9 &&& 31))))))) := gw_fr.up gw_fr.rf hf_there (show ¬ ((gw_out [101]) 101) by decide) (show ¬ ((gw_out [101]) 101) by decide)
  obtain ⟨M2, eM2⟩ : ∃ z, z = gw_up M there 101 (.inl (G.2.1 0, 10000, .inl (upd t0 (k : Int32).toNatClampNeg ((ps ||| (po <<< (3 &&& 31))) ||| (pv <<< (9 &&& 31)))))) := ⟨_, rfl⟩
  replace hW : gw_P G.1 vwCl G.2.2.2 M2 H := by rw [eM2]; exact hW
  have hf_mo : M2 mo = some (100, .inr (5, [.int cd, .int lm, .int sm, .int 0, .ref there, .ref mrow, .int (0 + 1), .ref found, .ref fsz, .ref ends, .ref made, .int 0, .int 0, .ref drops, .int 0])) := by rw [eM2]; exact gw_keep hf_mo hf_there (by decide)
  have hf_there : M2 there = some (101, .inl (G.2.1 0, 10000, .inl (upd t0 (k : Int32).toNatClampNeg ((ps ||| (po <<< (3 &&& 31))) ||| (pv <<< (9 &&& 31)))))) := by rw [eM2]; exact gw_up_self _ _ _ _
  rw [← eM2] at hF1
  exact gw_vret hx hb hr hlocks hS hW (Nat.le_of_ble_eq_true rfl) (Nat.le_of_ble_eq_true rfl) d_Mo_be_17 (⟨upd t0 (k : Int32).toNatClampNeg ((ps ||| (po <<< (3 &&& 31))) ||| (pv <<< (9 &&& 31))), hf_there, hF1⟩)

set_option maxHeartbeats 4000000 in
set_option maxRecDepth 100000 in
theorem m_become (l : Launch) (G : gw_G) (M : gw_M) (mo : Nat) (there : Nat) (mrow : Nat) (found : Nat) (fsz : Nat) (ends : Nat) (made : Nat) (drops : Nat) (cd : Int32) (lm : Int32) (sm : Int32) (k : Int32) (ps : Int32) (hf_mo : M mo = some (100, .inr (5, [.int cd, .int lm, .int sm, .int 0, .ref there, .ref mrow, .int (0 + 1), .ref found, .ref fsz, .ref ends, .ref made, .int 0, .int 0, .ref drops, .int 0]))) (hf_there : M there = some (101, .inl (G.2.1 0, 10000, .inl (fun _ => 0)))) (hin9 : vp_in k 10000) : Met l y_Mo_become [.code y_Mo_become b_Mo_become 3 none] ({ frames := 1, cells := 0, slots := 0, locals := 24 }) (gw_Pc G M [.ref mo, .int k, .int ps]) (gw_Qv G (fun M2 => ∃ (tf : Nat → Int32), M2 there = some (101, .inl (G.2.1 0, 10000, .inl tf)) ∧ gw_fr (gw_out [101]) M M2)) 0 0 (gw_A G) := by
  refine gw_start (by decide) (Nat.le_of_ble_eq_true rfl) (fun p9 e9 s m b9 mt9 c9 hx hb hr hml hown hlocks hin hE hB hW ls hl => ?_)
  have hts := hE.ts ([.ref mo, .int k, .int ps] : List Value).toArray
  have hl : lv_has ls 3 [(0, .ref mo), (1, .int k), (2, .int ps)] := hl
  have hS : va_S (gw_A G) s.heap s.heap [] := va_S.rf
  have hown : s.vm.findClass "GenerationsModel" = some m.cls := hown
  refine lv_aload_n hx hb d_Mo_become_0 rfl (lv_at hl 0 rfl) ?_
  refine lv_iload_n hx hb d_Mo_become_1 rfl (lv_at hl 1 rfl) ?_
  refine lv_iload_n hx hb d_Mo_become_2 rfl (lv_at hl 2 rfl) ?_
  refine lv_aload_n hx hb d_Mo_become_3 rfl (lv_at hl 0 rfl) ?_
  refine lv_iload_n hx hb d_Mo_become_4 rfl (lv_at hl 1 rfl) ?_
  refine gw_calli hS (va_runV (As := [.int k]) (rest := [.int ps, .int k, .ref mo]) ⟨hx, hb, hml, hown, hts⟩ (m_owner1 l G M mo there mrow found fsz ends made drops cd lm sm k hf_mo hf_there (by assumption)) (cwV 1 hts (gw_gv mw166 mw167 mw168 mw169 mw165) rfl rfl rfl (by decide +kernel) ⟨Nat.le_of_ble_eq_true rfl, Nat.le_of_ble_eq_true rfl⟩) (gw_pv hE hB hS hW rfl hf_mo) rfl rfl hl.1 rfl (lv_room (Nat.le_of_ble_eq_true rfl)) d_Mo_become_5 ⟨Nat.le_of_ble_eq_true rfl, Nat.le_of_ble_eq_true rfl⟩) (fun r1 M2 H locs hw3 hW hS => ?_)
  obtain ⟨rfl, rfl⟩ := hw3
  refine lv_aload_n hx hb d_Mo_become_8 rfl (lv_at hl 0 rfl) ?_
  refine lv_iload_n hx hb d_Mo_become_9 rfl (lv_at hl 1 rfl) ?_
  refine gw_calli hS (va_runV (As := [.int k]) (rest := [.int 0, .int ps, .int k, .ref mo]) ⟨hx, hb, hml, hown, hts⟩ (m_versionOf1 l G M mo there mrow found fsz ends made drops cd lm sm k hf_mo hf_there (by assumption)) (cwV 1 hts (gw_gv mw171 mw172 mw173 mw169 mw170) rfl rfl rfl (by decide +kernel) ⟨Nat.le_of_ble_eq_true rfl, Nat.le_of_ble_eq_true rfl⟩) (gw_pv hE hB hS hW rfl hf_mo) rfl rfl hl.1 rfl (lv_room (Nat.le_of_ble_eq_true rfl)) d_Mo_become_10 ⟨Nat.le_of_ble_eq_true rfl, Nat.le_of_ble_eq_true rfl⟩) (fun r4 M5 H locs hw6 hW hS => ?_)
  obtain ⟨rfl, rfl⟩ := hw6
  refine gw_callv hS (va_runV (As := [.int k, .int ps, .int 0, .int 0]) (rest := []) ⟨hx, hb, hml, hown, hts⟩ (m_be l G M mo there mrow found fsz ends made drops cd lm sm k ps 0 0 (fun _ => 0) hf_mo hf_there (by assumption)) (cwV 4 hts (gw_gv mw175 mw176 mw177 mw169 mw174) rfl rfl rfl (by decide +kernel) ⟨Nat.le_of_ble_eq_true rfl, Nat.le_of_ble_eq_true rfl⟩) (gw_pv hE hB hS hW rfl hf_mo) rfl rfl hl.1 rfl (lv_room (Nat.le_of_ble_eq_true rfl)) d_Mo_become_13 ⟨Nat.le_of_ble_eq_true rfl, Nat.le_of_ble_eq_true rfl⟩) (fun M8 H locs hw9 hW hS => ?_)
  obtain ⟨tf10, hf_there', hfr11⟩ := hw9
  have hf_mo : M8 mo = some (100, .inr (5, [.int cd, .int lm, .int sm, .int 0, .ref there, .ref mrow, .int (0 + 1), .ref found, .ref fsz, .ref ends, .ref made, .int 0, .int 0, .ref drops, .int 0])) := (hfr11 _ _ _ (by decide)).mp hf_mo
  have hf_there : M8 there = some (101, .inl (G.2.1 0, 10000, .inl tf10)) := hf_there'
  have hF12 : gw_fr (gw_out [101]) M M8 := gw_fr.tr gw_fr.rf (gw_fr.wk hfr11 (by decide))
  exact gw_vret hx hb hr hlocks hS hW (Nat.le_of_ble_eq_true rfl) (Nat.le_of_ble_eq_true rfl) d_Mo_become_16 (⟨tf10, hf_there, hF12⟩)

set_option maxHeartbeats 4000000 in
set_option maxRecDepth 100000 in
theorem m_enter (l : Launch) (G : gw_G) (M : gw_M) (mo : Nat) (there : Nat) (mrow : Nat) (found : Nat) (fsz : Nat) (ends : Nat) (made : Nat) (drops : Nat) (cd : Int32) (lm : Int32) (sm : Int32) (k : Int32) (hf_mo : M mo = some (100, .inr (5, [.int cd, .int lm, .int sm, .int 0, .ref there, .ref mrow, .int 0, .ref found, .ref fsz, .ref ends, .ref made, .int 0, .int 0, .ref drops, .int 0]))) (hf_there : M there = some (101, .inl (G.2.1 0, 10000, .inl (fun _ => 0)))) (hf_mrow : M mrow = some (102, .inl (G.2.1 0, 300, .inl (fun _ => 0)))) (hin9 : vp_in k 10000) (hlm : ¬ lm < 0 + 1) : Met l y_Mo_enter [.code y_Mo_enter b_Mo_enter 6 none] ({ frames := 2, cells := 0, slots := 0, locals := 46 }) (gw_Pc G M [.ref mo, .int k]) (gw_Qv G (fun M2 => M2 mo = some (100, .inr (5, [.int cd, .int lm, .int sm, .int 0, .ref there, .ref mrow, .int (0 + 1), .ref found, .ref fsz, .ref ends, .ref made, .int 0, .int 0, .ref drops, .int 0])) ∧ gw_fr (gw_out [100, 101, 102]) M M2)) 0 0 (gw_A G) := by
  refine gw_start (by decide) (Nat.le_of_ble_eq_true rfl) (fun p9 e9 s m b9 mt9 c9 hx hb hr hml hown hlocks hin hE hB hW ls hl => ?_)
  have hts := hE.ts ([.ref mo, .int k] : List Value).toArray
  have hl : lv_has ls 6 [(0, .ref mo), (1, .int k)] := hl
  have hS : va_S (gw_A G) s.heap s.heap [] := va_S.rf
  have hown : s.vm.findClass "GenerationsModel" = some m.cls := hown
  refine lv_iconst (v := 0) hx hb d_Mo_enter_0 (by decide) ?_
  refine lv_istore_n (lv' := [(2, .int 0), (0, .ref mo), (1, .int k)]) hx hb d_Mo_enter_1 rfl hl (by decide) rfl (fun ls hl => ?_)
  refine lv_iconst (v := 0) hx hb d_Mo_enter_2 (by decide) ?_
  refine lv_istore_n (lv' := [(3, .int 0), (2, .int 0), (0, .ref mo), (1, .int k)]) hx hb d_Mo_enter_3 rfl hl (by decide) rfl (fun ls hl => ?_)
  refine lv_iload_n hx hb d_Mo_enter_4 rfl (lv_at hl 0 rfl) ?_
  refine lv_aload_n hx hb d_Mo_enter_5 rfl (lv_at hl 2 rfl) ?_
  refine gw_get (ci := 5) (fs := [.int cd, .int lm, .int sm, .int 0, .ref there, .ref mrow, .int 0, .ref found, .ref fsz, .ref ends, .ref made, .int 0, .int 0, .ref drops, .int 0]) hx hb hts in_Mo hown hE.K hW hf_mo rfl 6 (by decide) (hts _ mw178) (fun _ h9 => h9) rfl d_Mo_enter_6 ?_
  refine lv_icmp_ge (tgt := 39) hx hb d_Mo_enter_9 (by decide) (fun c9 => ?_) (fun c9 => ?_)
  · refine lv_aload_n hx hb d_Mo_enter_39 rfl (lv_at hl 2 rfl) ?_
    refine gw_get (ci := 5) (fs := [.int cd, .int lm, .int sm, .int 0, .ref there, .ref mrow, .int 0, .ref found, .ref fsz, .ref ends, .ref made, .int 0, .int 0, .ref drops, .int 0]) hx hb hts in_Mo hown hE.K hW hf_mo rfl 6 (by decide) (hts _ mw178) (fun _ h9 => h9) rfl d_Mo_enter_40 ?_
    refine lv_istore_n (lv' := [(3, .int 0), (2, .int 0), (0, .ref mo), (1, .int k)]) hx hb d_Mo_enter_43 rfl hl (by decide) rfl (fun ls hl => ?_)
    refine lv_iload_n hx hb d_Mo_enter_44 rfl (lv_at hl 0 rfl) ?_
    refine lv_iload_n hx hb d_Mo_enter_45 rfl (lv_at hl 1 rfl) ?_
    refine lv_icmp_le (tgt := 69) hx hb d_Mo_enter_46 (by decide) (fun c46 => ?_) (fun c46 => ?_)
    · refine lv_aload_n hx hb d_Mo_enter_69 rfl (lv_at hl 2 rfl) ?_
      refine gw_get (ci := 5) (fs := [.int cd, .int lm, .int sm, .int 0, .ref there, .ref mrow, .int 0, .ref found, .ref fsz, .ref ends, .ref made, .int 0, .int 0, .ref drops, .int 0]) hx hb hts in_Mo hown hE.K hW hf_mo rfl 5 (by decide) (hts _ mw156) (fun _ h9 => h9) rfl d_Mo_enter_70 ?_
      refine lv_iload_n hx hb d_Mo_enter_73 rfl (lv_at hl 1 rfl) ?_
      refine lv_iload_n hx hb d_Mo_enter_74 rfl (lv_at hl 3 rfl) ?_
      refine gw_iast (i := 0) (x := k) hx hb hE.K hW hS 0 hf_mrow rfl (show ¬ ((0 : Int32) < 0 ∨ 300 ≤ (0 : Int32).toNatClampNeg) by decide) d_Mo_enter_75 (fun H locs hW hS => ?_)
      have hF1 : gw_fr (gw_out [100, 101, 102]) M (gw_up M mrow 102 (.inl (G.2.1 0, 300, .inl (upd (fun _ => 0) (0 : Int32).toNatClampNeg k)))) := gw_fr.up gw_fr.rf hf_mrow (show ¬ ((gw_out [100, 101, 102]) 102) by decide) (show ¬ ((gw_out [100, 101, 102]) 102) by decide)
      obtain ⟨M2, eM2⟩ : ∃ z, z = gw_up M mrow 102 (.inl (G.2.1 0, 300, .inl (upd (fun _ => 0) (0 : Int32).toNatClampNeg k))) := ⟨_, rfl⟩
      replace hW : gw_P G.1 vwCl G.2.2.2 M2 H := by rw [eM2]; exact hW
      have hf_mo : M2 mo = some (100, .inr (5, [.int cd, .int lm, .int sm, .int 0, .ref there, .ref mrow, .int 0, .ref found, .ref fsz, .ref ends, .ref made, .int 0, .int 0, .ref drops, .int 0])) := by rw [eM2]; exact gw_keep hf_mo hf_mrow (by decide)
      have hf_there : M2 there = some (101, .inl (G.2.1 0, 10000, .inl (fun _ => 0))) := by rw [eM2]; exact gw_keep hf_there hf_mrow (by decide)
      have hf_mrow : M2 mrow = some (102, .inl (G.2.1 0, 300, .inl (upd (fun _ => 0) (0 : Int32).toNatClampNeg k))) := by rw [eM2]; exact gw_up_self _ _ _ _
      rw [← eM2] at hF1
      refine lv_aload_n hx hb d_Mo_enter_76 rfl (lv_at hl 2 rfl) ?_
      refine lv_dup hx hb d_Mo_enter_77 rfl ?_
      refine gw_get (ci := 5) (fs := [.int cd, .int lm, .int sm, .int 0, .ref there, .ref mrow, .int 0, .ref found, .ref fsz, .ref ends, .ref made, .int 0, .int 0, .ref drops, .int 0]) hx hb hts in_Mo hown hE.K hW hf_mo rfl 6 (by decide) (hts _ mw178) (fun _ h9 => h9) rfl d_Mo_enter_78 ?_
      refine lv_iconst (v := 1) hx hb d_Mo_enter_81 (by decide) ?_
      refine lv_iadd hx hb d_Mo_enter_82 ?_
      refine gw_put (ci := 5) (fs := [.int cd, .int lm, .int sm, .int 0, .ref there, .ref mrow, .int 0, .ref found, .ref fsz, .ref ends, .ref made, .int 0, .int 0, .ref drops, .int 0]) (v := .int (0 + 1)) (ty := .int) hx hb hts in_Mo t_Mo t_Mo_ok n_Mo hown hE.K hW hS hf_mo rfl 6 (by decide) (hts _ mw178) (fun _ h9 => h9) rfl (by decide +kernel) rfl rfl (Nat.le_of_ble_eq_true rfl) d_Mo_enter_83 (fun H locs hW hS => ?_)
      have hF3 : gw_fr (gw_out [100, 101, 102]) M (gw_up M2 mo 100 (.inr (5, [.int cd, .int lm, .int sm, .int 0, .ref there, .ref mrow, .int (0 + 1), .ref found, .ref fsz, .ref ends, .ref made, .int 0, .int 0, .ref drops, .int 0]))) := gw_fr.up hF1 hf_mo (show ¬ ((gw_out [100, 101, 102]) 100) by decide) (show ¬ ((gw_out [100, 101, 102]) 100) by decide)
      obtain ⟨M4, eM4⟩ : ∃ z, z = gw_up M2 mo 100 (.inr (5, [.int cd, .int lm, .int sm, .int 0, .ref there, .ref mrow, .int (0 + 1), .ref found, .ref fsz, .ref ends, .ref made, .int 0, .int 0, .ref drops, .int 0])) := ⟨_, rfl⟩
      replace hW : gw_P G.1 vwCl G.2.2.2 M4 H := by rw [eM4]; exact hW
      have hf_there : M4 there = some (101, .inl (G.2.1 0, 10000, .inl (fun _ => 0))) := by rw [eM4]; exact gw_keep hf_there hf_mo (by decide)
      have hf_mrow : M4 mrow = some (102, .inl (G.2.1 0, 300, .inl (upd (fun _ => 0) (0 : Int32).toNatClampNeg k))) := by rw [eM4]; exact gw_keep hf_mrow hf_mo (by decide)
      have hf_mo : M4 mo = some (100, .inr (5, [.int cd, .int lm, .int sm, .int 0, .ref there, .ref mrow, .int (0 + 1), .ref found, .ref fsz, .ref ends, .ref made, .int 0, .int 0, .ref drops, .int 0])) := by rw [eM4]; exact gw_up_self _ _ _ _
      rw [← eM4] at hF3
      refine lv_aload_n hx hb d_Mo_enter_86 rfl (lv_at hl 2 rfl) ?_
      refine lv_iload_n hx hb d_Mo_enter_87 rfl (lv_at hl 3 rfl) ?_
      refine lv_iconst (v := 1) hx hb d_Mo_enter_88 (by decide) ?_
      refine gw_callv hS (va_runV (As := [.int k, .int 1]) (rest := []) ⟨hx, hb, hml, hown, hts⟩ (m_become l G M4 mo there mrow found fsz ends made drops cd lm sm k 1 hf_mo hf_there (by assumption)) (cwV 2 hts (gw_gv mw180 mw181 mw182 mw169 mw179) rfl rfl rfl (by decide +kernel) ⟨Nat.le_of_ble_eq_true rfl, Nat.le_of_ble_eq_true rfl⟩) (gw_pv hE hB hS hW rfl hf_mo) rfl rfl hl.1 rfl (lv_room (Nat.le_of_ble_eq_true rfl)) d_Mo_enter_89 ⟨Nat.le_of_ble_eq_true rfl, Nat.le_of_ble_eq_true rfl⟩) (fun M6 H locs hw7 hW hS => ?_)
      obtain ⟨tf8, hf_there', hfr9⟩ := hw7
      have hf_mrow : M6 mrow = some (102, .inl (G.2.1 0, 300, .inl (upd (fun _ => 0) (0 : Int32).toNatClampNeg k))) := (hfr9 _ _ _ (by decide)).mp hf_mrow
      have hf_mo : M6 mo = some (100, .inr (5, [.int cd, .int lm, .int sm, .int 0, .ref there, .ref mrow, .int (0 + 1), .ref found, .ref fsz, .ref ends, .ref made, .int 0, .int 0, .ref drops, .int 0])) := (hfr9 _ _ _ (by decide)).mp hf_mo
      have hf_there : M6 there = some (101, .inl (G.2.1 0, 10000, .inl tf8)) := hf_there'
      have hF10 : gw_fr (gw_out [100, 101, 102]) M M6 := gw_fr.tr hF3 (gw_fr.wk hfr9 (by decide))
      refine lv_aload_n hx hb d_Mo_enter_92 rfl (lv_at hl 2 rfl) ?_
      refine gw_get (ci := 5) (fs := [.int cd, .int lm, .int sm, .int 0, .ref there, .ref mrow, .int (0 + 1), .ref found, .ref fsz, .ref ends, .ref made, .int 0, .int 0, .ref drops, .int 0]) hx hb hts in_Mo hown hE.K hW hf_mo rfl 6 (by decide) (hts _ mw178) (fun _ h9 => h9) rfl d_Mo_enter_93 ?_
      refine lv_aload_n hx hb d_Mo_enter_96 rfl (lv_at hl 2 rfl) ?_
      refine gw_get (ci := 5) (fs := [.int cd, .int lm, .int sm, .int 0, .ref there, .ref mrow, .int (0 + 1), .ref found, .ref fsz, .ref ends, .ref made, .int 0, .int 0, .ref drops, .int 0]) hx hb hts in_Mo hown hE.K hW hf_mo rfl 1 (by decide) (hts _ mw162) (fun _ h9 => h9) rfl d_Mo_enter_97 ?_
      refine lv_icmp_gt (tgt := 104) hx hb d_Mo_enter_100 (by decide) (fun c100 => ?_) (fun c100 => ?_)
      · exact absurd c100 hlm
      · exact gw_vret hx hb hr hlocks hS hW (Nat.le_of_ble_eq_true rfl) (Nat.le_of_ble_eq_true rfl) d_Mo_enter_103 (⟨hf_mo, hF10⟩)
    · exact absurd c46 (by decide)
  · exact absurd c9 (by decide)

set_option maxHeartbeats 4000000 in
set_option maxRecDepth 100000 in
theorem m_catalogue (l : Launch) (G : gw_G) (M : gw_M) (mo : Nat) (there : Nat) (mrow : Nat) (found : Nat) (fsz : Nat) (ends : Nat) (made : Nat) (drops : Nat) (cd : Int32) (lm : Int32) (sm : Int32) (k : Int32) (hf_mo : M mo = some (100, .inr (5, [.int cd, .int lm, .int sm, .int 0, .ref there, .ref mrow, .int 0, .ref found, .ref fsz, .ref ends, .ref made, .int 0, .int 0, .ref drops, .int 0]))) (hf_there : M there = some (101, .inl (G.2.1 0, 10000, .inl (fun _ => 0)))) (hf_mrow : M mrow = some (102, .inl (G.2.1 0, 300, .inl (fun _ => 0)))) (hlm : ¬ lm < 0 + 1) : Met l y_Mo_catalogue [.code y_Mo_catalogue b_Mo_catalogue 2 (some .int)] ({ frames := 3, cells := 0, slots := 0, locals := 71 }) (gw_Pc G M [.ref mo, .int k]) (gw_Qi G (fun r M2 => gx_cat k = r ∧ gw_fr (gw_out [100, 101, 102]) M M2)) 0 0 (gw_A G) := by
  refine gw_start (by decide) (Nat.le_of_ble_eq_true rfl) (fun p9 e9 s m b9 mt9 c9 hx hb hr hml hown hlocks hin hE hB hW ls hl => ?_)
  have hts := hE.ts ([.ref mo, .int k] : List Value).toArray
  have hl : lv_has ls 2 [(0, .ref mo), (1, .int k)] := hl
  have hS : va_S (gw_A G) s.heap s.heap [] := va_S.rf
  have hown : s.vm.findClass "GenerationsModel" = some m.cls := hown
  refine lv_aload_n hx hb d_Mo_catalogue_0 rfl (lv_at hl 0 rfl) ?_
  refine lv_iconst (v := 0) hx hb d_Mo_catalogue_1 (by decide) ?_
  refine gw_put (ci := 5) (fs := [.int cd, .int lm, .int sm, .int 0, .ref there, .ref mrow, .int 0, .ref found, .ref fsz, .ref ends, .ref made, .int 0, .int 0, .ref drops, .int 0]) (v := .int 0) (ty := .int) hx hb hts in_Mo t_Mo t_Mo_ok n_Mo hown hE.K hW hS hf_mo rfl 0 (by decide) (hts _ mw164) (fun _ h9 => h9) rfl (by decide +kernel) rfl rfl (Nat.le_of_ble_eq_true rfl) d_Mo_catalogue_2 (fun H locs hW hS => ?_)
  have hF1 : gw_fr (gw_out [100, 101, 102]) M (gw_up M mo 100 (.inr (5, [.int 0, .int lm, .int sm, .int 0, .ref there, .ref mrow, .int 0, .ref found, .ref fsz, .ref ends, .ref made, .int 0, .int 0, .ref drops, .int 0]))) := gw_fr.up gw_fr.rf hf_mo (show ¬ ((gw_out [100, 101, 102]) 100) by decide) (show ¬ ((gw_out [100, 101, 102]) 100) by decide)
  obtain ⟨M2, eM2⟩ : ∃ z, z = gw_up M mo 100 (.inr (5, [.int 0, .int lm, .int sm, .int 0, .ref there, .ref mrow, .int 0, .ref found, .ref fsz, .ref ends, .ref made, .int 0, .int 0, .ref drops, .int 0])) := ⟨_, rfl⟩
  replace hW : gw_P G.1 vwCl G.2.2.2 M2 H := by rw [eM2]; exact hW
  have hf_there : M2 there = some (101, .inl (G.2.1 0, 10000, .inl (fun _ => 0))) := by rw [eM2]; exact gw_keep hf_there hf_mo (by decide)
  have hf_mrow : M2 mrow = some (102, .inl (G.2.1 0, 300, .inl (fun _ => 0))) := by rw [eM2]; exact gw_keep hf_mrow hf_mo (by decide)
  have hf_mo : M2 mo = some (100, .inr (5, [.int 0, .int lm, .int sm, .int 0, .ref there, .ref mrow, .int 0, .ref found, .ref fsz, .ref ends, .ref made, .int 0, .int 0, .ref drops, .int 0])) := by rw [eM2]; exact gw_up_self _ _ _ _
  rw [← eM2] at hF1
  refine lv_iload_n hx hb d_Mo_catalogue_5 rfl (lv_at hl 1 rfl) ?_
  refine gw_calli hS (va_runS (As := [.int k]) (rest := []) ⟨hx, hb, hml, hown, hts⟩ (m_isNumber l G M2 k  ) (cwS 1 hts (gw_gs mw184 mw185 mw169 mw183) rfl rfl rfl (by decide +kernel) ⟨Nat.le_of_ble_eq_true rfl, Nat.le_of_ble_eq_true rfl⟩) (gw_ps hE hB hS hW) rfl rfl hl.1 rfl (lv_room (Nat.le_of_ble_eq_true rfl)) d_Mo_catalogue_6 ⟨Nat.le_of_ble_eq_true rfl, Nat.le_of_ble_eq_true rfl⟩) (fun r3 M4 H locs hw5 hW hS => ?_)
  obtain ⟨rfl, rfl⟩ := hw5
  refine lv_if_eq (tgt := 29) hx hb d_Mo_catalogue_9 (by decide) (fun c9 => ?_) (fun c9 => ?_)
  · refine lv_iconst (v := -1) hx hb d_Mo_catalogue_29 (by decide) ?_
    exact gw_iret hx hb hr hlocks hS hW (Nat.le_of_ble_eq_true rfl) (Nat.le_of_ble_eq_true rfl) d_Mo_catalogue_30 (⟨(gx_cat0 c9), hF1⟩)
  · refine lv_aload_n hx hb d_Mo_catalogue_12 rfl (lv_at hl 0 rfl) ?_
    refine lv_iload_n hx hb d_Mo_catalogue_13 rfl (lv_at hl 1 rfl) ?_
    refine gw_calli hS (va_runV (As := [.int k]) (rest := []) ⟨hx, hb, hml, hown, hts⟩ (m_what l G M2 mo there mrow found fsz ends made drops 0 lm sm k hf_mo hf_there (gx_in c9)) (cwV 1 hts (gw_gv mw187 mw188 mw189 mw169 mw186) rfl rfl rfl (by decide +kernel) ⟨Nat.le_of_ble_eq_true rfl, Nat.le_of_ble_eq_true rfl⟩) (gw_pv hE hB hS hW rfl hf_mo) rfl rfl hl.1 rfl (lv_room (Nat.le_of_ble_eq_true rfl)) d_Mo_catalogue_14 ⟨Nat.le_of_ble_eq_true rfl, Nat.le_of_ble_eq_true rfl⟩) (fun r6 M7 H locs hw8 hW hS => ?_)
    obtain ⟨rfl, rfl⟩ := hw8
    refine lv_if_eq (tgt := 31) hx hb d_Mo_catalogue_17 (by decide) (fun c17 => ?_) (fun c17 => ?_)
    · refine lv_aload_n hx hb d_Mo_catalogue_31 rfl (lv_at hl 0 rfl) ?_
      refine lv_iload_n hx hb d_Mo_catalogue_32 rfl (lv_at hl 1 rfl) ?_
      refine gw_callv hS (va_runV (As := [.int k]) (rest := []) ⟨hx, hb, hml, hown, hts⟩ (m_enter l G M2 mo there mrow found fsz ends made drops 0 lm sm k hf_mo hf_there hf_mrow (gx_in c9) hlm) (cwV 1 hts (gw_gv mw191 mw192 mw193 mw169 mw190) rfl rfl rfl (by decide +kernel) ⟨Nat.le_of_ble_eq_true rfl, Nat.le_of_ble_eq_true rfl⟩) (gw_pv hE hB hS hW rfl hf_mo) rfl rfl hl.1 rfl (lv_room (Nat.le_of_ble_eq_true rfl)) d_Mo_catalogue_33 ⟨Nat.le_of_ble_eq_true rfl, Nat.le_of_ble_eq_true rfl⟩) (fun M10 H locs hw11 hW hS => ?_)
      obtain ⟨hf_mo', hfr12⟩ := hw11
      have hf_mo : M10 mo = some (100, .inr (5, [.int 0, .int lm, .int sm, .int 0, .ref there, .ref mrow, .int (0 + 1), .ref found, .ref fsz, .ref ends, .ref made, .int 0, .int 0, .ref drops, .int 0])) := hf_mo'
      have hF13 : gw_fr (gw_out [100, 101, 102]) M M10 := gw_fr.tr hF1 (gw_fr.wk hfr12 (by decide))
      refine lv_aload_n hx hb d_Mo_catalogue_36 rfl (lv_at hl 0 rfl) ?_
      refine gw_get (ci := 5) (fs := [.int 0, .int lm, .int sm, .int 0, .ref there, .ref mrow, .int (0 + 1), .ref found, .ref fsz, .ref ends, .ref made, .int 0, .int 0, .ref drops, .int 0]) hx hb hts in_Mo hown hE.K hW hf_mo rfl 6 (by decide) (hts _ mw178) (fun _ h9 => h9) rfl d_Mo_catalogue_37 ?_
      exact gw_iret hx hb hr hlocks hS hW (Nat.le_of_ble_eq_true rfl) (Nat.le_of_ble_eq_true rfl) d_Mo_catalogue_40 (⟨((gx_cat1 c9).trans (by decide)), hF13⟩)
    · exact absurd c17 (by decide)
