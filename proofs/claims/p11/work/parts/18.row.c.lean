set_option maxHeartbeats 4000000 in
set_option maxRecDepth 100000 in
theorem v_genInit (l : Launch) (G : gw_G) (M : gw_M) (A : Nat → Nat) (lim sc E : Int32) (j n rs : Nat) (hX : gx_V G A lim sc E j n rs M) (g : Nat) (k : Int32) (hg_g : gp_R M 9 g) : Met l y_Gen_init [.code y_Gen_init b_Gen_init 2 none] ({ frames := 1, cells := 0, slots := 0, locals := 12 }) (gw_Pc G M [.ref g, .int k]) (gw_Qv G (fun M2 => gx_V G A lim sc E j n rs M2 ∧ gw_fg (gw_out [1, 2, 3, 4, 5, 6, 7, 8, 9, 10, 11]) M M2)) 0 0 (gw_A G) := by
  refine gw_start (by decide) (Nat.le_of_ble_eq_true rfl) (fun p9 e9 s m b9 mt9 c9 hx hb hr hml hown hlocks hin hE hB hW ls hl => ?_)
  have hts := hE.ts ([.ref g, .int k] : List Value).toArray
  have hl : lv_has ls 2 [(0, .ref g), (1, .int k)] := hl
  have hown : s.vm.findClass "Generations$Generation" = some m.cls := hown
  have hin : mt9.name = "<init>" := hin
  have hj9 := hX.jobs.le
  have hn9 := hX.known.le
  have hr9 := hX.rs256
  refine gw_gen (I := fun z => gx_V G A lim sc E j n rs z) (P := gw_out [1, 2, 3, 4, 5, 6, 7, 8, 9, 10, 11]) hX hW (fun H locs Mw hW hS hX hF => ?_)
  have hX : gx_V G A lim sc E j n rs Mw := hX
  replace hg_g := hF.2 _ _ hg_g
  refine lv_aload_n hx hb d_Gen_init_0 rfl (lv_at hl 0 rfl) ?_
  refine W.objInit hx hb hown (hts _ mw126) (hts _ mw127) (hts _ mw128) rfl (by rw [hml]; exact hl.1) rfl d_Gen_init_1 (Nat.le_of_ble_eq_true rfl) (Nat.le_of_ble_eq_true rfl) ?_
  refine W.eq (g2 := F0 m 4 ls []) rfl ?_
  refine lv_aload_n hx hb d_Gen_init_4 rfl (lv_at hl 0 rfl) ?_
  refine lv_iconst (v := 0) hx hb d_Gen_init_5 (by decide) ?_
  obtain ⟨u1v0, u1v1, u1v2, u1v3, u1v4, hf_u1⟩ := hX.g9 hg_g
  refine gw_put (ci := 2) (fs := [.int u1v0, .int u1v1, .int u1v2, .int u1v3, .int u1v4]) (v := .int 0) (ty := .int) hx hb hts in_Gen t_Gen t_Gen_ok n_Gen hown hE.K hW hS hf_u1 rfl 1 (by decide) (hts _ mw15) (fun _ h9 => h9) rfl (by decide +kernel) rfl rfl (Nat.le_of_ble_eq_true rfl) d_Gen_init_6 (fun H locs hW hS => ?_)
  have hXn : gx_V G A lim sc E j n rs (gw_up Mw g 9 (.inr (2, [.int u1v0, .int 0, .int u1v2, .int u1v3, .int u1v4]))) := hX.up9 hf_u1
  have hPn : gp_S Mw (gw_up Mw g 9 (.inr (2, [.int u1v0, .int 0, .int u1v2, .int u1v3, .int u1v4]))) := gp_up hf_u1
  have hF2 : gw_fg (gw_out [1, 2, 3, 4, 5, 6, 7, 8, 9, 10, 11]) M (gw_up Mw g 9 (.inr (2, [.int u1v0, .int 0, .int u1v2, .int u1v3, .int u1v4]))) := gw_fg.up hF hf_u1 (show ¬ ((gw_out [1, 2, 3, 4, 5, 6, 7, 8, 9, 10, 11]) 9) by decide) (show ¬ ((gw_out [1, 2, 3, 4, 5, 6, 7, 8, 9, 10, 11]) 9) by decide)
  obtain ⟨M3, eM3⟩ : ∃ z, z = gw_up Mw g 9 (.inr (2, [.int u1v0, .int 0, .int u1v2, .int u1v3, .int u1v4])) := ⟨_, rfl⟩
  replace hW : gw_P G.1 vwCl G.2.2.2 M3 H := by rw [eM3]; exact hW
  have hf_u1 : M3 g = some (9, .inr (2, [.int u1v0, .int 0, .int u1v2, .int u1v3, .int u1v4])) := by rw [eM3]; exact gw_up_self _ _ _ _
  rw [← eM3] at hF2
  rw [← eM3] at hXn hPn
  replace hX := hXn
  replace hg_g := hPn _ _ hg_g
  clear hXn hPn
  refine lv_aload_n hx hb d_Gen_init_9 rfl (lv_at hl 0 rfl) ?_
  refine lv_iconst (v := 0) hx hb d_Gen_init_10 (by decide) ?_
  refine gw_put (ci := 2) (fs := [.int u1v0, .int 0, .int u1v2, .int u1v3, .int u1v4]) (v := .int 0) (ty := .int) hx hb hts in_Gen t_Gen t_Gen_ok n_Gen hown hE.K hW hS hf_u1 rfl 3 (by decide) (hts _ mw16) (fun _ h9 => h9) rfl (by decide +kernel) rfl rfl (Nat.le_of_ble_eq_true rfl) d_Gen_init_11 (fun H locs hW hS => ?_)
  have hXn : gx_V G A lim sc E j n rs (gw_up M3 g 9 (.inr (2, [.int u1v0, .int 0, .int u1v2, .int 0, .int u1v4]))) := hX.up9 hf_u1
  have hPn : gp_S M3 (gw_up M3 g 9 (.inr (2, [.int u1v0, .int 0, .int u1v2, .int 0, .int u1v4]))) := gp_up hf_u1
  have hF4 : gw_fg (gw_out [1, 2, 3, 4, 5, 6, 7, 8, 9, 10, 11]) M (gw_up M3 g 9 (.inr (2, [.int u1v0, .int 0, .int u1v2, .int 0, .int u1v4]))) := gw_fg.up hF2 hf_u1 (show ¬ ((gw_out [1, 2, 3, 4, 5, 6, 7, 8, 9, 10, 11]) 9) by decide) (show ¬ ((gw_out [1, 2, 3, 4, 5, 6, 7, 8, 9, 10, 11]) 9) by decide)
  obtain ⟨M5, eM5⟩ : ∃ z, z = gw_up M3 g 9 (.inr (2, [.int u1v0, .int 0, .int u1v2, .int 0, .int u1v4])) := ⟨_, rfl⟩
  replace hW : gw_P G.1 vwCl G.2.2.2 M5 H := by rw [eM5]; exact hW
  have hf_u1 : M5 g = some (9, .inr (2, [.int u1v0, .int 0, .int u1v2, .int 0, .int u1v4])) := by rw [eM5]; exact gw_up_self _ _ _ _
  rw [← eM5] at hF4
  rw [← eM5] at hXn hPn
  replace hX := hXn
  replace hg_g := hPn _ _ hg_g
  clear hXn hPn
  refine lv_aload_n hx hb d_Gen_init_14 rfl (lv_at hl 0 rfl) ?_
  refine lv_iload_n hx hb d_Gen_init_15 rfl (lv_at hl 1 rfl) ?_
  refine gw_putF (ci := 2) (fs := [.int u1v0, .int 0, .int u1v2, .int 0, .int u1v4]) (v := .int k) (ty := .int) hx hb hts in_Gen t_Gen t_Gen_ok n_Gen hown hE.K hW hS hf_u1 rfl 0 (by decide) (hts _ mw129) (fun _ h9 => h9) rfl hin rfl (by decide +kernel) rfl rfl (Nat.le_of_ble_eq_true rfl) d_Gen_init_16 (fun H locs hW hS => ?_)
  have hXn : gx_V G A lim sc E j n rs (gw_up M5 g 9 (.inr (2, [.int k, .int 0, .int u1v2, .int 0, .int u1v4]))) := hX.up9 hf_u1
  have hPn : gp_S M5 (gw_up M5 g 9 (.inr (2, [.int k, .int 0, .int u1v2, .int 0, .int u1v4]))) := gp_up hf_u1
  have hF6 : gw_fg (gw_out [1, 2, 3, 4, 5, 6, 7, 8, 9, 10, 11]) M (gw_up M5 g 9 (.inr (2, [.int k, .int 0, .int u1v2, .int 0, .int u1v4]))) := gw_fg.up hF4 hf_u1 (show ¬ ((gw_out [1, 2, 3, 4, 5, 6, 7, 8, 9, 10, 11]) 9) by decide) (show ¬ ((gw_out [1, 2, 3, 4, 5, 6, 7, 8, 9, 10, 11]) 9) by decide)
  obtain ⟨M7, eM7⟩ : ∃ z, z = gw_up M5 g 9 (.inr (2, [.int k, .int 0, .int u1v2, .int 0, .int u1v4])) := ⟨_, rfl⟩
  replace hW : gw_P G.1 vwCl G.2.2.2 M7 H := by rw [eM7]; exact hW
  have hf_u1 : M7 g = some (9, .inr (2, [.int k, .int 0, .int u1v2, .int 0, .int u1v4])) := by rw [eM7]; exact gw_up_self _ _ _ _
  rw [← eM7] at hF6
  rw [← eM7] at hXn hPn
  replace hX := hXn
  replace hg_g := hPn _ _ hg_g
  clear hXn hPn
  exact gw_vret hx hb hr hlocks hS hW (Nat.le_of_ble_eq_true rfl) (Nat.le_of_ble_eq_true rfl) d_Gen_init_19 ⟨hX, hF6⟩

set_option maxHeartbeats 4000000 in
set_option maxRecDepth 100000 in
theorem v_beginAnew (l : Launch) (G : gw_G) (M : gw_M) (A : Nat → Nat) (lim sc E : Int32) (j n rs : Nat) (hX : gx_V G A lim sc E j n rs M) (g : Nat) (k : Int32) (hg_g : gp_R M 9 g) : Met l y_Gen_beginAnew [.code y_Gen_beginAnew b_Gen_beginAnew 2 none] ({ frames := 0, cells := 0, slots := 0, locals := 0 }) (gw_Pc G M [.ref g, .int k]) (gw_Qv G (fun M2 => gx_V G A lim sc E j n rs M2 ∧ gw_fg (gw_out [1, 2, 3, 4, 5, 6, 7, 8, 9, 10, 11]) M M2)) 0 0 (gw_A G) := by
  refine gw_start (by decide) (Nat.le_of_ble_eq_true rfl) (fun p9 e9 s m b9 mt9 c9 hx hb hr hml hown hlocks hin hE hB hW ls hl => ?_)
  have hts := hE.ts ([.ref g, .int k] : List Value).toArray
  have hl : lv_has ls 2 [(0, .ref g), (1, .int k)] := hl
  have hown : s.vm.findClass "Generations$Generation" = some m.cls := hown
  have hj9 := hX.jobs.le
  have hn9 := hX.known.le
  have hr9 := hX.rs256
  refine gw_gen (I := fun z => gx_V G A lim sc E j n rs z) (P := gw_out [1, 2, 3, 4, 5, 6, 7, 8, 9, 10, 11]) hX hW (fun H locs Mw hW hS hX hF => ?_)
  have hX : gx_V G A lim sc E j n rs Mw := hX
  replace hg_g := hF.2 _ _ hg_g
  refine lv_aload_n hx hb d_Gen_beginAnew_0 rfl (lv_at hl 0 rfl) ?_
  refine lv_iload_n hx hb d_Gen_beginAnew_1 rfl (lv_at hl 1 rfl) ?_
  obtain ⟨u1v0, u1v1, u1v2, u1v3, u1v4, hf_u1⟩ := hX.g9 hg_g
  refine gw_put (ci := 2) (fs := [.int u1v0, .int u1v1, .int u1v2, .int u1v3, .int u1v4]) (v := .int k) (ty := .int) hx hb hts in_Gen t_Gen t_Gen_ok n_Gen hown hE.K hW hS hf_u1 rfl 3 (by decide) (hts _ mw16) (fun _ h9 => h9) rfl (by decide +kernel) rfl rfl (Nat.le_of_ble_eq_true rfl) d_Gen_beginAnew_2 (fun H locs hW hS => ?_)
  have hXn : gx_V G A lim sc E j n rs (gw_up Mw g 9 (.inr (2, [.int u1v0, .int u1v1, .int u1v2, .int k, .int u1v4]))) := hX.up9 hf_u1
  have hPn : gp_S Mw (gw_up Mw g 9 (.inr (2, [.int u1v0, .int u1v1, .int u1v2, .int k, .int u1v4]))) := gp_up hf_u1
  have hF2 : gw_fg (gw_out [1, 2, 3, 4, 5, 6, 7, 8, 9, 10, 11]) M (gw_up Mw g 9 (.inr (2, [.int u1v0, .int u1v1, .int u1v2, .int k, .int u1v4]))) := gw_fg.up hF hf_u1 (show ¬ ((gw_out [1, 2, 3, 4, 5, 6, 7, 8, 9, 10, 11]) 9) by decide) (show ¬ ((gw_out [1, 2, 3, 4, 5, 6, 7, 8, 9, 10, 11]) 9) by decide)
  obtain ⟨M3, eM3⟩ : ∃ z, z = gw_up Mw g 9 (.inr (2, [.int u1v0, .int u1v1, .int u1v2, .int k, .int u1v4])) := ⟨_, rfl⟩
  replace hW : gw_P G.1 vwCl G.2.2.2 M3 H := by rw [eM3]; exact hW
  have hf_u1 : M3 g = some (9, .inr (2, [.int u1v0, .int u1v1, .int u1v2, .int k, .int u1v4])) := by rw [eM3]; exact gw_up_self _ _ _ _
  rw [← eM3] at hF2
  rw [← eM3] at hXn hPn
  replace hX := hXn
  replace hg_g := hPn _ _ hg_g
  clear hXn hPn
  refine lv_aload_n hx hb d_Gen_beginAnew_5 rfl (lv_at hl 0 rfl) ?_
  refine lv_iconst (v := 0) hx hb d_Gen_beginAnew_6 (by decide) ?_
  refine gw_put (ci := 2) (fs := [.int u1v0, .int u1v1, .int u1v2, .int k, .int u1v4]) (v := .int 0) (ty := .int) hx hb hts in_Gen t_Gen t_Gen_ok n_Gen hown hE.K hW hS hf_u1 rfl 2 (by decide) (hts _ mw130) (fun _ h9 => h9) rfl (by decide +kernel) rfl rfl (Nat.le_of_ble_eq_true rfl) d_Gen_beginAnew_7 (fun H locs hW hS => ?_)
  have hXn : gx_V G A lim sc E j n rs (gw_up M3 g 9 (.inr (2, [.int u1v0, .int u1v1, .int 0, .int k, .int u1v4]))) := hX.up9 hf_u1
  have hPn : gp_S M3 (gw_up M3 g 9 (.inr (2, [.int u1v0, .int u1v1, .int 0, .int k, .int u1v4]))) := gp_up hf_u1
  have hF4 : gw_fg (gw_out [1, 2, 3, 4, 5, 6, 7, 8, 9, 10, 11]) M (gw_up M3 g 9 (.inr (2, [.int u1v0, .int u1v1, .int 0, .int k, .int u1v4]))) := gw_fg.up hF2 hf_u1 (show ¬ ((gw_out [1, 2, 3, 4, 5, 6, 7, 8, 9, 10, 11]) 9) by decide) (show ¬ ((gw_out [1, 2, 3, 4, 5, 6, 7, 8, 9, 10, 11]) 9) by decide)
  obtain ⟨M5, eM5⟩ : ∃ z, z = gw_up M3 g 9 (.inr (2, [.int u1v0, .int u1v1, .int 0, .int k, .int u1v4])) := ⟨_, rfl⟩
  replace hW : gw_P G.1 vwCl G.2.2.2 M5 H := by rw [eM5]; exact hW
  have hf_u1 : M5 g = some (9, .inr (2, [.int u1v0, .int u1v1, .int 0, .int k, .int u1v4])) := by rw [eM5]; exact gw_up_self _ _ _ _
  rw [← eM5] at hF4
  rw [← eM5] at hXn hPn
  replace hX := hXn
  replace hg_g := hPn _ _ hg_g
  clear hXn hPn
  refine lv_aload_n hx hb d_Gen_beginAnew_10 rfl (lv_at hl 0 rfl) ?_
  refine lv_iconst (v := 0) hx hb d_Gen_beginAnew_11 (by decide) ?_
  refine gw_put (ci := 2) (fs := [.int u1v0, .int u1v1, .int 0, .int k, .int u1v4]) (v := .int 0) (ty := .int) hx hb hts in_Gen t_Gen t_Gen_ok n_Gen hown hE.K hW hS hf_u1 rfl 4 (by decide) (hts _ mw22) (fun _ h9 => h9) rfl (by decide +kernel) rfl rfl (Nat.le_of_ble_eq_true rfl) d_Gen_beginAnew_12 (fun H locs hW hS => ?_)
  have hXn : gx_V G A lim sc E j n rs (gw_up M5 g 9 (.inr (2, [.int u1v0, .int u1v1, .int 0, .int k, .int 0]))) := hX.up9 hf_u1
  have hPn : gp_S M5 (gw_up M5 g 9 (.inr (2, [.int u1v0, .int u1v1, .int 0, .int k, .int 0]))) := gp_up hf_u1
  have hF6 : gw_fg (gw_out [1, 2, 3, 4, 5, 6, 7, 8, 9, 10, 11]) M (gw_up M5 g 9 (.inr (2, [.int u1v0, .int u1v1, .int 0, .int k, .int 0]))) := gw_fg.up hF4 hf_u1 (show ¬ ((gw_out [1, 2, 3, 4, 5, 6, 7, 8, 9, 10, 11]) 9) by decide) (show ¬ ((gw_out [1, 2, 3, 4, 5, 6, 7, 8, 9, 10, 11]) 9) by decide)
  obtain ⟨M7, eM7⟩ : ∃ z, z = gw_up M5 g 9 (.inr (2, [.int u1v0, .int u1v1, .int 0, .int k, .int 0])) := ⟨_, rfl⟩
  replace hW : gw_P G.1 vwCl G.2.2.2 M7 H := by rw [eM7]; exact hW
  have hf_u1 : M7 g = some (9, .inr (2, [.int u1v0, .int u1v1, .int 0, .int k, .int 0])) := by rw [eM7]; exact gw_up_self _ _ _ _
  rw [← eM7] at hF6
  rw [← eM7] at hXn hPn
  replace hX := hXn
  replace hg_g := hPn _ _ hg_g
  clear hXn hPn
  exact gw_vret hx hb hr hlocks hS hW (Nat.le_of_ble_eq_true rfl) (Nat.le_of_ble_eq_true rfl) d_Gen_beginAnew_15 ⟨hX, hF6⟩

set_option maxHeartbeats 4000000 in
set_option maxRecDepth 100000 in
theorem v_put (l : Launch) (G : gw_G) (M : gw_M) (A : Nat → Nat) (lim sc E : Int32) (j n rs : Nat) (hX : gx_V G A lim sc E j n rs M) (k : Int32) (h255 : rs ≤ 255) : Met l y_Row_put [.code y_Row_put b_Row_put 3 none] ({ frames := 2, cells := 0, slots := 0, locals := 44 }) (gw_Pc G M [.ref (A 1), .int k]) (gw_Qv G (fun M2 => gx_V G A lim sc E j n (rs + 1) M2 ∧ gw_fg (gw_out [1, 2, 3, 4, 5, 6, 7, 8, 9, 10, 11]) M M2)) 0 0 (gw_A G) := by
  refine gw_start (by decide) (Nat.le_of_ble_eq_true rfl) (fun p9 e9 s m b9 mt9 c9 hx hb hr hml hown hlocks hin hE hB hW ls hl => ?_)
  have hts := hE.ts ([.ref (A 1), .int k] : List Value).toArray
  have hl : lv_has ls 3 [(0, .ref (A 1)), (1, .int k)] := hl
  have hown : s.vm.findClass "Generations$Row" = some m.cls := hown
  have hj9 := hX.jobs.le
  have hn9 := hX.known.le
  have hr9 := hX.rs256
  refine gw_gen (I := fun z => gx_V G A lim sc E j n rs z) (P := gw_out [1, 2, 3, 4, 5, 6, 7, 8, 9, 10, 11]) hX hW (fun H locs Mw hW hS hX hF => ?_)
  have hX : gx_V G A lim sc E j n rs Mw := hX
  refine lv_aload_n hx hb d_Row_put_0 rfl (lv_at hl 0 rfl) ?_
  obtain ⟨gco1, f3o1, f8o1, hf_x, hf_row, hf_nums, hf_gone, hgco1, hrso1, -, -, -, -⟩ := id hX
  refine gw_get (ci := 1) (fs := [.ref (A 2), .int (nI rs)]) hx hb hts in_Row hown hE.K hW hf_row rfl 1 (by decide) (hts _ mw43) (fun _ h9 => h9) rfl d_Row_put_1 ?_
  refine lv_aload_n hx hb d_Row_put_4 rfl (lv_at hl 0 rfl) ?_
  refine gw_get (ci := 1) (fs := [.ref (A 2), .int (nI rs)]) hx hb hts in_Row hown hE.K hW hf_row rfl 0 (by decide) (hts _ mw44) (fun _ h9 => h9) rfl d_Row_put_5 ?_
  refine gw_alen (v := 256) hx hb hE.K hW 0 hf_nums rfl rfl d_Row_put_8 ?_
  refine lv_icmp_lt (tgt := 13) hx hb d_Row_put_9 (by decide) (fun c9 => ?_) (fun c9 => ?_)
  · refine lv_aload_n hx hb d_Row_put_13 rfl (lv_at hl 0 rfl) ?_
    refine gw_get (ci := 1) (fs := [.ref (A 2), .int (nI rs)]) hx hb hts in_Row hown hE.K hW hf_row rfl 1 (by decide) (hts _ mw43) (fun _ h9 => h9) rfl d_Row_put_14 ?_
    refine lv_istore_n (lv' := [(2, .int (nI rs)), (0, .ref (A 1)), (1, .int k)]) hx hb d_Row_put_17 rfl hl (by decide) rfl (fun ls hl => ?_)
    obtain ⟨k18, ek18⟩ : ∃ z : Nat, z = rs := ⟨_, rfl⟩
    replace hl : lv_has ls 3 [(2, .int (nI k18)), (0, .ref (A 1)), (1, .int k)] := by subst ek18; exact lv_sub hl [0, 1, 2] rfl
    have hk18 : k18 ≤ rs := by omega
    clear ek18
    clear hf_x hf_row hf_nums hf_gone
    obtain ⟨n18, hn18⟩ : ∃ z : Nat, k18 < z := ⟨_, Nat.lt_succ_self _⟩
    induction n18 generalizing k18 ls H locs Mw with
    | zero => exact absurd hn18 (Nat.not_lt_zero _)
    | succ n18 ih18 =>
      refine lv_iload_n hx hb d_Row_put_18 rfl (lv_at hl 0 rfl) ?_
      refine lv_if_le (tgt := 57) hx hb d_Row_put_19 (by decide) (fun c19 => ?_) (fun c19 => ?_)
      · refine lv_aload_n hx hb d_Row_put_57 rfl (lv_at hl 1 rfl) ?_
        obtain ⟨gco2, f3o2, f8o2, hf_x, hf_row, hf_nums, hf_gone, hgco2, hrso2, -, -, -, -⟩ := id hX
        refine gw_get (ci := 1) (fs := [.ref (A 2), .int (nI rs)]) hx hb hts in_Row hown hE.K hW hf_row rfl 0 (by decide) (hts _ mw44) (fun _ h9 => h9) rfl d_Row_put_58 ?_
        refine lv_iload_n hx hb d_Row_put_61 rfl (lv_at hl 0 rfl) ?_
        refine lv_iload_n hx hb d_Row_put_62 rfl (lv_at hl 2 rfl) ?_
        refine gw_iast (i := nI k18) (x := k) hx hb hE.K hW hS 0 hf_nums rfl (vp_in_nI (by omega) (by omega)) d_Row_put_63 (fun H locs hW hS => ?_)
        have hXn : gx_V G A lim sc E j n rs (gw_up Mw (A 2) 3 (.inl (G.2.1 0, 256, .inl (upd f3o2 (nI k18 : Int32).toNatClampNeg k)))) := hX.up3 hf_nums
        have hPn : gp_S Mw (gw_up Mw (A 2) 3 (.inl (G.2.1 0, 256, .inl (upd f3o2 (nI k18 : Int32).toNatClampNeg k)))) := gp_up hf_nums
        have hF3 : gw_fg (gw_out [1, 2, 3, 4, 5, 6, 7, 8, 9, 10, 11]) M (gw_up Mw (A 2) 3 (.inl (G.2.1 0, 256, .inl (upd f3o2 (nI k18 : Int32).toNatClampNeg k)))) := gw_fg.up hF hf_nums (show ¬ ((gw_out [1, 2, 3, 4, 5, 6, 7, 8, 9, 10, 11]) 3) by decide) (show ¬ ((gw_out [1, 2, 3, 4, 5, 6, 7, 8, 9, 10, 11]) 3) by decide)
        obtain ⟨M4, eM4⟩ : ∃ z, z = gw_up Mw (A 2) 3 (.inl (G.2.1 0, 256, .inl (upd f3o2 (nI k18 : Int32).toNatClampNeg k))) := ⟨_, rfl⟩
        replace hW : gw_P G.1 vwCl G.2.2.2 M4 H := by rw [eM4]; exact hW
        have hf_x : M4 (A 0) = some (1, .inr (0, [.int lim, .int sc, .int E, .ref (A 1), .ref (A 3), .ref (A 4), .ref (A 5), .ref (A 6), .int (nI gco2)])) := by rw [eM4]; exact gw_keep hf_x hf_nums (by decide)
        have hf_row : M4 (A 1) = some (2, .inr (1, [.ref (A 2), .int (nI rs)])) := by rw [eM4]; exact gw_keep hf_row hf_nums (by decide)
        have hf_gone : M4 (A 6) = some (8, .inl (G.2.1 0, 512, .inl f8o2)) := by rw [eM4]; exact gw_keep hf_gone hf_nums (by decide)
        have hf_nums : M4 (A 2) = some (3, .inl (G.2.1 0, 256, .inl (upd f3o2 (nI k18 : Int32).toNatClampNeg k))) := by rw [eM4]; exact gw_up_self _ _ _ _
        rw [← eM4] at hF3
        rw [← eM4] at hXn hPn
        replace hX := hXn
        clear hXn hPn
        refine lv_aload_n hx hb d_Row_put_64 rfl (lv_at hl 1 rfl) ?_
        refine lv_dup hx hb d_Row_put_65 rfl ?_
        refine gw_get (ci := 1) (fs := [.ref (A 2), .int (nI rs)]) hx hb hts in_Row hown hE.K hW hf_row rfl 1 (by decide) (hts _ mw43) (fun _ h9 => h9) rfl d_Row_put_66 ?_
        refine lv_iconst (v := 1) hx hb d_Row_put_69 (by decide) ?_
        refine lv_iadd hx hb d_Row_put_70 ?_
        refine W.eq (g2 := F0 m 71 ls [.int (nI (rs + 1)), .ref (A 1)]) (by rw [nI_1]) ?_
        refine gw_put (ci := 1) (fs := [.ref (A 2), .int (nI rs)]) (v := .int (nI (rs + 1))) (ty := .int) hx hb hts in_Row t_Row t_Row_ok n_Row hown hE.K hW hS hf_row rfl 1 (by decide) (hts _ mw43) (fun _ h9 => h9) rfl (by decide +kernel) rfl rfl (Nat.le_of_ble_eq_true rfl) d_Row_put_71 (fun H locs hW hS => ?_)
        have hXn : gx_V G A lim sc E j n (rs + 1) (gw_up M4 (A 1) 2 (.inr (1, [.ref (A 2), .int (nI (rs + 1))]))) := hX.up2 hf_row (by omega)
        have hPn : gp_S M4 (gw_up M4 (A 1) 2 (.inr (1, [.ref (A 2), .int (nI (rs + 1))]))) := gp_up hf_row
        have hF5 : gw_fg (gw_out [1, 2, 3, 4, 5, 6, 7, 8, 9, 10, 11]) M (gw_up M4 (A 1) 2 (.inr (1, [.ref (A 2), .int (nI (rs + 1))]))) := gw_fg.up hF3 hf_row (show ¬ ((gw_out [1, 2, 3, 4, 5, 6, 7, 8, 9, 10, 11]) 2) by decide) (show ¬ ((gw_out [1, 2, 3, 4, 5, 6, 7, 8, 9, 10, 11]) 2) by decide)
        obtain ⟨M6, eM6⟩ : ∃ z, z = gw_up M4 (A 1) 2 (.inr (1, [.ref (A 2), .int (nI (rs + 1))])) := ⟨_, rfl⟩
        replace hW : gw_P G.1 vwCl G.2.2.2 M6 H := by rw [eM6]; exact hW
        have hf_x : M6 (A 0) = some (1, .inr (0, [.int lim, .int sc, .int E, .ref (A 1), .ref (A 3), .ref (A 4), .ref (A 5), .ref (A 6), .int (nI gco2)])) := by rw [eM6]; exact gw_keep hf_x hf_row (by decide)
        have hf_gone : M6 (A 6) = some (8, .inl (G.2.1 0, 512, .inl f8o2)) := by rw [eM6]; exact gw_keep hf_gone hf_row (by decide)
        have hf_nums : M6 (A 2) = some (3, .inl (G.2.1 0, 256, .inl (upd f3o2 (nI k18 : Int32).toNatClampNeg k))) := by rw [eM6]; exact gw_keep hf_nums hf_row (by decide)
        have hf_row : M6 (A 1) = some (2, .inr (1, [.ref (A 2), .int (nI (rs + 1))])) := by rw [eM6]; exact gw_up_self _ _ _ _
        rw [← eM6] at hF5
        rw [← eM6] at hXn hPn
        replace hX := hXn
        clear hXn hPn
        exact gw_vret hx hb hr hlocks hS hW (Nat.le_of_ble_eq_true rfl) (Nat.le_of_ble_eq_true rfl) d_Row_put_74 ⟨hX, hF5⟩
      · have hk1 : 1 ≤ k18 := gx_ge1 c19 (by omega)
        refine lv_aload_n hx hb d_Row_put_22 rfl (lv_at hl 1 rfl) ?_
        obtain ⟨gco7, f3o7, f8o7, hf_x, hf_row, hf_nums, hf_gone, hgco7, hrso7, -, -, -, -⟩ := id hX
        refine gw_get (ci := 1) (fs := [.ref (A 2), .int (nI rs)]) hx hb hts in_Row hown hE.K hW hf_row rfl 0 (by decide) (hts _ mw44) (fun _ h9 => h9) rfl d_Row_put_23 ?_
        refine lv_iload_n hx hb d_Row_put_26 rfl (lv_at hl 0 rfl) ?_
        refine lv_iconst (v := 1) hx hb d_Row_put_27 (by decide) ?_
        refine lv_isub hx hb d_Row_put_28 ?_
        refine gw_iald (i := (nI k18) - 1) hx hb hE.K hW 0 hf_nums rfl (gx_in1 hk1 (by omega)) d_Row_put_29 ?_
        refine lv_iload_n hx hb d_Row_put_30 rfl (lv_at hl 2 rfl) ?_
        refine gr_calli (va_runS (As := [.int (f3o7 ((nI k18) - 1 : Int32).toNatClampNeg), .int k]) (rest := []) ⟨hx, hb, hml, hown, hts⟩ (r_isAhead l G Mw (f3o7 ((nI k18) - 1 : Int32).toNatClampNeg) k  ) (cwS 2 hts (gw_gs mw132 mw133 mw48 mw131) rfl rfl rfl (by decide +kernel) ⟨Nat.le_of_ble_eq_true rfl, Nat.le_of_ble_eq_true rfl⟩) (gw_ps hE hB hS hW) rfl rfl hl.1 rfl (lv_room (Nat.le_of_ble_eq_true rfl)) d_Row_put_31 ⟨Nat.le_of_ble_eq_true rfl, Nat.le_of_ble_eq_true rfl⟩) (fun r8 hw9 => ?_)
        refine lv_if_ne (tgt := 57) hx hb d_Row_put_34 (by decide) (fun c34 => ?_) (fun c34 => ?_)
        · refine lv_aload_n hx hb d_Row_put_57 rfl (lv_at hl 1 rfl) ?_
          refine gw_get (ci := 1) (fs := [.ref (A 2), .int (nI rs)]) hx hb hts in_Row hown hE.K hW hf_row rfl 0 (by decide) (hts _ mw44) (fun _ h9 => h9) rfl d_Row_put_58 ?_
          refine lv_iload_n hx hb d_Row_put_61 rfl (lv_at hl 0 rfl) ?_
          refine lv_iload_n hx hb d_Row_put_62 rfl (lv_at hl 2 rfl) ?_
          refine gw_iast (i := nI k18) (x := k) hx hb hE.K hW hS 0 hf_nums rfl (vp_in_nI (by omega) (by omega)) d_Row_put_63 (fun H locs hW hS => ?_)
          have hXn : gx_V G A lim sc E j n rs (gw_up Mw (A 2) 3 (.inl (G.2.1 0, 256, .inl (upd f3o7 (nI k18 : Int32).toNatClampNeg k)))) := hX.up3 hf_nums
          have hPn : gp_S Mw (gw_up Mw (A 2) 3 (.inl (G.2.1 0, 256, .inl (upd f3o7 (nI k18 : Int32).toNatClampNeg k)))) := gp_up hf_nums
          have hF10 : gw_fg (gw_out [1, 2, 3, 4, 5, 6, 7, 8, 9, 10, 11]) M (gw_up Mw (A 2) 3 (.inl (G.2.1 0, 256, .inl (upd f3o7 (nI k18 : Int32).toNatClampNeg k)))) := gw_fg.up hF hf_nums (show ¬ ((gw_out [1, 2, 3, 4, 5, 6, 7, 8, 9, 10, 11]) 3) by decide) (show ¬ ((gw_out [1, 2, 3, 4, 5, 6, 7, 8, 9, 10, 11]) 3) by decide)
          obtain ⟨M11, eM11⟩ : ∃ z, z = gw_up Mw (A 2) 3 (.inl (G.2.1 0, 256, .inl (upd f3o7 (nI k18 : Int32).toNatClampNeg k))) := ⟨_, rfl⟩
          replace hW : gw_P G.1 vwCl G.2.2.2 M11 H := by rw [eM11]; exact hW
          have hf_x : M11 (A 0) = some (1, .inr (0, [.int lim, .int sc, .int E, .ref (A 1), .ref (A 3), .ref (A 4), .ref (A 5), .ref (A 6), .int (nI gco7)])) := by rw [eM11]; exact gw_keep hf_x hf_nums (by decide)
          have hf_row : M11 (A 1) = some (2, .inr (1, [.ref (A 2), .int (nI rs)])) := by rw [eM11]; exact gw_keep hf_row hf_nums (by decide)
          have hf_gone : M11 (A 6) = some (8, .inl (G.2.1 0, 512, .inl f8o7)) := by rw [eM11]; exact gw_keep hf_gone hf_nums (by decide)
          have hf_nums : M11 (A 2) = some (3, .inl (G.2.1 0, 256, .inl (upd f3o7 (nI k18 : Int32).toNatClampNeg k))) := by rw [eM11]; exact gw_up_self _ _ _ _
          rw [← eM11] at hF10
          rw [← eM11] at hXn hPn
          replace hX := hXn
          clear hXn hPn
          refine lv_aload_n hx hb d_Row_put_64 rfl (lv_at hl 1 rfl) ?_
          refine lv_dup hx hb d_Row_put_65 rfl ?_
          refine gw_get (ci := 1) (fs := [.ref (A 2), .int (nI rs)]) hx hb hts in_Row hown hE.K hW hf_row rfl 1 (by decide) (hts _ mw43) (fun _ h9 => h9) rfl d_Row_put_66 ?_
          refine lv_iconst (v := 1) hx hb d_Row_put_69 (by decide) ?_
          refine lv_iadd hx hb d_Row_put_70 ?_
          refine W.eq (g2 := F0 m 71 ls [.int (nI (rs + 1)), .ref (A 1)]) (by rw [nI_1]) ?_
          refine gw_put (ci := 1) (fs := [.ref (A 2), .int (nI rs)]) (v := .int (nI (rs + 1))) (ty := .int) hx hb hts in_Row t_Row t_Row_ok n_Row hown hE.K hW hS hf_row rfl 1 (by decide) (hts _ mw43) (fun _ h9 => h9) rfl (by decide +kernel) rfl rfl (Nat.le_of_ble_eq_true rfl) d_Row_put_71 (fun H locs hW hS => ?_)
          have hXn : gx_V G A lim sc E j n (rs + 1) (gw_up M11 (A 1) 2 (.inr (1, [.ref (A 2), .int (nI (rs + 1))]))) := hX.up2 hf_row (by omega)
          have hPn : gp_S M11 (gw_up M11 (A 1) 2 (.inr (1, [.ref (A 2), .int (nI (rs + 1))]))) := gp_up hf_row
          have hF12 : gw_fg (gw_out [1, 2, 3, 4, 5, 6, 7, 8, 9, 10, 11]) M (gw_up M11 (A 1) 2 (.inr (1, [.ref (A 2), .int (nI (rs + 1))]))) := gw_fg.up hF10 hf_row (show ¬ ((gw_out [1, 2, 3, 4, 5, 6, 7, 8, 9, 10, 11]) 2) by decide) (show ¬ ((gw_out [1, 2, 3, 4, 5, 6, 7, 8, 9, 10, 11]) 2) by decide)
          obtain ⟨M13, eM13⟩ : ∃ z, z = gw_up M11 (A 1) 2 (.inr (1, [.ref (A 2), .int (nI (rs + 1))])) := ⟨_, rfl⟩
          replace hW : gw_P G.1 vwCl G.2.2.2 M13 H := by rw [eM13]; exact hW
          have hf_x : M13 (A 0) = some (1, .inr (0, [.int lim, .int sc, .int E, .ref (A 1), .ref (A 3), .ref (A 4), .ref (A 5), .ref (A 6), .int (nI gco7)])) := by rw [eM13]; exact gw_keep hf_x hf_row (by decide)
          have hf_gone : M13 (A 6) = some (8, .inl (G.2.1 0, 512, .inl f8o7)) := by rw [eM13]; exact gw_keep hf_gone hf_row (by decide)
          have hf_nums : M13 (A 2) = some (3, .inl (G.2.1 0, 256, .inl (upd f3o7 (nI k18 : Int32).toNatClampNeg k))) := by rw [eM13]; exact gw_keep hf_nums hf_row (by decide)
          have hf_row : M13 (A 1) = some (2, .inr (1, [.ref (A 2), .int (nI (rs + 1))])) := by rw [eM13]; exact gw_up_self _ _ _ _
          rw [← eM13] at hF12
          rw [← eM13] at hXn hPn
          replace hX := hXn
          clear hXn hPn
          exact gw_vret hx hb hr hlocks hS hW (Nat.le_of_ble_eq_true rfl) (Nat.le_of_ble_eq_true rfl) d_Row_put_74 ⟨hX, hF12⟩
        · refine lv_aload_n hx hb d_Row_put_37 rfl (lv_at hl 1 rfl) ?_
          refine gw_get (ci := 1) (fs := [.ref (A 2), .int (nI rs)]) hx hb hts in_Row hown hE.K hW hf_row rfl 0 (by decide) (hts _ mw44) (fun _ h9 => h9) rfl d_Row_put_38 ?_
          refine lv_iload_n hx hb d_Row_put_41 rfl (lv_at hl 0 rfl) ?_
          refine lv_aload_n hx hb d_Row_put_42 rfl (lv_at hl 1 rfl) ?_
          refine gw_get (ci := 1) (fs := [.ref (A 2), .int (nI rs)]) hx hb hts in_Row hown hE.K hW hf_row rfl 0 (by decide) (hts _ mw44) (fun _ h9 => h9) rfl d_Row_put_43 ?_
          refine lv_iload_n hx hb d_Row_put_46 rfl (lv_at hl 0 rfl) ?_
          refine lv_iconst (v := 1) hx hb d_Row_put_47 (by decide) ?_
          refine lv_isub hx hb d_Row_put_48 ?_
          refine gw_iald (i := (nI k18) - 1) hx hb hE.K hW 0 hf_nums rfl (gx_in1 hk1 (by omega)) d_Row_put_49 ?_
          refine gw_iast (i := nI k18) (x := f3o7 ((nI k18) - 1 : Int32).toNatClampNeg) hx hb hE.K hW hS 0 hf_nums rfl (vp_in_nI (by omega) (by omega)) d_Row_put_50 (fun H locs hW hS => ?_)
          have hXn : gx_V G A lim sc E j n rs (gw_up Mw (A 2) 3 (.inl (G.2.1 0, 256, .inl (upd f3o7 (nI k18 : Int32).toNatClampNeg (f3o7 ((nI k18) - 1 : Int32).toNatClampNeg))))) := hX.up3 hf_nums
          have hPn : gp_S Mw (gw_up Mw (A 2) 3 (.inl (G.2.1 0, 256, .inl (upd f3o7 (nI k18 : Int32).toNatClampNeg (f3o7 ((nI k18) - 1 : Int32).toNatClampNeg))))) := gp_up hf_nums
          have hF14 : gw_fg (gw_out [1, 2, 3, 4, 5, 6, 7, 8, 9, 10, 11]) M (gw_up Mw (A 2) 3 (.inl (G.2.1 0, 256, .inl (upd f3o7 (nI k18 : Int32).toNatClampNeg (f3o7 ((nI k18) - 1 : Int32).toNatClampNeg))))) := gw_fg.up hF hf_nums (show ¬ ((gw_out [1, 2, 3, 4, 5, 6, 7, 8, 9, 10, 11]) 3) by decide) (show ¬ ((gw_out [1, 2, 3, 4, 5, 6, 7, 8, 9, 10, 11]) 3) by decide)
          obtain ⟨M15, eM15⟩ : ∃ z, z = gw_up Mw (A 2) 3 (.inl (G.2.1 0, 256, .inl (upd f3o7 (nI k18 : Int32).toNatClampNeg (f3o7 ((nI k18) - 1 : Int32).toNatClampNeg)))) := ⟨_, rfl⟩
          replace hW : gw_P G.1 vwCl G.2.2.2 M15 H := by rw [eM15]; exact hW
          have hf_x : M15 (A 0) = some (1, .inr (0, [.int lim, .int sc, .int E, .ref (A 1), .ref (A 3), .ref (A 4), .ref (A 5), .ref (A 6), .int (nI gco7)])) := by rw [eM15]; exact gw_keep hf_x hf_nums (by decide)
          have hf_row : M15 (A 1) = some (2, .inr (1, [.ref (A 2), .int (nI rs)])) := by rw [eM15]; exact gw_keep hf_row hf_nums (by decide)
          have hf_gone : M15 (A 6) = some (8, .inl (G.2.1 0, 512, .inl f8o7)) := by rw [eM15]; exact gw_keep hf_gone hf_nums (by decide)
          have hf_nums : M15 (A 2) = some (3, .inl (G.2.1 0, 256, .inl (upd f3o7 (nI k18 : Int32).toNatClampNeg (f3o7 ((nI k18) - 1 : Int32).toNatClampNeg)))) := by rw [eM15]; exact gw_up_self _ _ _ _
          rw [← eM15] at hF14
          rw [← eM15] at hXn hPn
          replace hX := hXn
          clear hXn hPn
          refine lv_iinc (v := (nI k18) + (-1)) (lv' := [(2, .int ((nI k18) + (-1))), (0, .ref (A 1)), (1, .int k)]) hx hb d_Row_put_51 hl (k := 0) rfl rfl (by decide) rfl (fun ls hl => ?_)
          refine lv_goto (tgt := 18) hx hb d_Row_put_54 (by decide) ?_
          rw [gx_dec (show 1 ≤ k18 by omega)] at hl
          apply ih18 (ls := ls) (k18 := k18 - 1) (H := H) (locs := locs) (Mw := M15) <;> first | exact lv_sub hl [0, 1, 2] rfl | exact hX | exact hW | exact hS | exact hF14 | omega | assumption
  · exact absurd (gx_lt256 h255) c9

set_option maxHeartbeats 4000000 in
set_option maxRecDepth 100000 in
theorem v_removeOldest (l : Launch) (G : gw_G) (M : gw_M) (A : Nat → Nat) (lim sc E : Int32) (j n rs : Nat) (hX : gx_V G A lim sc E j n rs M) (q : Nat) (hq : q ≤ rs) : Met l y_Row_removeOldest [.code y_Row_removeOldest b_Row_removeOldest 3 none] ({ frames := 1, cells := 0, slots := 0, locals := 40 }) (gw_Pc G M [.ref (A 1), .int (nI q)]) (gw_Qv G (fun M2 => gx_V G A lim sc E j n (rs - q) M2 ∧ gw_fg (gw_out [1, 2, 3, 4, 5, 6, 7, 8, 9, 10, 11]) M M2)) 0 0 (gw_A G) := by
  refine gw_start (by decide) (Nat.le_of_ble_eq_true rfl) (fun p9 e9 s m b9 mt9 c9 hx hb hr hml hown hlocks hin hE hB hW ls hl => ?_)
  have hts := hE.ts ([.ref (A 1), .int (nI q)] : List Value).toArray
  have hl : lv_has ls 3 [(0, .ref (A 1)), (1, .int (nI q))] := hl
  have hown : s.vm.findClass "Generations$Row" = some m.cls := hown
  have hj9 := hX.jobs.le
  have hn9 := hX.known.le
  have hr9 := hX.rs256
  refine gw_gen (I := fun z => gx_V G A lim sc E j n rs z) (P := gw_out [1, 2, 3, 4, 5, 6, 7, 8, 9, 10, 11]) hX hW (fun H locs Mw hW hS hX hF => ?_)
  have hX : gx_V G A lim sc E j n rs Mw := hX
  refine lv_aload_n hx hb d_Row_removeOldest_0 rfl (lv_at hl 0 rfl) ?_
  obtain ⟨gco1, f3o1, f8o1, hf_x, hf_row, hf_nums, hf_gone, hgco1, hrso1, -, -, -, -⟩ := id hX
  refine gw_get (ci := 1) (fs := [.ref (A 2), .int (nI rs)]) hx hb hts in_Row hown hE.K hW hf_row rfl 1 (by decide) (hts _ mw43) (fun _ h9 => h9) rfl d_Row_removeOldest_1 ?_
  refine lv_iload_n hx hb d_Row_removeOldest_4 rfl (lv_at hl 1 rfl) ?_
  refine lv_isub hx hb d_Row_removeOldest_5 ?_
  refine W.eq (g2 := F0 m 6 ls [.int (nI (rs - q))]) (by rw [pk_sub (by omega)]) ?_
  refine lv_istore_n (lv' := [(2, .int (nI (rs - q))), (0, .ref (A 1)), (1, .int (nI q))]) hx hb d_Row_removeOldest_6 rfl hl (by decide) rfl (fun ls hl => ?_)
  refine lv_iload_n hx hb d_Row_removeOldest_7 rfl (lv_at hl 2 rfl) ?_
  refine lv_if_lt (tgt := 15) hx hb d_Row_removeOldest_8 (by decide) (fun c8 => ?_) (fun c8 => ?_)
  · exact absurd c8 (nI_pos (by omega))
  · refine lv_iload_n hx hb d_Row_removeOldest_11 rfl (lv_at hl 0 rfl) ?_
    refine lv_if_ge (tgt := 16) hx hb d_Row_removeOldest_12 (by decide) (fun c12 => ?_) (fun c12 => ?_)
    · refine lv_aload_n hx hb d_Row_removeOldest_16 rfl (lv_at hl 1 rfl) ?_
      refine gw_get (ci := 1) (fs := [.ref (A 2), .int (nI rs)]) hx hb hts in_Row hown hE.K hW hf_row rfl 0 (by decide) (hts _ mw44) (fun _ h9 => h9) rfl d_Row_removeOldest_17 ?_
      refine lv_iload_n hx hb d_Row_removeOldest_20 rfl (lv_at hl 2 rfl) ?_
      refine lv_aload_n hx hb d_Row_removeOldest_21 rfl (lv_at hl 1 rfl) ?_
      refine gw_get (ci := 1) (fs := [.ref (A 2), .int (nI rs)]) hx hb hts in_Row hown hE.K hW hf_row rfl 0 (by decide) (hts _ mw44) (fun _ h9 => h9) rfl d_Row_removeOldest_22 ?_
      refine lv_iconst (v := 0) hx hb d_Row_removeOldest_25 (by decide) ?_
      refine lv_iload_n hx hb d_Row_removeOldest_26 rfl (lv_at hl 0 rfl) ?_
      refine gw_copyi (sp := nI q) (dp := 0) (n := nI (rs - q)) hx hb (hml.trans hl.1.symm) hown (hts _ mw134) (hts _ mw97) (hts _ mw98) (hts _ mw99) hE.K hW hS 0 0 hf_nums hf_nums rfl rfl (nI_pos (by omega)) (by decide) (nI_pos (by omega)) (by rw [nI_clamp (by omega), nI_clamp (by omega)]; omega) (by rw [nI_clamp (by omega), gi_c0]; omega) (Nat.le_of_ble_eq_true rfl) (Nat.le_of_ble_eq_true rfl) d_Row_removeOldest_27 (fun H locs hW hS => ?_)
      have hXn : gx_V G A lim sc E j n rs (gw_up Mw (A 2) 3 (.inl (G.2.1 0, 256, .inl (va_cpy f3o1 f3o1 (nI q : Int32).toNatClampNeg (0 : Int32).toNatClampNeg (nI (rs - q) : Int32).toNatClampNeg)))) := hX.up3 hf_nums
      have hPn : gp_S Mw (gw_up Mw (A 2) 3 (.inl (G.2.1 0, 256, .inl (va_cpy f3o1 f3o1 (nI q : Int32).toNatClampNeg (0 : Int32).toNatClampNeg (nI (rs - q) : Int32).toNatClampNeg)))) := gp_up hf_nums
      have hF2 : gw_fg (gw_out [1, 2, 3, 4, 5, 6, 7, 8, 9, 10, 11]) M (gw_up Mw (A 2) 3 (.inl (G.2.1 0, 256, .inl (va_cpy f3o1 f3o1 (nI q : Int32).toNatClampNeg (0 : Int32).toNatClampNeg (nI (rs - q) : Int32).toNatClampNeg)))) := gw_fg.up hF hf_nums (show ¬ ((gw_out [1, 2, 3, 4, 5, 6, 7, 8, 9, 10, 11]) 3) by decide) (show ¬ ((gw_out [1, 2, 3, 4, 5, 6, 7, 8, 9, 10, 11]) 3) by decide)
      obtain ⟨M3, eM3⟩ : ∃ z, z = gw_up Mw (A 2) 3 (.inl (G.2.1 0, 256, .inl (va_cpy f3o1 f3o1 (nI q : Int32).toNatClampNeg (0 : Int32).toNatClampNeg (nI (rs - q) : Int32).toNatClampNeg))) := ⟨_, rfl⟩
      replace hW : gw_P G.1 vwCl G.2.2.2 M3 H := by rw [eM3]; exact hW
      have hf_x : M3 (A 0) = some (1, .inr (0, [.int lim, .int sc, .int E, .ref (A 1), .ref (A 3), .ref (A 4), .ref (A 5), .ref (A 6), .int (nI gco1)])) := by rw [eM3]; exact gw_keep hf_x hf_nums (by decide)
      have hf_row : M3 (A 1) = some (2, .inr (1, [.ref (A 2), .int (nI rs)])) := by rw [eM3]; exact gw_keep hf_row hf_nums (by decide)
      have hf_gone : M3 (A 6) = some (8, .inl (G.2.1 0, 512, .inl f8o1)) := by rw [eM3]; exact gw_keep hf_gone hf_nums (by decide)
      have hf_nums : M3 (A 2) = some (3, .inl (G.2.1 0, 256, .inl (va_cpy f3o1 f3o1 (nI q : Int32).toNatClampNeg (0 : Int32).toNatClampNeg (nI (rs - q) : Int32).toNatClampNeg))) := by rw [eM3]; exact gw_up_self _ _ _ _
      rw [← eM3] at hF2
      rw [← eM3] at hXn hPn
      replace hX := hXn
      clear hXn hPn
      refine lv_aload_n hx hb d_Row_removeOldest_30 rfl (lv_at hl 1 rfl) ?_
      refine lv_iload_n hx hb d_Row_removeOldest_31 rfl (lv_at hl 0 rfl) ?_
      refine gw_put (ci := 1) (fs := [.ref (A 2), .int (nI rs)]) (v := .int (nI (rs - q))) (ty := .int) hx hb hts in_Row t_Row t_Row_ok n_Row hown hE.K hW hS hf_row rfl 1 (by decide) (hts _ mw43) (fun _ h9 => h9) rfl (by decide +kernel) rfl rfl (Nat.le_of_ble_eq_true rfl) d_Row_removeOldest_32 (fun H locs hW hS => ?_)
      have hXn : gx_V G A lim sc E j n (rs - q) (gw_up M3 (A 1) 2 (.inr (1, [.ref (A 2), .int (nI (rs - q))]))) := hX.up2 hf_row (by omega)
      have hPn : gp_S M3 (gw_up M3 (A 1) 2 (.inr (1, [.ref (A 2), .int (nI (rs - q))]))) := gp_up hf_row
      have hF4 : gw_fg (gw_out [1, 2, 3, 4, 5, 6, 7, 8, 9, 10, 11]) M (gw_up M3 (A 1) 2 (.inr (1, [.ref (A 2), .int (nI (rs - q))]))) := gw_fg.up hF2 hf_row (show ¬ ((gw_out [1, 2, 3, 4, 5, 6, 7, 8, 9, 10, 11]) 2) by decide) (show ¬ ((gw_out [1, 2, 3, 4, 5, 6, 7, 8, 9, 10, 11]) 2) by decide)
      obtain ⟨M5, eM5⟩ : ∃ z, z = gw_up M3 (A 1) 2 (.inr (1, [.ref (A 2), .int (nI (rs - q))])) := ⟨_, rfl⟩
      replace hW : gw_P G.1 vwCl G.2.2.2 M5 H := by rw [eM5]; exact hW
      have hf_x : M5 (A 0) = some (1, .inr (0, [.int lim, .int sc, .int E, .ref (A 1), .ref (A 3), .ref (A 4), .ref (A 5), .ref (A 6), .int (nI gco1)])) := by rw [eM5]; exact gw_keep hf_x hf_row (by decide)
      have hf_gone : M5 (A 6) = some (8, .inl (G.2.1 0, 512, .inl f8o1)) := by rw [eM5]; exact gw_keep hf_gone hf_row (by decide)
      have hf_nums : M5 (A 2) = some (3, .inl (G.2.1 0, 256, .inl (va_cpy f3o1 f3o1 (nI q : Int32).toNatClampNeg (0 : Int32).toNatClampNeg (nI (rs - q) : Int32).toNatClampNeg))) := by rw [eM5]; exact gw_keep hf_nums hf_row (by decide)
      have hf_row : M5 (A 1) = some (2, .inr (1, [.ref (A 2), .int (nI (rs - q))])) := by rw [eM5]; exact gw_up_self _ _ _ _
      rw [← eM5] at hF4
      rw [← eM5] at hXn hPn
      replace hX := hXn
      clear hXn hPn
      exact gw_vret hx hb hr hlocks hS hW (Nat.le_of_ble_eq_true rfl) (Nat.le_of_ble_eq_true rfl) d_Row_removeOldest_35 ⟨hX, hF4⟩
    · exact absurd (nI_pos' (by omega)) c12

set_option maxHeartbeats 4000000 in
set_option maxRecDepth 100000 in
theorem v_letGo (l : Launch) (G : gw_G) (M : gw_M) (A : Nat → Nat) (lim sc E : Int32) (j n rs : Nat) (hX : gx_V G A lim sc E j n rs M) (k : Int32) : Met l y_X_letGo [.code y_X_letGo b_X_letGo 3 none] ({ frames := 4, cells := 0, slots := 0, locals := 87 }) (gw_Pc G M [.ref (A 0), .int k]) (gw_Qv G (fun M2 => gx_V G A lim sc E j n rs M2 ∧ gw_fg (gw_out [1, 2, 3, 4, 5, 6, 7, 8, 9, 10, 11]) M M2)) 0 0 (gw_A G) := by
  refine gw_start (by decide) (Nat.le_of_ble_eq_true rfl) (fun p9 e9 s m b9 mt9 c9 hx hb hr hml hown hlocks hin hE hB hW ls hl => ?_)
  have hts := hE.ts ([.ref (A 0), .int k] : List Value).toArray
  have hl : lv_has ls 3 [(0, .ref (A 0)), (1, .int k)] := hl
  have hown : s.vm.findClass "Generations" = some m.cls := hown
  have hj9 := hX.jobs.le
  have hn9 := hX.known.le
  have hr9 := hX.rs256
  refine gw_gen (I := fun z => gx_V G A lim sc E j n rs z) (P := gw_out [1, 2, 3, 4, 5, 6, 7, 8, 9, 10, 11]) hX hW (fun H locs Mw hW hS hX hF => ?_)
  have hX : gx_V G A lim sc E j n rs Mw := hX
  refine lv_aload_n hx hb d_X_letGo_0 rfl (lv_at hl 0 rfl) ?_
  refine lv_iload_n hx hb d_X_letGo_1 rfl (lv_at hl 1 rfl) ?_
  obtain ⟨gco1, f3o1, f8o1, hf_x, hf_row, hf_nums, hf_gone, hgco1, hrso1, -, -, -, -⟩ := id hX
  refine gr_callr (va_runV (As := [.int k]) (rest := []) ⟨hx, hb, hml, hown, hts⟩ (r_find l G Mw A lim sc E j n hX.w k  ) (cwV 1 hts (gw_gv mw54 mw55 mw56 mw42 mw53) rfl rfl rfl (by decide +kernel) ⟨Nat.le_of_ble_eq_true rfl, Nat.le_of_ble_eq_true rfl⟩) (gw_pv hE hB hS hW rfl hf_x) rfl rfl hl.1 rfl (lv_room (Nat.le_of_ble_eq_true rfl)) d_X_letGo_2 ⟨Nat.le_of_ble_eq_true rfl, Nat.le_of_ble_eq_true rfl⟩) (fun r2 hw3 => ?_)
  refine lv_astore_n (lv' := [(2, .ref r2), (0, .ref (A 0)), (1, .int k)]) hx hb d_X_letGo_5 rfl hl (by decide) rfl (fun ls hl => ?_)
  refine lv_aload_n hx hb d_X_letGo_6 rfl (lv_at hl 0 rfl) ?_
  refine lv_aload_n hx hb d_X_letGo_7 rfl (lv_at hl 1 rfl) ?_
  refine gw_get (ci := 0) (fs := [.int lim, .int sc, .int E, .ref (A 1), .ref (A 3), .ref (A 4), .ref (A 5), .ref (A 6), .int (nI gco1)]) hx hb hts in_X hown hE.K hW hf_x rfl 1 (by decide) (hts _ mw135) (fun _ h9 => h9) rfl d_X_letGo_8 ?_
  refine lv_if_eq (tgt := 18) hx hb d_X_letGo_11 (by decide) (fun c11 => ?_) (fun c11 => ?_)
  · refine lv_iconst (v := 4) hx hb d_X_letGo_18 (by decide) ?_
    obtain ⟨u4v0, u4v1, u4v2, u4v3, u4v4, hf_u4⟩ := hX.g9 hw3
    refine gw_putN (ci := 2) (fs := [.int u4v0, .int u4v1, .int u4v2, .int u4v3, .int u4v4]) (v := .int 4) (ty := .int) hx hb hts in_Gen t_Gen t_Gen_ok n_Gen hown hE.K hW hS hf_u4 rfl 1 (by decide) (hts _ mw36) (fun _ h9 => h9) rfl (by decide +kernel) rfl rfl (Nat.le_of_ble_eq_true rfl) d_X_letGo_19 (fun H locs hW hS => ?_)
    have hXn : gx_V G A lim sc E j n rs (gw_up Mw r2 9 (.inr (2, [.int u4v0, .int 4, .int u4v2, .int u4v3, .int u4v4]))) := hX.up9 hf_u4
    have hPn : gp_S Mw (gw_up Mw r2 9 (.inr (2, [.int u4v0, .int 4, .int u4v2, .int u4v3, .int u4v4]))) := gp_up hf_u4
    have hF5 : gw_fg (gw_out [1, 2, 3, 4, 5, 6, 7, 8, 9, 10, 11]) M (gw_up Mw r2 9 (.inr (2, [.int u4v0, .int 4, .int u4v2, .int u4v3, .int u4v4]))) := gw_fg.up hF hf_u4 (show ¬ ((gw_out [1, 2, 3, 4, 5, 6, 7, 8, 9, 10, 11]) 9) by decide) (show ¬ ((gw_out [1, 2, 3, 4, 5, 6, 7, 8, 9, 10, 11]) 9) by decide)
    obtain ⟨M6, eM6⟩ : ∃ z, z = gw_up Mw r2 9 (.inr (2, [.int u4v0, .int 4, .int u4v2, .int u4v3, .int u4v4])) := ⟨_, rfl⟩
    replace hW : gw_P G.1 vwCl G.2.2.2 M6 H := by rw [eM6]; exact hW
    have hf_x : M6 (A 0) = some (1, .inr (0, [.int lim, .int sc, .int E, .ref (A 1), .ref (A 3), .ref (A 4), .ref (A 5), .ref (A 6), .int (nI gco1)])) := by rw [eM6]; exact gw_keep hf_x hf_u4 (by decide)
    have hf_row : M6 (A 1) = some (2, .inr (1, [.ref (A 2), .int (nI rs)])) := by rw [eM6]; exact gw_keep hf_row hf_u4 (by decide)
    have hf_nums : M6 (A 2) = some (3, .inl (G.2.1 0, 256, .inl f3o1)) := by rw [eM6]; exact gw_keep hf_nums hf_u4 (by decide)
    have hf_gone : M6 (A 6) = some (8, .inl (G.2.1 0, 512, .inl f8o1)) := by rw [eM6]; exact gw_keep hf_gone hf_u4 (by decide)
    have hf_u4 : M6 r2 = some (9, .inr (2, [.int u4v0, .int 4, .int u4v2, .int u4v3, .int u4v4])) := by rw [eM6]; exact gw_up_self _ _ _ _
    rw [← eM6] at hF5
    rw [← eM6] at hXn hPn
    replace hX := hXn
    replace hw3 := hPn _ _ hw3
    clear hXn hPn
    refine lv_aload_n hx hb d_X_letGo_22 rfl (lv_at hl 1 rfl) ?_
    refine gw_get (ci := 0) (fs := [.int lim, .int sc, .int E, .ref (A 1), .ref (A 3), .ref (A 4), .ref (A 5), .ref (A 6), .int (nI gco1)]) hx hb hts in_X hown hE.K hW hf_x rfl 8 (by decide) (hts _ mw51) (fun _ h9 => h9) rfl d_X_letGo_23 ?_
    refine lv_aload_n hx hb d_X_letGo_26 rfl (lv_at hl 1 rfl) ?_
    refine gw_get (ci := 0) (fs := [.int lim, .int sc, .int E, .ref (A 1), .ref (A 3), .ref (A 4), .ref (A 5), .ref (A 6), .int (nI gco1)]) hx hb hts in_X hown hE.K hW hf_x rfl 7 (by decide) (hts _ mw52) (fun _ h9 => h9) rfl d_X_letGo_27 ?_
    refine gw_alen (v := 512) hx hb hE.K hW 0 hf_gone rfl rfl d_X_letGo_30 ?_
    refine lv_icmp_ge (tgt := 54) hx hb d_X_letGo_31 (by decide) (fun c31 => ?_) (fun c31 => ?_)
    · exact gw_vret hx hb hr hlocks hS hW (Nat.le_of_ble_eq_true rfl) (Nat.le_of_ble_eq_true rfl) d_X_letGo_54 ⟨hX, hF5⟩
    · have hgl := gx_ltN (a := gco1) (b := 512) c31 (by omega) (by omega)
      refine lv_aload_n hx hb d_X_letGo_34 rfl (lv_at hl 1 rfl) ?_
      refine gw_get (ci := 0) (fs := [.int lim, .int sc, .int E, .ref (A 1), .ref (A 3), .ref (A 4), .ref (A 5), .ref (A 6), .int (nI gco1)]) hx hb hts in_X hown hE.K hW hf_x rfl 7 (by decide) (hts _ mw52) (fun _ h9 => h9) rfl d_X_letGo_35 ?_
      refine lv_aload_n hx hb d_X_letGo_38 rfl (lv_at hl 1 rfl) ?_
      refine gw_get (ci := 0) (fs := [.int lim, .int sc, .int E, .ref (A 1), .ref (A 3), .ref (A 4), .ref (A 5), .ref (A 6), .int (nI gco1)]) hx hb hts in_X hown hE.K hW hf_x rfl 8 (by decide) (hts _ mw51) (fun _ h9 => h9) rfl d_X_letGo_39 ?_
      refine lv_iload_n hx hb d_X_letGo_42 rfl (lv_at hl 2 rfl) ?_
      refine gw_iast (i := nI gco1) (x := k) hx hb hE.K hW hS 0 hf_gone rfl (vp_in_nI hgl (by omega)) d_X_letGo_43 (fun H locs hW hS => ?_)
      have hXn : gx_V G A lim sc E j n rs (gw_up M6 (A 6) 8 (.inl (G.2.1 0, 512, .inl (upd f8o1 (nI gco1 : Int32).toNatClampNeg k)))) := hX.up8 hf_gone
      have hPn : gp_S M6 (gw_up M6 (A 6) 8 (.inl (G.2.1 0, 512, .inl (upd f8o1 (nI gco1 : Int32).toNatClampNeg k)))) := gp_up hf_gone
      have hF7 : gw_fg (gw_out [1, 2, 3, 4, 5, 6, 7, 8, 9, 10, 11]) M (gw_up M6 (A 6) 8 (.inl (G.2.1 0, 512, .inl (upd f8o1 (nI gco1 : Int32).toNatClampNeg k)))) := gw_fg.up hF5 hf_gone (show ¬ ((gw_out [1, 2, 3, 4, 5, 6, 7, 8, 9, 10, 11]) 8) by decide) (show ¬ ((gw_out [1, 2, 3, 4, 5, 6, 7, 8, 9, 10, 11]) 8) by decide)
      obtain ⟨M8, eM8⟩ : ∃ z, z = gw_up M6 (A 6) 8 (.inl (G.2.1 0, 512, .inl (upd f8o1 (nI gco1 : Int32).toNatClampNeg k))) := ⟨_, rfl⟩
      replace hW : gw_P G.1 vwCl G.2.2.2 M8 H := by rw [eM8]; exact hW
      have hf_x : M8 (A 0) = some (1, .inr (0, [.int lim, .int sc, .int E, .ref (A 1), .ref (A 3), .ref (A 4), .ref (A 5), .ref (A 6), .int (nI gco1)])) := by rw [eM8]; exact gw_keep hf_x hf_gone (by decide)
      have hf_row : M8 (A 1) = some (2, .inr (1, [.ref (A 2), .int (nI rs)])) := by rw [eM8]; exact gw_keep hf_row hf_gone (by decide)
      have hf_nums : M8 (A 2) = some (3, .inl (G.2.1 0, 256, .inl f3o1)) := by rw [eM8]; exact gw_keep hf_nums hf_gone (by decide)
      have hf_u4 : M8 r2 = some (9, .inr (2, [.int u4v0, .int 4, .int u4v2, .int u4v3, .int u4v4])) := by rw [eM8]; exact gw_keep hf_u4 hf_gone (by decide)
      have hf_gone : M8 (A 6) = some (8, .inl (G.2.1 0, 512, .inl (upd f8o1 (nI gco1 : Int32).toNatClampNeg k))) := by rw [eM8]; exact gw_up_self _ _ _ _
      rw [← eM8] at hF7
      rw [← eM8] at hXn hPn
      replace hX := hXn
      replace hw3 := hPn _ _ hw3
      clear hXn hPn
      refine lv_aload_n hx hb d_X_letGo_44 rfl (lv_at hl 1 rfl) ?_
      refine lv_dup hx hb d_X_letGo_45 rfl ?_
      refine gw_get (ci := 0) (fs := [.int lim, .int sc, .int E, .ref (A 1), .ref (A 3), .ref (A 4), .ref (A 5), .ref (A 6), .int (nI gco1)]) hx hb hts in_X hown hE.K hW hf_x rfl 8 (by decide) (hts _ mw51) (fun _ h9 => h9) rfl d_X_letGo_46 ?_
      refine lv_iconst (v := 1) hx hb d_X_letGo_49 (by decide) ?_
      refine lv_iadd hx hb d_X_letGo_50 ?_
      refine W.eq (g2 := F0 m 51 ls [.int (nI (gco1 + 1)), .ref (A 0)]) (by rw [nI_1]) ?_
      refine gw_put (ci := 0) (fs := [.int lim, .int sc, .int E, .ref (A 1), .ref (A 3), .ref (A 4), .ref (A 5), .ref (A 6), .int (nI gco1)]) (v := .int (nI (gco1 + 1))) (ty := .int) hx hb hts in_X t_X t_X_ok n_X hown hE.K hW hS hf_x rfl 8 (by decide) (hts _ mw51) (fun _ h9 => h9) rfl (by decide +kernel) rfl rfl (Nat.le_of_ble_eq_true rfl) d_X_letGo_51 (fun H locs hW hS => ?_)
      have hXn : gx_V G A lim sc E j n rs (gw_up M8 (A 0) 1 (.inr (0, [.int lim, .int sc, .int E, .ref (A 1), .ref (A 3), .ref (A 4), .ref (A 5), .ref (A 6), .int (nI (gco1 + 1))]))) := hX.up1 hf_x (by omega)
      have hPn : gp_S M8 (gw_up M8 (A 0) 1 (.inr (0, [.int lim, .int sc, .int E, .ref (A 1), .ref (A 3), .ref (A 4), .ref (A 5), .ref (A 6), .int (nI (gco1 + 1))]))) := gp_up hf_x
      have hF9 : gw_fg (gw_out [1, 2, 3, 4, 5, 6, 7, 8, 9, 10, 11]) M (gw_up M8 (A 0) 1 (.inr (0, [.int lim, .int sc, .int E, .ref (A 1), .ref (A 3), .ref (A 4), .ref (A 5), .ref (A 6), .int (nI (gco1 + 1))]))) := gw_fg.up hF7 hf_x (show ¬ ((gw_out [1, 2, 3, 4, 5, 6, 7, 8, 9, 10, 11]) 1) by decide) (show ¬ ((gw_out [1, 2, 3, 4, 5, 6, 7, 8, 9, 10, 11]) 1) by decide)
      obtain ⟨M10, eM10⟩ : ∃ z, z = gw_up M8 (A 0) 1 (.inr (0, [.int lim, .int sc, .int E, .ref (A 1), .ref (A 3), .ref (A 4), .ref (A 5), .ref (A 6), .int (nI (gco1 + 1))])) := ⟨_, rfl⟩
      replace hW : gw_P G.1 vwCl G.2.2.2 M10 H := by rw [eM10]; exact hW
      have hf_row : M10 (A 1) = some (2, .inr (1, [.ref (A 2), .int (nI rs)])) := by rw [eM10]; exact gw_keep hf_row hf_x (by decide)
      have hf_nums : M10 (A 2) = some (3, .inl (G.2.1 0, 256, .inl f3o1)) := by rw [eM10]; exact gw_keep hf_nums hf_x (by decide)
      have hf_u4 : M10 r2 = some (9, .inr (2, [.int u4v0, .int 4, .int u4v2, .int u4v3, .int u4v4])) := by rw [eM10]; exact gw_keep hf_u4 hf_x (by decide)
      have hf_gone : M10 (A 6) = some (8, .inl (G.2.1 0, 512, .inl (upd f8o1 (nI gco1 : Int32).toNatClampNeg k))) := by rw [eM10]; exact gw_keep hf_gone hf_x (by decide)
      have hf_x : M10 (A 0) = some (1, .inr (0, [.int lim, .int sc, .int E, .ref (A 1), .ref (A 3), .ref (A 4), .ref (A 5), .ref (A 6), .int (nI (gco1 + 1))])) := by rw [eM10]; exact gw_up_self _ _ _ _
      rw [← eM10] at hF9
      rw [← eM10] at hXn hPn
      replace hX := hXn
      replace hw3 := hPn _ _ hw3
      clear hXn hPn
      exact gw_vret hx hb hr hlocks hS hW (Nat.le_of_ble_eq_true rfl) (Nat.le_of_ble_eq_true rfl) d_X_letGo_54 ⟨hX, hF9⟩
  · refine lv_iconst (v := 0) hx hb d_X_letGo_14 (by decide) ?_
    refine lv_goto (tgt := 19) hx hb d_X_letGo_15 (by decide) ?_
    obtain ⟨u11v0, u11v1, u11v2, u11v3, u11v4, hf_u11⟩ := hX.g9 hw3
    refine gw_putN (ci := 2) (fs := [.int u11v0, .int u11v1, .int u11v2, .int u11v3, .int u11v4]) (v := .int 0) (ty := .int) hx hb hts in_Gen t_Gen t_Gen_ok n_Gen hown hE.K hW hS hf_u11 rfl 1 (by decide) (hts _ mw36) (fun _ h9 => h9) rfl (by decide +kernel) rfl rfl (Nat.le_of_ble_eq_true rfl) d_X_letGo_19 (fun H locs hW hS => ?_)
    have hXn : gx_V G A lim sc E j n rs (gw_up Mw r2 9 (.inr (2, [.int u11v0, .int 0, .int u11v2, .int u11v3, .int u11v4]))) := hX.up9 hf_u11
    have hPn : gp_S Mw (gw_up Mw r2 9 (.inr (2, [.int u11v0, .int 0, .int u11v2, .int u11v3, .int u11v4]))) := gp_up hf_u11
    have hF12 : gw_fg (gw_out [1, 2, 3, 4, 5, 6, 7, 8, 9, 10, 11]) M (gw_up Mw r2 9 (.inr (2, [.int u11v0, .int 0, .int u11v2, .int u11v3, .int u11v4]))) := gw_fg.up hF hf_u11 (show ¬ ((gw_out [1, 2, 3, 4, 5, 6, 7, 8, 9, 10, 11]) 9) by decide) (show ¬ ((gw_out [1, 2, 3, 4, 5, 6, 7, 8, 9, 10, 11]) 9) by decide)
    obtain ⟨M13, eM13⟩ : ∃ z, z = gw_up Mw r2 9 (.inr (2, [.int u11v0, .int 0, .int u11v2, .int u11v3, .int u11v4])) := ⟨_, rfl⟩
    replace hW : gw_P G.1 vwCl G.2.2.2 M13 H := by rw [eM13]; exact hW
    have hf_x : M13 (A 0) = some (1, .inr (0, [.int lim, .int sc, .int E, .ref (A 1), .ref (A 3), .ref (A 4), .ref (A 5), .ref (A 6), .int (nI gco1)])) := by rw [eM13]; exact gw_keep hf_x hf_u11 (by decide)
    have hf_row : M13 (A 1) = some (2, .inr (1, [.ref (A 2), .int (nI rs)])) := by rw [eM13]; exact gw_keep hf_row hf_u11 (by decide)
    have hf_nums : M13 (A 2) = some (3, .inl (G.2.1 0, 256, .inl f3o1)) := by rw [eM13]; exact gw_keep hf_nums hf_u11 (by decide)
    have hf_gone : M13 (A 6) = some (8, .inl (G.2.1 0, 512, .inl f8o1)) := by rw [eM13]; exact gw_keep hf_gone hf_u11 (by decide)
    have hf_u11 : M13 r2 = some (9, .inr (2, [.int u11v0, .int 0, .int u11v2, .int u11v3, .int u11v4])) := by rw [eM13]; exact gw_up_self _ _ _ _
    rw [← eM13] at hF12
    rw [← eM13] at hXn hPn
    replace hX := hXn
    replace hw3 := hPn _ _ hw3
    clear hXn hPn
    refine lv_aload_n hx hb d_X_letGo_22 rfl (lv_at hl 1 rfl) ?_
    refine gw_get (ci := 0) (fs := [.int lim, .int sc, .int E, .ref (A 1), .ref (A 3), .ref (A 4), .ref (A 5), .ref (A 6), .int (nI gco1)]) hx hb hts in_X hown hE.K hW hf_x rfl 8 (by decide) (hts _ mw51) (fun _ h9 => h9) rfl d_X_letGo_23 ?_
    refine lv_aload_n hx hb d_X_letGo_26 rfl (lv_at hl 1 rfl) ?_
    refine gw_get (ci := 0) (fs := [.int lim, .int sc, .int E, .ref (A 1), .ref (A 3), .ref (A 4), .ref (A 5), .ref (A 6), .int (nI gco1)]) hx hb hts in_X hown hE.K hW hf_x rfl 7 (by decide) (hts _ mw52) (fun _ h9 => h9) rfl d_X_letGo_27 ?_
    refine gw_alen (v := 512) hx hb hE.K hW 0 hf_gone rfl rfl d_X_letGo_30 ?_
    refine lv_icmp_ge (tgt := 54) hx hb d_X_letGo_31 (by decide) (fun c31 => ?_) (fun c31 => ?_)
    · exact gw_vret hx hb hr hlocks hS hW (Nat.le_of_ble_eq_true rfl) (Nat.le_of_ble_eq_true rfl) d_X_letGo_54 ⟨hX, hF12⟩
    · have hgl := gx_ltN (a := gco1) (b := 512) c31 (by omega) (by omega)
      refine lv_aload_n hx hb d_X_letGo_34 rfl (lv_at hl 1 rfl) ?_
      refine gw_get (ci := 0) (fs := [.int lim, .int sc, .int E, .ref (A 1), .ref (A 3), .ref (A 4), .ref (A 5), .ref (A 6), .int (nI gco1)]) hx hb hts in_X hown hE.K hW hf_x rfl 7 (by decide) (hts _ mw52) (fun _ h9 => h9) rfl d_X_letGo_35 ?_
      refine lv_aload_n hx hb d_X_letGo_38 rfl (lv_at hl 1 rfl) ?_
      refine gw_get (ci := 0) (fs := [.int lim, .int sc, .int E, .ref (A 1), .ref (A 3), .ref (A 4), .ref (A 5), .ref (A 6), .int (nI gco1)]) hx hb hts in_X hown hE.K hW hf_x rfl 8 (by decide) (hts _ mw51) (fun _ h9 => h9) rfl d_X_letGo_39 ?_
      refine lv_iload_n hx hb d_X_letGo_42 rfl (lv_at hl 2 rfl) ?_
      refine gw_iast (i := nI gco1) (x := k) hx hb hE.K hW hS 0 hf_gone rfl (vp_in_nI hgl (by omega)) d_X_letGo_43 (fun H locs hW hS => ?_)
      have hXn : gx_V G A lim sc E j n rs (gw_up M13 (A 6) 8 (.inl (G.2.1 0, 512, .inl (upd f8o1 (nI gco1 : Int32).toNatClampNeg k)))) := hX.up8 hf_gone
      have hPn : gp_S M13 (gw_up M13 (A 6) 8 (.inl (G.2.1 0, 512, .inl (upd f8o1 (nI gco1 : Int32).toNatClampNeg k)))) := gp_up hf_gone
      have hF14 : gw_fg (gw_out [1, 2, 3, 4, 5, 6, 7, 8, 9, 10, 11]) M (gw_up M13 (A 6) 8 (.inl (G.2.1 0, 512, .inl (upd f8o1 (nI gco1 : Int32).toNatClampNeg k)))) := gw_fg.up hF12 hf_gone (show ¬ ((gw_out [1, 2, 3, 4, 5, 6, 7, 8, 9, 10, 11]) 8) by decide) (show ¬ ((gw_out [1, 2, 3, 4, 5, 6, 7, 8, 9, 10, 11]) 8) by decide)
      obtain ⟨M15, eM15⟩ : ∃ z, z = gw_up M13 (A 6) 8 (.inl (G.2.1 0, 512, .inl (upd f8o1 (nI gco1 : Int32).toNatClampNeg k))) := ⟨_, rfl⟩
      replace hW : gw_P G.1 vwCl G.2.2.2 M15 H := by rw [eM15]; exact hW
      have hf_x : M15 (A 0) = some (1, .inr (0, [.int lim, .int sc, .int E, .ref (A 1), .ref (A 3), .ref (A 4), .ref (A 5), .ref (A 6), .int (nI gco1)])) := by rw [eM15]; exact gw_keep hf_x hf_gone (by decide)
      have hf_row : M15 (A 1) = some (2, .inr (1, [.ref (A 2), .int (nI rs)])) := by rw [eM15]; exact gw_keep hf_row hf_gone (by decide)
      have hf_nums : M15 (A 2) = some (3, .inl (G.2.1 0, 256, .inl f3o1)) := by rw [eM15]; exact gw_keep hf_nums hf_gone (by decide)
      have hf_u11 : M15 r2 = some (9, .inr (2, [.int u11v0, .int 0, .int u11v2, .int u11v3, .int u11v4])) := by rw [eM15]; exact gw_keep hf_u11 hf_gone (by decide)
      have hf_gone : M15 (A 6) = some (8, .inl (G.2.1 0, 512, .inl (upd f8o1 (nI gco1 : Int32).toNatClampNeg k))) := by rw [eM15]; exact gw_up_self _ _ _ _
      rw [← eM15] at hF14
      rw [← eM15] at hXn hPn
      replace hX := hXn
      replace hw3 := hPn _ _ hw3
      clear hXn hPn
      refine lv_aload_n hx hb d_X_letGo_44 rfl (lv_at hl 1 rfl) ?_
      refine lv_dup hx hb d_X_letGo_45 rfl ?_
      refine gw_get (ci := 0) (fs := [.int lim, .int sc, .int E, .ref (A 1), .ref (A 3), .ref (A 4), .ref (A 5), .ref (A 6), .int (nI gco1)]) hx hb hts in_X hown hE.K hW hf_x rfl 8 (by decide) (hts _ mw51) (fun _ h9 => h9) rfl d_X_letGo_46 ?_
      refine lv_iconst (v := 1) hx hb d_X_letGo_49 (by decide) ?_
      refine lv_iadd hx hb d_X_letGo_50 ?_
      refine W.eq (g2 := F0 m 51 ls [.int (nI (gco1 + 1)), .ref (A 0)]) (by rw [nI_1]) ?_
      refine gw_put (ci := 0) (fs := [.int lim, .int sc, .int E, .ref (A 1), .ref (A 3), .ref (A 4), .ref (A 5), .ref (A 6), .int (nI gco1)]) (v := .int (nI (gco1 + 1))) (ty := .int) hx hb hts in_X t_X t_X_ok n_X hown hE.K hW hS hf_x rfl 8 (by decide) (hts _ mw51) (fun _ h9 => h9) rfl (by decide +kernel) rfl rfl (Nat.le_of_ble_eq_true rfl) d_X_letGo_51 (fun H locs hW hS => ?_)
      have hXn : gx_V G A lim sc E j n rs (gw_up M15 (A 0) 1 (.inr (0, [.int lim, .int sc, .int E, .ref (A 1), .ref (A 3), .ref (A 4), .ref (A 5), .ref (A 6), .int (nI (gco1 + 1))]))) := hX.up1 hf_x (by omega)
      have hPn : gp_S M15 (gw_up M15 (A 0) 1 (.inr (0, [.int lim, .int sc, .int E, .ref (A 1), .ref (A 3), .ref (A 4), .ref (A 5), .ref (A 6), .int (nI (gco1 + 1))]))) := gp_up hf_x
      have hF16 : gw_fg (gw_out [1, 2, 3, 4, 5, 6, 7, 8, 9, 10, 11]) M (gw_up M15 (A 0) 1 (.inr (0, [.int lim, .int sc, .int E, .ref (A 1), .ref (A 3), .ref (A 4), .ref (A 5), .ref (A 6), .int (nI (gco1 + 1))]))) := gw_fg.up hF14 hf_x (show ¬ ((gw_out [1, 2, 3, 4, 5, 6, 7, 8, 9, 10, 11]) 1) by decide) (show ¬ ((gw_out [1, 2, 3, 4, 5, 6, 7, 8, 9, 10, 11]) 1) by decide)
      obtain ⟨M17, eM17⟩ : ∃ z, z = gw_up M15 (A 0) 1 (.inr (0, [.int lim, .int sc, .int E, .ref (A 1), .ref (A 3), .ref (A 4), .ref (A 5), .ref (A 6), .int (nI (gco1 + 1))])) := ⟨_, rfl⟩
      replace hW : gw_P G.1 vwCl G.2.2.2 M17 H := by rw [eM17]; exact hW
      have hf_row : M17 (A 1) = some (2, .inr (1, [.ref (A 2), .int (nI rs)])) := by rw [eM17]; exact gw_keep hf_row hf_x (by decide)
      have hf_nums : M17 (A 2) = some (3, .inl (G.2.1 0, 256, .inl f3o1)) := by rw [eM17]; exact gw_keep hf_nums hf_x (by decide)
      have hf_u11 : M17 r2 = some (9, .inr (2, [.int u11v0, .int 0, .int u11v2, .int u11v3, .int u11v4])) := by rw [eM17]; exact gw_keep hf_u11 hf_x (by decide)
      have hf_gone : M17 (A 6) = some (8, .inl (G.2.1 0, 512, .inl (upd f8o1 (nI gco1 : Int32).toNatClampNeg k))) := by rw [eM17]; exact gw_keep hf_gone hf_x (by decide)
      have hf_x : M17 (A 0) = some (1, .inr (0, [.int lim, .int sc, .int E, .ref (A 1), .ref (A 3), .ref (A 4), .ref (A 5), .ref (A 6), .int (nI (gco1 + 1))])) := by rw [eM17]; exact gw_up_self _ _ _ _
      rw [← eM17] at hF16
      rw [← eM17] at hXn hPn
      replace hX := hXn
      replace hw3 := hPn _ _ hw3
      clear hXn hPn
      exact gw_vret hx hb hr hlocks hS hW (Nat.le_of_ble_eq_true rfl) (Nat.le_of_ble_eq_true rfl) d_X_letGo_54 ⟨hX, hF16⟩
