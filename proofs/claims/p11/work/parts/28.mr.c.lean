set_option maxHeartbeats 4000000 in
set_option maxRecDepth 100000 in
theorem m_dropped (l : Launch) (G : gw_G) (M : gw_M) (B : Nat → Nat) (lm : Nat) (sm E : Int32) (jb sz dr : Nat) (hX : gm_X G B lm sm E jb sz dr M) (k : Int32) (hsz : sz ≤ lm) (hdr : dr + sz ≤ 600) : Met l y_Mo_dropped [.code y_Mo_dropped b_Mo_dropped 2 (some .int)] ({ frames := 0, cells := 0, slots := 0, locals := 0 }) (gw_Pc G M [.ref (B 0), .int k]) (gw_Qi G (fun r M2 => gm_X G B lm sm E jb sz dr M2 ∧ gw_fg (gw_out [100, 101, 102, 103, 104, 105, 106, 107]) M M2)) 0 0 (gw_A G) := by
  refine gw_start (by decide) (Nat.le_of_ble_eq_true rfl) (fun p9 e9 s m b9 mt9 c9 hx hb hr hml hown hlocks hin hE hB hW ls hl => ?_)
  have hts := hE.ts ([.ref (B 0), .int k] : List Value).toArray
  have hl : lv_has ls 2 [(0, .ref (B 0)), (1, .int k)] := hl
  have hown : s.vm.findClass "GenerationsModel" = some m.cls := hown
  have hj9 := hX.jb40
  have hm9 := hX.lm255
  refine gw_gen (I := fun z => gm_X G B lm sm E jb sz dr z) (P := gw_out [100, 101, 102, 103, 104, 105, 106, 107]) hX hW (fun H locs Mw hW hS hX hF => ?_)
  have hX : gm_X G B lm sm E jb sz dr Mw := hX
  refine lv_aload_n hx hb d_Mo_dropped_0 rfl (lv_at hl 0 rfl) ?_
  refine lv_iconst (v := 0) hx hb d_Mo_dropped_1 (by decide) ?_
  obtain ⟨cdo1, mko1, f1o1, f2o1, f3o1, f4o1, f5o1, f6o1, f7o1, hf_0, hf_1, hf_2, hf_3, hf_4, hf_5, hf_6, hf_7, hk2o1, hk3o1, hk4o1, -, -⟩ := id hX
  refine gw_put (ci := 5) (fs := [.int cdo1, .int (nI lm), .int sm, .int E, .ref (B 1), .ref (B 2), .int (nI sz), .ref (B 3), .ref (B 4), .ref (B 5), .ref (B 6), .int (nI jb), .int mko1, .ref (B 7), .int (nI dr)]) (v := .int 0) (ty := .int) hx hb hts in_Mo t_Mo t_Mo_ok n_Mo hown hE.K hW hS hf_0 rfl 0 (by decide) (hts _ mw222) (fun _ h9 => h9) rfl (by decide +kernel) rfl rfl (Nat.le_of_ble_eq_true rfl) d_Mo_dropped_2 (fun H locs hW hS => ?_)
  have hXn : gm_X G B lm sm E jb sz dr (gw_up Mw (B 0) 100 (.inr (5, [.int 0, .int (nI lm), .int sm, .int E, .ref (B 1), .ref (B 2), .int (nI sz), .ref (B 3), .ref (B 4), .ref (B 5), .ref (B 6), .int (nI jb), .int mko1, .ref (B 7), .int (nI dr)]))) := hX.up100 hf_0 (by omega)
  have hF2 : gw_fg (gw_out [100, 101, 102, 103, 104, 105, 106, 107]) M (gw_up Mw (B 0) 100 (.inr (5, [.int 0, .int (nI lm), .int sm, .int E, .ref (B 1), .ref (B 2), .int (nI sz), .ref (B 3), .ref (B 4), .ref (B 5), .ref (B 6), .int (nI jb), .int mko1, .ref (B 7), .int (nI dr)]))) := gw_fg.up hF hf_0 (show ¬ ((gw_out [100, 101, 102, 103, 104, 105, 106, 107]) 100) by decide) (show ¬ ((gw_out [100, 101, 102, 103, 104, 105, 106, 107]) 100) by decide)
  obtain ⟨M3, eM3⟩ : ∃ z, z = gw_up Mw (B 0) 100 (.inr (5, [.int 0, .int (nI lm), .int sm, .int E, .ref (B 1), .ref (B 2), .int (nI sz), .ref (B 3), .ref (B 4), .ref (B 5), .ref (B 6), .int (nI jb), .int mko1, .ref (B 7), .int (nI dr)])) := ⟨_, rfl⟩
  replace hW : gw_P G.1 vwCl G.2.2.2 M3 H := by rw [eM3]; exact hW
  have hf_1 : M3 (B 1) = some (101, .inl (G.2.1 0, 10000, .inl f1o1)) := by rw [eM3]; exact gw_keep hf_1 hf_0 (by decide)
  have hf_2 : M3 (B 2) = some (102, .inl (G.2.1 0, 300, .inl f2o1)) := by rw [eM3]; exact gw_keep hf_2 hf_0 (by decide)
  have hf_3 : M3 (B 3) = some (103, .inl (G.2.1 0, 10240, .inl f3o1)) := by rw [eM3]; exact gw_keep hf_3 hf_0 (by decide)
  have hf_4 : M3 (B 4) = some (104, .inl (G.2.1 0, 41, .inl f4o1)) := by rw [eM3]; exact gw_keep hf_4 hf_0 (by decide)
  have hf_5 : M3 (B 5) = some (105, .inl (G.2.1 0, 41, .inl f5o1)) := by rw [eM3]; exact gw_keep hf_5 hf_0 (by decide)
  have hf_6 : M3 (B 6) = some (106, .inl (G.2.1 0, 4100, .inl f6o1)) := by rw [eM3]; exact gw_keep hf_6 hf_0 (by decide)
  have hf_7 : M3 (B 7) = some (107, .inl (G.2.1 0, 2048, .inl f7o1)) := by rw [eM3]; exact gw_keep hf_7 hf_0 (by decide)
  have hf_0 : M3 (B 0) = some (100, .inr (5, [.int 0, .int (nI lm), .int sm, .int E, .ref (B 1), .ref (B 2), .int (nI sz), .ref (B 3), .ref (B 4), .ref (B 5), .ref (B 6), .int (nI jb), .int mko1, .ref (B 7), .int (nI dr)])) := by rw [eM3]; exact gw_up_self _ _ _ _
  rw [← eM3] at hF2
  rw [← eM3] at hXn
  replace hX := hXn
  clear hXn
  refine lv_iload_n hx hb d_Mo_dropped_5 rfl (lv_at hl 1 rfl) ?_
  refine lv_if_lt (tgt := 26) hx hb d_Mo_dropped_6 (by decide) (fun c6 => ?_) (fun c6 => ?_)
  · refine lv_iconst (v := -1) hx hb d_Mo_dropped_26 (by decide) ?_
    exact gw_iret hx hb hr hlocks hS hW (Nat.le_of_ble_eq_true rfl) (Nat.le_of_ble_eq_true rfl) d_Mo_dropped_27 ⟨hX, hF2⟩
  · refine lv_iload_n hx hb d_Mo_dropped_9 rfl (lv_at hl 1 rfl) ?_
    refine lv_aload_n hx hb d_Mo_dropped_10 rfl (lv_at hl 0 rfl) ?_
    refine gw_get (ci := 5) (fs := [.int 0, .int (nI lm), .int sm, .int E, .ref (B 1), .ref (B 2), .int (nI sz), .ref (B 3), .ref (B 4), .ref (B 5), .ref (B 6), .int (nI jb), .int mko1, .ref (B 7), .int (nI dr)]) hx hb hts in_Mo hown hE.K hW hf_0 rfl 14 (by decide) (hts _ mw247) (fun _ h9 => h9) rfl d_Mo_dropped_11 ?_
    refine lv_icmp_ge (tgt := 26) hx hb d_Mo_dropped_14 (by decide) (fun c14 => ?_) (fun c14 => ?_)
    · refine lv_iconst (v := -1) hx hb d_Mo_dropped_26 (by decide) ?_
      exact gw_iret hx hb hr hlocks hS hW (Nat.le_of_ble_eq_true rfl) (Nat.le_of_ble_eq_true rfl) d_Mo_dropped_27 ⟨hX, hF2⟩
    · refine lv_aload_n hx hb d_Mo_dropped_17 rfl (lv_at hl 0 rfl) ?_
      refine gw_get (ci := 5) (fs := [.int 0, .int (nI lm), .int sm, .int E, .ref (B 1), .ref (B 2), .int (nI sz), .ref (B 3), .ref (B 4), .ref (B 5), .ref (B 6), .int (nI jb), .int mko1, .ref (B 7), .int (nI dr)]) hx hb hts in_Mo hown hE.K hW hf_0 rfl 13 (by decide) (hts _ mw246) (fun _ h9 => h9) rfl d_Mo_dropped_18 ?_
      refine lv_iload_n hx hb d_Mo_dropped_21 rfl (lv_at hl 1 rfl) ?_
      refine gw_iald (i := k) hx hb hE.K hW 0 hf_7 rfl (gx_inN c6 c14 (by omega) (by omega)) d_Mo_dropped_22 ?_
      refine lv_goto (tgt := 27) hx hb d_Mo_dropped_23 (by decide) ?_
      exact gw_iret hx hb hr hlocks hS hW (Nat.le_of_ble_eq_true rfl) (Nat.le_of_ble_eq_true rfl) d_Mo_dropped_27 ⟨hX, hF2⟩

set_option maxHeartbeats 4000000 in
set_option maxRecDepth 100000 in
theorem m_list (l : Launch) (G : gw_G) (M : gw_M) (B : Nat → Nat) (lm : Nat) (sm E : Int32) (jb sz dr : Nat) (hX : gm_X G B lm sm E jb sz dr M) (k : Int32) (hsz : sz ≤ lm) (hdr : dr + sz ≤ 600) : Met l y_Mo_list [.code y_Mo_list b_Mo_list 2 (some .int)] ({ frames := 0, cells := 0, slots := 0, locals := 0 }) (gw_Pc G M [.ref (B 0), .int k]) (gw_Qi G (fun r M2 => gm_X G B lm sm E jb sz dr M2 ∧ gw_fg (gw_out [100, 101, 102, 103, 104, 105, 106, 107]) M M2)) 0 0 (gw_A G) := by
  refine gw_start (by decide) (Nat.le_of_ble_eq_true rfl) (fun p9 e9 s m b9 mt9 c9 hx hb hr hml hown hlocks hin hE hB hW ls hl => ?_)
  have hts := hE.ts ([.ref (B 0), .int k] : List Value).toArray
  have hl : lv_has ls 2 [(0, .ref (B 0)), (1, .int k)] := hl
  have hown : s.vm.findClass "GenerationsModel" = some m.cls := hown
  have hj9 := hX.jb40
  have hm9 := hX.lm255
  refine gw_gen (I := fun z => gm_X G B lm sm E jb sz dr z) (P := gw_out [100, 101, 102, 103, 104, 105, 106, 107]) hX hW (fun H locs Mw hW hS hX hF => ?_)
  have hX : gm_X G B lm sm E jb sz dr Mw := hX
  refine lv_aload_n hx hb d_Mo_list_0 rfl (lv_at hl 0 rfl) ?_
  refine lv_iconst (v := 0) hx hb d_Mo_list_1 (by decide) ?_
  obtain ⟨cdo1, mko1, f1o1, f2o1, f3o1, f4o1, f5o1, f6o1, f7o1, hf_0, hf_1, hf_2, hf_3, hf_4, hf_5, hf_6, hf_7, hk2o1, hk3o1, hk4o1, -, -⟩ := id hX
  refine gw_put (ci := 5) (fs := [.int cdo1, .int (nI lm), .int sm, .int E, .ref (B 1), .ref (B 2), .int (nI sz), .ref (B 3), .ref (B 4), .ref (B 5), .ref (B 6), .int (nI jb), .int mko1, .ref (B 7), .int (nI dr)]) (v := .int 0) (ty := .int) hx hb hts in_Mo t_Mo t_Mo_ok n_Mo hown hE.K hW hS hf_0 rfl 0 (by decide) (hts _ mw222) (fun _ h9 => h9) rfl (by decide +kernel) rfl rfl (Nat.le_of_ble_eq_true rfl) d_Mo_list_2 (fun H locs hW hS => ?_)
  have hXn : gm_X G B lm sm E jb sz dr (gw_up Mw (B 0) 100 (.inr (5, [.int 0, .int (nI lm), .int sm, .int E, .ref (B 1), .ref (B 2), .int (nI sz), .ref (B 3), .ref (B 4), .ref (B 5), .ref (B 6), .int (nI jb), .int mko1, .ref (B 7), .int (nI dr)]))) := hX.up100 hf_0 (by omega)
  have hF2 : gw_fg (gw_out [100, 101, 102, 103, 104, 105, 106, 107]) M (gw_up Mw (B 0) 100 (.inr (5, [.int 0, .int (nI lm), .int sm, .int E, .ref (B 1), .ref (B 2), .int (nI sz), .ref (B 3), .ref (B 4), .ref (B 5), .ref (B 6), .int (nI jb), .int mko1, .ref (B 7), .int (nI dr)]))) := gw_fg.up hF hf_0 (show ¬ ((gw_out [100, 101, 102, 103, 104, 105, 106, 107]) 100) by decide) (show ¬ ((gw_out [100, 101, 102, 103, 104, 105, 106, 107]) 100) by decide)
  obtain ⟨M3, eM3⟩ : ∃ z, z = gw_up Mw (B 0) 100 (.inr (5, [.int 0, .int (nI lm), .int sm, .int E, .ref (B 1), .ref (B 2), .int (nI sz), .ref (B 3), .ref (B 4), .ref (B 5), .ref (B 6), .int (nI jb), .int mko1, .ref (B 7), .int (nI dr)])) := ⟨_, rfl⟩
  replace hW : gw_P G.1 vwCl G.2.2.2 M3 H := by rw [eM3]; exact hW
  have hf_1 : M3 (B 1) = some (101, .inl (G.2.1 0, 10000, .inl f1o1)) := by rw [eM3]; exact gw_keep hf_1 hf_0 (by decide)
  have hf_2 : M3 (B 2) = some (102, .inl (G.2.1 0, 300, .inl f2o1)) := by rw [eM3]; exact gw_keep hf_2 hf_0 (by decide)
  have hf_3 : M3 (B 3) = some (103, .inl (G.2.1 0, 10240, .inl f3o1)) := by rw [eM3]; exact gw_keep hf_3 hf_0 (by decide)
  have hf_4 : M3 (B 4) = some (104, .inl (G.2.1 0, 41, .inl f4o1)) := by rw [eM3]; exact gw_keep hf_4 hf_0 (by decide)
  have hf_5 : M3 (B 5) = some (105, .inl (G.2.1 0, 41, .inl f5o1)) := by rw [eM3]; exact gw_keep hf_5 hf_0 (by decide)
  have hf_6 : M3 (B 6) = some (106, .inl (G.2.1 0, 4100, .inl f6o1)) := by rw [eM3]; exact gw_keep hf_6 hf_0 (by decide)
  have hf_7 : M3 (B 7) = some (107, .inl (G.2.1 0, 2048, .inl f7o1)) := by rw [eM3]; exact gw_keep hf_7 hf_0 (by decide)
  have hf_0 : M3 (B 0) = some (100, .inr (5, [.int 0, .int (nI lm), .int sm, .int E, .ref (B 1), .ref (B 2), .int (nI sz), .ref (B 3), .ref (B 4), .ref (B 5), .ref (B 6), .int (nI jb), .int mko1, .ref (B 7), .int (nI dr)])) := by rw [eM3]; exact gw_up_self _ _ _ _
  rw [← eM3] at hF2
  rw [← eM3] at hXn
  replace hX := hXn
  clear hXn
  refine lv_iload_n hx hb d_Mo_list_5 rfl (lv_at hl 1 rfl) ?_
  refine lv_if_lt (tgt := 26) hx hb d_Mo_list_6 (by decide) (fun c6 => ?_) (fun c6 => ?_)
  · refine lv_iconst (v := -1) hx hb d_Mo_list_26 (by decide) ?_
    exact gw_iret hx hb hr hlocks hS hW (Nat.le_of_ble_eq_true rfl) (Nat.le_of_ble_eq_true rfl) d_Mo_list_27 ⟨hX, hF2⟩
  · refine lv_iload_n hx hb d_Mo_list_9 rfl (lv_at hl 1 rfl) ?_
    refine lv_aload_n hx hb d_Mo_list_10 rfl (lv_at hl 0 rfl) ?_
    refine gw_get (ci := 5) (fs := [.int 0, .int (nI lm), .int sm, .int E, .ref (B 1), .ref (B 2), .int (nI sz), .ref (B 3), .ref (B 4), .ref (B 5), .ref (B 6), .int (nI jb), .int mko1, .ref (B 7), .int (nI dr)]) hx hb hts in_Mo hown hE.K hW hf_0 rfl 6 (by decide) (hts _ mw237) (fun _ h9 => h9) rfl d_Mo_list_11 ?_
    refine lv_icmp_ge (tgt := 26) hx hb d_Mo_list_14 (by decide) (fun c14 => ?_) (fun c14 => ?_)
    · refine lv_iconst (v := -1) hx hb d_Mo_list_26 (by decide) ?_
      exact gw_iret hx hb hr hlocks hS hW (Nat.le_of_ble_eq_true rfl) (Nat.le_of_ble_eq_true rfl) d_Mo_list_27 ⟨hX, hF2⟩
    · refine lv_aload_n hx hb d_Mo_list_17 rfl (lv_at hl 0 rfl) ?_
      refine gw_get (ci := 5) (fs := [.int 0, .int (nI lm), .int sm, .int E, .ref (B 1), .ref (B 2), .int (nI sz), .ref (B 3), .ref (B 4), .ref (B 5), .ref (B 6), .int (nI jb), .int mko1, .ref (B 7), .int (nI dr)]) hx hb hts in_Mo hown hE.K hW hf_0 rfl 5 (by decide) (hts _ mw238) (fun _ h9 => h9) rfl d_Mo_list_18 ?_
      refine lv_iload_n hx hb d_Mo_list_21 rfl (lv_at hl 1 rfl) ?_
      refine gw_iald (i := k) hx hb hE.K hW 0 hf_2 rfl (gx_inN c6 c14 (by omega) (by omega)) d_Mo_list_22 ?_
      obtain ⟨v4, ev4⟩ : ∃ z : Int32, z = f2o1 (k : Int32).toNatClampNeg := ⟨_, rfl⟩
      have hv4 : gm_k v4 := by rw [ev4]; exact hk2o1 _
      refine W.eq (g2 := F0 m 23 ls [.int v4]) (by rw [ev4]) ?_
      refine lv_goto (tgt := 27) hx hb d_Mo_list_23 (by decide) ?_
      exact gw_iret hx hb hr hlocks hS hW (Nat.le_of_ble_eq_true rfl) (Nat.le_of_ble_eq_true rfl) d_Mo_list_27 ⟨hX, hF2⟩

set_option maxHeartbeats 4000000 in
set_option maxRecDepth 100000 in
theorem m_reclaim (l : Launch) (G : gw_G) (M : gw_M) (B : Nat → Nat) (lm : Nat) (sm E : Int32) (jb sz dr : Nat) (hX : gm_X G B lm sm E jb sz dr M) (k : Int32) (hsz : sz ≤ lm) (hdr : dr + sz ≤ 600) : Met l y_Mo_reclaim [.code y_Mo_reclaim b_Mo_reclaim 2 (some .int)] ({ frames := 3, cells := 0, slots := 0, locals := 71 }) (gw_Pc G M [.ref (B 0), .int k]) (gw_Qi G (fun r M2 => ∃ sz2 : Nat, ∃ dr2 : Nat, sz2 ≤ lm ∧ dr2 + sz2 ≤ dr + sz + 1 ∧ gm_X G B lm sm E jb sz2 dr2 M2 ∧ gw_fg (gw_out [100, 101, 102, 103, 104, 105, 106, 107]) M M2)) 0 0 (gw_A G) := by
  refine gw_start (by decide) (Nat.le_of_ble_eq_true rfl) (fun p9 e9 s m b9 mt9 c9 hx hb hr hml hown hlocks hin hE hB hW ls hl => ?_)
  have hts := hE.ts ([.ref (B 0), .int k] : List Value).toArray
  have hl : lv_has ls 2 [(0, .ref (B 0)), (1, .int k)] := hl
  have hown : s.vm.findClass "GenerationsModel" = some m.cls := hown
  have hj9 := hX.jb40
  have hm9 := hX.lm255
  refine gw_gen (I := fun z => gm_X G B lm sm E jb sz dr z) (P := gw_out [100, 101, 102, 103, 104, 105, 106, 107]) hX hW (fun H locs Mw hW hS hX hF => ?_)
  have hX : gm_X G B lm sm E jb sz dr Mw := hX
  refine lv_aload_n hx hb d_Mo_reclaim_0 rfl (lv_at hl 0 rfl) ?_
  refine lv_iconst (v := 0) hx hb d_Mo_reclaim_1 (by decide) ?_
  obtain ⟨cdo1, mko1, f1o1, f2o1, f3o1, f4o1, f5o1, f6o1, f7o1, hf_0, hf_1, hf_2, hf_3, hf_4, hf_5, hf_6, hf_7, hk2o1, hk3o1, hk4o1, -, -⟩ := id hX
  refine gw_put (ci := 5) (fs := [.int cdo1, .int (nI lm), .int sm, .int E, .ref (B 1), .ref (B 2), .int (nI sz), .ref (B 3), .ref (B 4), .ref (B 5), .ref (B 6), .int (nI jb), .int mko1, .ref (B 7), .int (nI dr)]) (v := .int 0) (ty := .int) hx hb hts in_Mo t_Mo t_Mo_ok n_Mo hown hE.K hW hS hf_0 rfl 0 (by decide) (hts _ mw222) (fun _ h9 => h9) rfl (by decide +kernel) rfl rfl (Nat.le_of_ble_eq_true rfl) d_Mo_reclaim_2 (fun H locs hW hS => ?_)
  have hXn : gm_X G B lm sm E jb sz dr (gw_up Mw (B 0) 100 (.inr (5, [.int 0, .int (nI lm), .int sm, .int E, .ref (B 1), .ref (B 2), .int (nI sz), .ref (B 3), .ref (B 4), .ref (B 5), .ref (B 6), .int (nI jb), .int mko1, .ref (B 7), .int (nI dr)]))) := hX.up100 hf_0 (by omega)
  have hF2 : gw_fg (gw_out [100, 101, 102, 103, 104, 105, 106, 107]) M (gw_up Mw (B 0) 100 (.inr (5, [.int 0, .int (nI lm), .int sm, .int E, .ref (B 1), .ref (B 2), .int (nI sz), .ref (B 3), .ref (B 4), .ref (B 5), .ref (B 6), .int (nI jb), .int mko1, .ref (B 7), .int (nI dr)]))) := gw_fg.up hF hf_0 (show ¬ ((gw_out [100, 101, 102, 103, 104, 105, 106, 107]) 100) by decide) (show ¬ ((gw_out [100, 101, 102, 103, 104, 105, 106, 107]) 100) by decide)
  obtain ⟨M3, eM3⟩ : ∃ z, z = gw_up Mw (B 0) 100 (.inr (5, [.int 0, .int (nI lm), .int sm, .int E, .ref (B 1), .ref (B 2), .int (nI sz), .ref (B 3), .ref (B 4), .ref (B 5), .ref (B 6), .int (nI jb), .int mko1, .ref (B 7), .int (nI dr)])) := ⟨_, rfl⟩
  replace hW : gw_P G.1 vwCl G.2.2.2 M3 H := by rw [eM3]; exact hW
  have hf_1 : M3 (B 1) = some (101, .inl (G.2.1 0, 10000, .inl f1o1)) := by rw [eM3]; exact gw_keep hf_1 hf_0 (by decide)
  have hf_2 : M3 (B 2) = some (102, .inl (G.2.1 0, 300, .inl f2o1)) := by rw [eM3]; exact gw_keep hf_2 hf_0 (by decide)
  have hf_3 : M3 (B 3) = some (103, .inl (G.2.1 0, 10240, .inl f3o1)) := by rw [eM3]; exact gw_keep hf_3 hf_0 (by decide)
  have hf_4 : M3 (B 4) = some (104, .inl (G.2.1 0, 41, .inl f4o1)) := by rw [eM3]; exact gw_keep hf_4 hf_0 (by decide)
  have hf_5 : M3 (B 5) = some (105, .inl (G.2.1 0, 41, .inl f5o1)) := by rw [eM3]; exact gw_keep hf_5 hf_0 (by decide)
  have hf_6 : M3 (B 6) = some (106, .inl (G.2.1 0, 4100, .inl f6o1)) := by rw [eM3]; exact gw_keep hf_6 hf_0 (by decide)
  have hf_7 : M3 (B 7) = some (107, .inl (G.2.1 0, 2048, .inl f7o1)) := by rw [eM3]; exact gw_keep hf_7 hf_0 (by decide)
  have hf_0 : M3 (B 0) = some (100, .inr (5, [.int 0, .int (nI lm), .int sm, .int E, .ref (B 1), .ref (B 2), .int (nI sz), .ref (B 3), .ref (B 4), .ref (B 5), .ref (B 6), .int (nI jb), .int mko1, .ref (B 7), .int (nI dr)])) := by rw [eM3]; exact gw_up_self _ _ _ _
  rw [← eM3] at hF2
  rw [← eM3] at hXn
  replace hX := hXn
  clear hXn
  refine lv_iload_n hx hb d_Mo_reclaim_5 rfl (lv_at hl 1 rfl) ?_
  refine gr_calli (va_runS (As := [.int k]) (rest := []) ⟨hx, hb, hml, hown, hts⟩ (m_isNumber l G M3 k  ) (cwS 1 hts (gw_gs mw252 mw253 mw228 mw251) rfl rfl rfl (by decide +kernel) ⟨Nat.le_of_ble_eq_true rfl, Nat.le_of_ble_eq_true rfl⟩) (gw_ps hE hB hS hW) rfl rfl hl.1 rfl (lv_room (Nat.le_of_ble_eq_true rfl)) d_Mo_reclaim_6 ⟨Nat.le_of_ble_eq_true rfl, Nat.le_of_ble_eq_true rfl⟩) (fun r4 hw5 => ?_)
  refine lv_if_eq (tgt := 21) hx hb d_Mo_reclaim_9 (by decide) (fun c9 => ?_) (fun c9 => ?_)
  · refine lv_iconst (v := 0) hx hb d_Mo_reclaim_21 (by decide) ?_
    exact gw_iret hx hb hr hlocks hS hW (Nat.le_of_ble_eq_true rfl) (Nat.le_of_ble_eq_true rfl) d_Mo_reclaim_22 ⟨sz, dr, (by omega), (by omega), hX, hF2⟩
  · have hk : gm_k k := hw5.resolve_left c9
    refine lv_aload_n hx hb d_Mo_reclaim_12 rfl (lv_at hl 0 rfl) ?_
    refine lv_iload_n hx hb d_Mo_reclaim_13 rfl (lv_at hl 1 rfl) ?_
    refine gw_calli hS (va_runV (As := [.int k]) (rest := []) ⟨hx, hb, hml, hown, hts⟩ (m_what l G M3 B lm sm E jb sz dr hX k  hk) (cwV 1 hts (gw_gv mw255 mw256 mw257 mw228 mw254) rfl rfl rfl (by decide +kernel) ⟨Nat.le_of_ble_eq_true rfl, Nat.le_of_ble_eq_true rfl⟩) (gw_pv hE hB hS hW rfl hf_0) rfl rfl hl.1 rfl (lv_room (Nat.le_of_ble_eq_true rfl)) d_Mo_reclaim_14 ⟨Nat.le_of_ble_eq_true rfl, Nat.le_of_ble_eq_true rfl⟩) (fun r6 M7 H locs hw8 hW hS => ?_)
    obtain ⟨hX, hfr9⟩ := hw8
    have hF10 : gw_fg (gw_out [100, 101, 102, 103, 104, 105, 106, 107]) M M7 := gw_fg.tr hF2 (gw_fg.wk hfr9 (by decide))
    clear hfr9
    refine lv_iconst (v := 3) hx hb d_Mo_reclaim_17 (by decide) ?_
    refine lv_icmp_ge (tgt := 23) hx hb d_Mo_reclaim_18 (by decide) (fun c18 => ?_) (fun c18 => ?_)
    · refine lv_aload_n hx hb d_Mo_reclaim_23 rfl (lv_at hl 0 rfl) ?_
      refine lv_iload_n hx hb d_Mo_reclaim_24 rfl (lv_at hl 1 rfl) ?_
      refine lv_aload_n hx hb d_Mo_reclaim_25 rfl (lv_at hl 0 rfl) ?_
      refine lv_iload_n hx hb d_Mo_reclaim_26 rfl (lv_at hl 1 rfl) ?_
      obtain ⟨cdo11, mko11, f1o11, f2o11, f3o11, f4o11, f5o11, f6o11, f7o11, hf_0, hf_1, hf_2, hf_3, hf_4, hf_5, hf_6, hf_7, hk2o11, hk3o11, hk4o11, -, -⟩ := id hX
      refine gw_calli hS (va_runV (As := [.int k]) (rest := [.int k, .ref (B 0)]) ⟨hx, hb, hml, hown, hts⟩ (m_what l G M7 B lm sm E jb sz dr hX k  hk) (cwV 1 hts (gw_gv mw255 mw256 mw257 mw228 mw254) rfl rfl rfl (by decide +kernel) ⟨Nat.le_of_ble_eq_true rfl, Nat.le_of_ble_eq_true rfl⟩) (gw_pv hE hB hS hW rfl hf_0) rfl rfl hl.1 rfl (lv_room (Nat.le_of_ble_eq_true rfl)) d_Mo_reclaim_27 ⟨Nat.le_of_ble_eq_true rfl, Nat.le_of_ble_eq_true rfl⟩) (fun r12 M13 H locs hw14 hW hS => ?_)
      obtain ⟨hX, hfr15⟩ := hw14
      have hF16 : gw_fg (gw_out [100, 101, 102, 103, 104, 105, 106, 107]) M M13 := gw_fg.tr hF10 (gw_fg.wk hfr15 (by decide))
      clear hfr15
      refine lv_aload_n hx hb d_Mo_reclaim_30 rfl (lv_at hl 0 rfl) ?_
      refine lv_iload_n hx hb d_Mo_reclaim_31 rfl (lv_at hl 1 rfl) ?_
      obtain ⟨cdo17, mko17, f1o17, f2o17, f3o17, f4o17, f5o17, f6o17, f7o17, hf_0, hf_1, hf_2, hf_3, hf_4, hf_5, hf_6, hf_7, hk2o17, hk3o17, hk4o17, -, -⟩ := id hX
      refine gw_calli hS (va_runV (As := [.int k]) (rest := [.int r12, .int k, .ref (B 0)]) ⟨hx, hb, hml, hown, hts⟩ (m_owner l G M13 B lm sm E jb sz dr hX k  hk) (cwV 1 hts (gw_gv mw225 mw226 mw227 mw228 mw224) rfl rfl rfl (by decide +kernel) ⟨Nat.le_of_ble_eq_true rfl, Nat.le_of_ble_eq_true rfl⟩) (gw_pv hE hB hS hW rfl hf_0) rfl rfl hl.1 rfl (lv_room (Nat.le_of_ble_eq_true rfl)) d_Mo_reclaim_32 ⟨Nat.le_of_ble_eq_true rfl, Nat.le_of_ble_eq_true rfl⟩) (fun r18 M19 H locs hw20 hW hS => ?_)
      obtain ⟨hX, hfr21⟩ := hw20
      have hF22 : gw_fg (gw_out [100, 101, 102, 103, 104, 105, 106, 107]) M M19 := gw_fg.tr hF16 (gw_fg.wk hfr21 (by decide))
      clear hfr21
      refine lv_aload_n hx hb d_Mo_reclaim_35 rfl (lv_at hl 0 rfl) ?_
      refine lv_iload_n hx hb d_Mo_reclaim_36 rfl (lv_at hl 1 rfl) ?_
      obtain ⟨cdo23, mko23, f1o23, f2o23, f3o23, f4o23, f5o23, f6o23, f7o23, hf_0, hf_1, hf_2, hf_3, hf_4, hf_5, hf_6, hf_7, hk2o23, hk3o23, hk4o23, -, -⟩ := id hX
      refine gw_calli hS (va_runV (As := [.int k]) (rest := [.int r18, .int r12, .int k, .ref (B 0)]) ⟨hx, hb, hml, hown, hts⟩ (m_versionOf l G M19 B lm sm E jb sz dr hX k  hk) (cwV 1 hts (gw_gv mw230 mw231 mw232 mw228 mw229) rfl rfl rfl (by decide +kernel) ⟨Nat.le_of_ble_eq_true rfl, Nat.le_of_ble_eq_true rfl⟩) (gw_pv hE hB hS hW rfl hf_0) rfl rfl hl.1 rfl (lv_room (Nat.le_of_ble_eq_true rfl)) d_Mo_reclaim_37 ⟨Nat.le_of_ble_eq_true rfl, Nat.le_of_ble_eq_true rfl⟩) (fun r24 M25 H locs hw26 hW hS => ?_)
      obtain ⟨hX, hfr27⟩ := hw26
      have hF28 : gw_fg (gw_out [100, 101, 102, 103, 104, 105, 106, 107]) M M25 := gw_fg.tr hF22 (gw_fg.wk hfr27 (by decide))
      clear hfr27
      refine lv_iconst (v := 1) hx hb d_Mo_reclaim_40 (by decide) ?_
      refine lv_iadd hx hb d_Mo_reclaim_41 ?_
      obtain ⟨cdo29, mko29, f1o29, f2o29, f3o29, f4o29, f5o29, f6o29, f7o29, hf_0, hf_1, hf_2, hf_3, hf_4, hf_5, hf_6, hf_7, hk2o29, hk3o29, hk4o29, -, -⟩ := id hX
      refine gw_callv hS (va_runV (As := [.int k, .int r12, .int r18, .int (r24 + 1)]) (rest := []) ⟨hx, hb, hml, hown, hts⟩ (m_be l G M25 B lm sm E jb sz dr hX k r12 r18 (r24 + 1)  hk) (cwV 4 hts (gw_gv mw234 mw235 mw236 mw228 mw233) rfl rfl rfl (by decide +kernel) ⟨Nat.le_of_ble_eq_true rfl, Nat.le_of_ble_eq_true rfl⟩) (gw_pv hE hB hS hW rfl hf_0) rfl rfl hl.1 rfl (lv_room (Nat.le_of_ble_eq_true rfl)) d_Mo_reclaim_42 ⟨Nat.le_of_ble_eq_true rfl, Nat.le_of_ble_eq_true rfl⟩) (fun M31 H locs hw32 hW hS => ?_)
      obtain ⟨hX, hfr33⟩ := hw32
      have hF34 : gw_fg (gw_out [100, 101, 102, 103, 104, 105, 106, 107]) M M31 := gw_fg.tr hF28 (gw_fg.wk hfr33 (by decide))
      clear hfr33
      refine lv_aload_n hx hb d_Mo_reclaim_45 rfl (lv_at hl 0 rfl) ?_
      refine lv_iload_n hx hb d_Mo_reclaim_46 rfl (lv_at hl 1 rfl) ?_
      obtain ⟨cdo35, mko35, f1o35, f2o35, f3o35, f4o35, f5o35, f6o35, f7o35, hf_0, hf_1, hf_2, hf_3, hf_4, hf_5, hf_6, hf_7, hk2o35, hk3o35, hk4o35, -, -⟩ := id hX
      refine gw_callv hS (va_runV (As := [.int k]) (rest := []) ⟨hx, hb, hml, hown, hts⟩ (m_enter l G M31 B lm sm E jb sz dr hX k  hk hsz hdr) (cwV 1 hts (gw_gv mw259 mw260 mw261 mw228 mw258) rfl rfl rfl (by decide +kernel) ⟨Nat.le_of_ble_eq_true rfl, Nat.le_of_ble_eq_true rfl⟩) (gw_pv hE hB hS hW rfl hf_0) rfl rfl hl.1 rfl (lv_room (Nat.le_of_ble_eq_true rfl)) d_Mo_reclaim_47 ⟨Nat.le_of_ble_eq_true rfl, Nat.le_of_ble_eq_true rfl⟩) (fun M37 H locs hw38 hW hS => ?_)
      obtain ⟨sz240, dr241, hb42, hb43, hX, hfr39⟩ := hw38
      have hF44 : gw_fg (gw_out [100, 101, 102, 103, 104, 105, 106, 107]) M M37 := gw_fg.tr hF34 (gw_fg.wk hfr39 (by decide))
      clear hfr39
      refine lv_iconst (v := 1) hx hb d_Mo_reclaim_50 (by decide) ?_
      exact gw_iret hx hb hr hlocks hS hW (Nat.le_of_ble_eq_true rfl) (Nat.le_of_ble_eq_true rfl) d_Mo_reclaim_51 ⟨sz240, dr241, (by omega), (by omega), hX, hF44⟩
    · refine lv_iconst (v := 0) hx hb d_Mo_reclaim_21 (by decide) ?_
      exact gw_iret hx hb hr hlocks hS hW (Nat.le_of_ble_eq_true rfl) (Nat.le_of_ble_eq_true rfl) d_Mo_reclaim_22 ⟨sz, dr, (by omega), (by omega), hX, hF10⟩

set_option maxHeartbeats 4000000 in
set_option maxRecDepth 100000 in
theorem m_empty (l : Launch) (G : gw_G) (M : gw_M) (B : Nat → Nat) (lm : Nat) (sm E : Int32) (jb sz dr : Nat) (hX : gm_X G B lm sm E jb sz dr M) (on : Int32) (hn_z : narrow .boolean (.int on) = .int on) (hf_z : fits .boolean (.int on) = true) : Met l y_Mo_empty [.code y_Mo_empty b_Mo_empty 3 (some .int)] ({ frames := 0, cells := 0, slots := 0, locals := 0 }) (gw_Pc G M [.ref (B 0), .int on]) (gw_Qi G (fun r M2 => (if E = 0 then 0 else 1) = r ∧ gm_X G B lm sm on jb sz dr M2 ∧ gw_fg (gw_out [100, 101, 102, 103, 104, 105, 106, 107]) M M2)) 0 0 (gw_A G) := by
  refine gw_start (by decide) (Nat.le_of_ble_eq_true rfl) (fun p9 e9 s m b9 mt9 c9 hx hb hr hml hown hlocks hin hE hB hW ls hl => ?_)
  have hts := hE.ts ([.ref (B 0), .int on] : List Value).toArray
  have hl : lv_has ls 3 [(0, .ref (B 0)), (1, .int on)] := hl
  have hown : s.vm.findClass "GenerationsModel" = some m.cls := hown
  have hj9 := hX.jb40
  have hm9 := hX.lm255
  refine gw_gen (I := fun z => gm_X G B lm sm E jb sz dr z) (P := gw_out [100, 101, 102, 103, 104, 105, 106, 107]) hX hW (fun H locs Mw hW hS hX hF => ?_)
  have hX : gm_X G B lm sm E jb sz dr Mw := hX
  refine lv_aload_n hx hb d_Mo_empty_0 rfl (lv_at hl 0 rfl) ?_
  refine lv_iconst (v := 0) hx hb d_Mo_empty_1 (by decide) ?_
  obtain ⟨cdo1, mko1, f1o1, f2o1, f3o1, f4o1, f5o1, f6o1, f7o1, hf_0, hf_1, hf_2, hf_3, hf_4, hf_5, hf_6, hf_7, hk2o1, hk3o1, hk4o1, -, -⟩ := id hX
  refine gw_put (ci := 5) (fs := [.int cdo1, .int (nI lm), .int sm, .int E, .ref (B 1), .ref (B 2), .int (nI sz), .ref (B 3), .ref (B 4), .ref (B 5), .ref (B 6), .int (nI jb), .int mko1, .ref (B 7), .int (nI dr)]) (v := .int 0) (ty := .int) hx hb hts in_Mo t_Mo t_Mo_ok n_Mo hown hE.K hW hS hf_0 rfl 0 (by decide) (hts _ mw222) (fun _ h9 => h9) rfl (by decide +kernel) rfl rfl (Nat.le_of_ble_eq_true rfl) d_Mo_empty_2 (fun H locs hW hS => ?_)
  have hXn : gm_X G B lm sm E jb sz dr (gw_up Mw (B 0) 100 (.inr (5, [.int 0, .int (nI lm), .int sm, .int E, .ref (B 1), .ref (B 2), .int (nI sz), .ref (B 3), .ref (B 4), .ref (B 5), .ref (B 6), .int (nI jb), .int mko1, .ref (B 7), .int (nI dr)]))) := hX.up100 hf_0 (by omega)
  have hF2 : gw_fg (gw_out [100, 101, 102, 103, 104, 105, 106, 107]) M (gw_up Mw (B 0) 100 (.inr (5, [.int 0, .int (nI lm), .int sm, .int E, .ref (B 1), .ref (B 2), .int (nI sz), .ref (B 3), .ref (B 4), .ref (B 5), .ref (B 6), .int (nI jb), .int mko1, .ref (B 7), .int (nI dr)]))) := gw_fg.up hF hf_0 (show ¬ ((gw_out [100, 101, 102, 103, 104, 105, 106, 107]) 100) by decide) (show ¬ ((gw_out [100, 101, 102, 103, 104, 105, 106, 107]) 100) by decide)
  obtain ⟨M3, eM3⟩ : ∃ z, z = gw_up Mw (B 0) 100 (.inr (5, [.int 0, .int (nI lm), .int sm, .int E, .ref (B 1), .ref (B 2), .int (nI sz), .ref (B 3), .ref (B 4), .ref (B 5), .ref (B 6), .int (nI jb), .int mko1, .ref (B 7), .int (nI dr)])) := ⟨_, rfl⟩
  replace hW : gw_P G.1 vwCl G.2.2.2 M3 H := by rw [eM3]; exact hW
  have hf_1 : M3 (B 1) = some (101, .inl (G.2.1 0, 10000, .inl f1o1)) := by rw [eM3]; exact gw_keep hf_1 hf_0 (by decide)
  have hf_2 : M3 (B 2) = some (102, .inl (G.2.1 0, 300, .inl f2o1)) := by rw [eM3]; exact gw_keep hf_2 hf_0 (by decide)
  have hf_3 : M3 (B 3) = some (103, .inl (G.2.1 0, 10240, .inl f3o1)) := by rw [eM3]; exact gw_keep hf_3 hf_0 (by decide)
  have hf_4 : M3 (B 4) = some (104, .inl (G.2.1 0, 41, .inl f4o1)) := by rw [eM3]; exact gw_keep hf_4 hf_0 (by decide)
  have hf_5 : M3 (B 5) = some (105, .inl (G.2.1 0, 41, .inl f5o1)) := by rw [eM3]; exact gw_keep hf_5 hf_0 (by decide)
  have hf_6 : M3 (B 6) = some (106, .inl (G.2.1 0, 4100, .inl f6o1)) := by rw [eM3]; exact gw_keep hf_6 hf_0 (by decide)
  have hf_7 : M3 (B 7) = some (107, .inl (G.2.1 0, 2048, .inl f7o1)) := by rw [eM3]; exact gw_keep hf_7 hf_0 (by decide)
  have hf_0 : M3 (B 0) = some (100, .inr (5, [.int 0, .int (nI lm), .int sm, .int E, .ref (B 1), .ref (B 2), .int (nI sz), .ref (B 3), .ref (B 4), .ref (B 5), .ref (B 6), .int (nI jb), .int mko1, .ref (B 7), .int (nI dr)])) := by rw [eM3]; exact gw_up_self _ _ _ _
  rw [← eM3] at hF2
  rw [← eM3] at hXn
  replace hX := hXn
  clear hXn
  refine lv_aload_n hx hb d_Mo_empty_5 rfl (lv_at hl 0 rfl) ?_
  refine gw_get (ci := 5) (fs := [.int 0, .int (nI lm), .int sm, .int E, .ref (B 1), .ref (B 2), .int (nI sz), .ref (B 3), .ref (B 4), .ref (B 5), .ref (B 6), .int (nI jb), .int mko1, .ref (B 7), .int (nI dr)]) hx hb hts in_Mo hown hE.K hW hf_0 rfl 3 (by decide) (hts _ mw244) (fun _ h9 => h9) rfl d_Mo_empty_6 ?_
  refine lv_if_eq (tgt := 16) hx hb d_Mo_empty_9 (by decide) (fun c9 => ?_) (fun c9 => ?_)
  · refine lv_iconst (v := 0) hx hb d_Mo_empty_16 (by decide) ?_
    refine lv_istore_n (lv' := [(2, .int 0), (0, .ref (B 0)), (1, .int on)]) hx hb d_Mo_empty_17 rfl hl (by decide) rfl (fun ls hl => ?_)
    refine lv_aload_n hx hb d_Mo_empty_18 rfl (lv_at hl 1 rfl) ?_
    refine lv_iload_n hx hb d_Mo_empty_19 rfl (lv_at hl 2 rfl) ?_
    refine gw_put (ci := 5) (fs := [.int 0, .int (nI lm), .int sm, .int E, .ref (B 1), .ref (B 2), .int (nI sz), .ref (B 3), .ref (B 4), .ref (B 5), .ref (B 6), .int (nI jb), .int mko1, .ref (B 7), .int (nI dr)]) (v := .int on) (ty := .boolean) hx hb hts in_Mo t_Mo t_Mo_ok n_Mo hown hE.K hW hS hf_0 rfl 3 (by decide) (hts _ mw244) (fun _ h9 => h9) rfl (by decide +kernel) hn_z hf_z (Nat.le_of_ble_eq_true rfl) d_Mo_empty_20 (fun H locs hW hS => ?_)
    have hXn : gm_X G B lm sm on jb sz dr (gw_up M3 (B 0) 100 (.inr (5, [.int 0, .int (nI lm), .int sm, .int on, .ref (B 1), .ref (B 2), .int (nI sz), .ref (B 3), .ref (B 4), .ref (B 5), .ref (B 6), .int (nI jb), .int mko1, .ref (B 7), .int (nI dr)]))) := hX.up100 hf_0 (by omega)
    have hF4 : gw_fg (gw_out [100, 101, 102, 103, 104, 105, 106, 107]) M (gw_up M3 (B 0) 100 (.inr (5, [.int 0, .int (nI lm), .int sm, .int on, .ref (B 1), .ref (B 2), .int (nI sz), .ref (B 3), .ref (B 4), .ref (B 5), .ref (B 6), .int (nI jb), .int mko1, .ref (B 7), .int (nI dr)]))) := gw_fg.up hF2 hf_0 (show ¬ ((gw_out [100, 101, 102, 103, 104, 105, 106, 107]) 100) by decide) (show ¬ ((gw_out [100, 101, 102, 103, 104, 105, 106, 107]) 100) by decide)
    obtain ⟨M5, eM5⟩ : ∃ z, z = gw_up M3 (B 0) 100 (.inr (5, [.int 0, .int (nI lm), .int sm, .int on, .ref (B 1), .ref (B 2), .int (nI sz), .ref (B 3), .ref (B 4), .ref (B 5), .ref (B 6), .int (nI jb), .int mko1, .ref (B 7), .int (nI dr)])) := ⟨_, rfl⟩
    replace hW : gw_P G.1 vwCl G.2.2.2 M5 H := by rw [eM5]; exact hW
    have hf_1 : M5 (B 1) = some (101, .inl (G.2.1 0, 10000, .inl f1o1)) := by rw [eM5]; exact gw_keep hf_1 hf_0 (by decide)
    have hf_2 : M5 (B 2) = some (102, .inl (G.2.1 0, 300, .inl f2o1)) := by rw [eM5]; exact gw_keep hf_2 hf_0 (by decide)
    have hf_3 : M5 (B 3) = some (103, .inl (G.2.1 0, 10240, .inl f3o1)) := by rw [eM5]; exact gw_keep hf_3 hf_0 (by decide)
    have hf_4 : M5 (B 4) = some (104, .inl (G.2.1 0, 41, .inl f4o1)) := by rw [eM5]; exact gw_keep hf_4 hf_0 (by decide)
    have hf_5 : M5 (B 5) = some (105, .inl (G.2.1 0, 41, .inl f5o1)) := by rw [eM5]; exact gw_keep hf_5 hf_0 (by decide)
    have hf_6 : M5 (B 6) = some (106, .inl (G.2.1 0, 4100, .inl f6o1)) := by rw [eM5]; exact gw_keep hf_6 hf_0 (by decide)
    have hf_7 : M5 (B 7) = some (107, .inl (G.2.1 0, 2048, .inl f7o1)) := by rw [eM5]; exact gw_keep hf_7 hf_0 (by decide)
    have hf_0 : M5 (B 0) = some (100, .inr (5, [.int 0, .int (nI lm), .int sm, .int on, .ref (B 1), .ref (B 2), .int (nI sz), .ref (B 3), .ref (B 4), .ref (B 5), .ref (B 6), .int (nI jb), .int mko1, .ref (B 7), .int (nI dr)])) := by rw [eM5]; exact gw_up_self _ _ _ _
    rw [← eM5] at hF4
    rw [← eM5] at hXn
    replace hX := hXn
    clear hXn
    refine lv_iload_n hx hb d_Mo_empty_23 rfl (lv_at hl 0 rfl) ?_
    exact gw_iret hx hb hr hlocks hS hW (Nat.le_of_ble_eq_true rfl) (Nat.le_of_ble_eq_true rfl) d_Mo_empty_24 ⟨(if_pos c9), hX, hF4⟩
  · refine lv_iconst (v := 1) hx hb d_Mo_empty_12 (by decide) ?_
    refine lv_goto (tgt := 17) hx hb d_Mo_empty_13 (by decide) ?_
    refine lv_istore_n (lv' := [(2, .int 1), (0, .ref (B 0)), (1, .int on)]) hx hb d_Mo_empty_17 rfl hl (by decide) rfl (fun ls hl => ?_)
    refine lv_aload_n hx hb d_Mo_empty_18 rfl (lv_at hl 1 rfl) ?_
    refine lv_iload_n hx hb d_Mo_empty_19 rfl (lv_at hl 2 rfl) ?_
    refine gw_put (ci := 5) (fs := [.int 0, .int (nI lm), .int sm, .int E, .ref (B 1), .ref (B 2), .int (nI sz), .ref (B 3), .ref (B 4), .ref (B 5), .ref (B 6), .int (nI jb), .int mko1, .ref (B 7), .int (nI dr)]) (v := .int on) (ty := .boolean) hx hb hts in_Mo t_Mo t_Mo_ok n_Mo hown hE.K hW hS hf_0 rfl 3 (by decide) (hts _ mw244) (fun _ h9 => h9) rfl (by decide +kernel) hn_z hf_z (Nat.le_of_ble_eq_true rfl) d_Mo_empty_20 (fun H locs hW hS => ?_)
    have hXn : gm_X G B lm sm on jb sz dr (gw_up M3 (B 0) 100 (.inr (5, [.int 0, .int (nI lm), .int sm, .int on, .ref (B 1), .ref (B 2), .int (nI sz), .ref (B 3), .ref (B 4), .ref (B 5), .ref (B 6), .int (nI jb), .int mko1, .ref (B 7), .int (nI dr)]))) := hX.up100 hf_0 (by omega)
    have hF6 : gw_fg (gw_out [100, 101, 102, 103, 104, 105, 106, 107]) M (gw_up M3 (B 0) 100 (.inr (5, [.int 0, .int (nI lm), .int sm, .int on, .ref (B 1), .ref (B 2), .int (nI sz), .ref (B 3), .ref (B 4), .ref (B 5), .ref (B 6), .int (nI jb), .int mko1, .ref (B 7), .int (nI dr)]))) := gw_fg.up hF2 hf_0 (show ¬ ((gw_out [100, 101, 102, 103, 104, 105, 106, 107]) 100) by decide) (show ¬ ((gw_out [100, 101, 102, 103, 104, 105, 106, 107]) 100) by decide)
    obtain ⟨M7, eM7⟩ : ∃ z, z = gw_up M3 (B 0) 100 (.inr (5, [.int 0, .int (nI lm), .int sm, .int on, .ref (B 1), .ref (B 2), .int (nI sz), .ref (B 3), .ref (B 4), .ref (B 5), .ref (B 6), .int (nI jb), .int mko1, .ref (B 7), .int (nI dr)])) := ⟨_, rfl⟩
    replace hW : gw_P G.1 vwCl G.2.2.2 M7 H := by rw [eM7]; exact hW
    have hf_1 : M7 (B 1) = some (101, .inl (G.2.1 0, 10000, .inl f1o1)) := by rw [eM7]; exact gw_keep hf_1 hf_0 (by decide)
    have hf_2 : M7 (B 2) = some (102, .inl (G.2.1 0, 300, .inl f2o1)) := by rw [eM7]; exact gw_keep hf_2 hf_0 (by decide)
    have hf_3 : M7 (B 3) = some (103, .inl (G.2.1 0, 10240, .inl f3o1)) := by rw [eM7]; exact gw_keep hf_3 hf_0 (by decide)
    have hf_4 : M7 (B 4) = some (104, .inl (G.2.1 0, 41, .inl f4o1)) := by rw [eM7]; exact gw_keep hf_4 hf_0 (by decide)
    have hf_5 : M7 (B 5) = some (105, .inl (G.2.1 0, 41, .inl f5o1)) := by rw [eM7]; exact gw_keep hf_5 hf_0 (by decide)
    have hf_6 : M7 (B 6) = some (106, .inl (G.2.1 0, 4100, .inl f6o1)) := by rw [eM7]; exact gw_keep hf_6 hf_0 (by decide)
    have hf_7 : M7 (B 7) = some (107, .inl (G.2.1 0, 2048, .inl f7o1)) := by rw [eM7]; exact gw_keep hf_7 hf_0 (by decide)
    have hf_0 : M7 (B 0) = some (100, .inr (5, [.int 0, .int (nI lm), .int sm, .int on, .ref (B 1), .ref (B 2), .int (nI sz), .ref (B 3), .ref (B 4), .ref (B 5), .ref (B 6), .int (nI jb), .int mko1, .ref (B 7), .int (nI dr)])) := by rw [eM7]; exact gw_up_self _ _ _ _
    rw [← eM7] at hF6
    rw [← eM7] at hXn
    replace hX := hXn
    clear hXn
    refine lv_iload_n hx hb d_Mo_empty_23 rfl (lv_at hl 0 rfl) ?_
    exact gw_iret hx hb hr hlocks hS hW (Nat.le_of_ble_eq_true rfl) (Nat.le_of_ble_eq_true rfl) d_Mo_empty_24 ⟨(if_neg c9), hX, hF6⟩

set_option maxHeartbeats 4000000 in
set_option maxRecDepth 100000 in
theorem m_version (l : Launch) (G : gw_G) (M : gw_M) (B : Nat → Nat) (lm : Nat) (sm E : Int32) (jb sz dr : Nat) (hX : gm_X G B lm sm E jb sz dr M) (k : Int32) : Met l y_Mo_version [.code y_Mo_version b_Mo_version 2 (some .int)] ({ frames := 1, cells := 0, slots := 0, locals := 21 }) (gw_Pc G M [.ref (B 0), .int k]) (gw_Qi G (fun r M2 => gm_X G B lm sm E jb sz dr M2 ∧ gw_fg (gw_out [100, 101, 102, 103, 104, 105, 106, 107]) M M2)) 0 0 (gw_A G) := by
  refine gw_start (by decide) (Nat.le_of_ble_eq_true rfl) (fun p9 e9 s m b9 mt9 c9 hx hb hr hml hown hlocks hin hE hB hW ls hl => ?_)
  have hts := hE.ts ([.ref (B 0), .int k] : List Value).toArray
  have hl : lv_has ls 2 [(0, .ref (B 0)), (1, .int k)] := hl
  have hown : s.vm.findClass "GenerationsModel" = some m.cls := hown
  have hj9 := hX.jb40
  have hm9 := hX.lm255
  refine gw_gen (I := fun z => gm_X G B lm sm E jb sz dr z) (P := gw_out [100, 101, 102, 103, 104, 105, 106, 107]) hX hW (fun H locs Mw hW hS hX hF => ?_)
  have hX : gm_X G B lm sm E jb sz dr Mw := hX
  refine lv_aload_n hx hb d_Mo_version_0 rfl (lv_at hl 0 rfl) ?_
  refine lv_iconst (v := 0) hx hb d_Mo_version_1 (by decide) ?_
  obtain ⟨cdo1, mko1, f1o1, f2o1, f3o1, f4o1, f5o1, f6o1, f7o1, hf_0, hf_1, hf_2, hf_3, hf_4, hf_5, hf_6, hf_7, hk2o1, hk3o1, hk4o1, -, -⟩ := id hX
  refine gw_put (ci := 5) (fs := [.int cdo1, .int (nI lm), .int sm, .int E, .ref (B 1), .ref (B 2), .int (nI sz), .ref (B 3), .ref (B 4), .ref (B 5), .ref (B 6), .int (nI jb), .int mko1, .ref (B 7), .int (nI dr)]) (v := .int 0) (ty := .int) hx hb hts in_Mo t_Mo t_Mo_ok n_Mo hown hE.K hW hS hf_0 rfl 0 (by decide) (hts _ mw222) (fun _ h9 => h9) rfl (by decide +kernel) rfl rfl (Nat.le_of_ble_eq_true rfl) d_Mo_version_2 (fun H locs hW hS => ?_)
  have hXn : gm_X G B lm sm E jb sz dr (gw_up Mw (B 0) 100 (.inr (5, [.int 0, .int (nI lm), .int sm, .int E, .ref (B 1), .ref (B 2), .int (nI sz), .ref (B 3), .ref (B 4), .ref (B 5), .ref (B 6), .int (nI jb), .int mko1, .ref (B 7), .int (nI dr)]))) := hX.up100 hf_0 (by omega)
  have hF2 : gw_fg (gw_out [100, 101, 102, 103, 104, 105, 106, 107]) M (gw_up Mw (B 0) 100 (.inr (5, [.int 0, .int (nI lm), .int sm, .int E, .ref (B 1), .ref (B 2), .int (nI sz), .ref (B 3), .ref (B 4), .ref (B 5), .ref (B 6), .int (nI jb), .int mko1, .ref (B 7), .int (nI dr)]))) := gw_fg.up hF hf_0 (show ¬ ((gw_out [100, 101, 102, 103, 104, 105, 106, 107]) 100) by decide) (show ¬ ((gw_out [100, 101, 102, 103, 104, 105, 106, 107]) 100) by decide)
  obtain ⟨M3, eM3⟩ : ∃ z, z = gw_up Mw (B 0) 100 (.inr (5, [.int 0, .int (nI lm), .int sm, .int E, .ref (B 1), .ref (B 2), .int (nI sz), .ref (B 3), .ref (B 4), .ref (B 5), .ref (B 6), .int (nI jb), .int mko1, .ref (B 7), .int (nI dr)])) := ⟨_, rfl⟩
  replace hW : gw_P G.1 vwCl G.2.2.2 M3 H := by rw [eM3]; exact hW
  have hf_1 : M3 (B 1) = some (101, .inl (G.2.1 0, 10000, .inl f1o1)) := by rw [eM3]; exact gw_keep hf_1 hf_0 (by decide)
  have hf_2 : M3 (B 2) = some (102, .inl (G.2.1 0, 300, .inl f2o1)) := by rw [eM3]; exact gw_keep hf_2 hf_0 (by decide)
  have hf_3 : M3 (B 3) = some (103, .inl (G.2.1 0, 10240, .inl f3o1)) := by rw [eM3]; exact gw_keep hf_3 hf_0 (by decide)
  have hf_4 : M3 (B 4) = some (104, .inl (G.2.1 0, 41, .inl f4o1)) := by rw [eM3]; exact gw_keep hf_4 hf_0 (by decide)
  have hf_5 : M3 (B 5) = some (105, .inl (G.2.1 0, 41, .inl f5o1)) := by rw [eM3]; exact gw_keep hf_5 hf_0 (by decide)
  have hf_6 : M3 (B 6) = some (106, .inl (G.2.1 0, 4100, .inl f6o1)) := by rw [eM3]; exact gw_keep hf_6 hf_0 (by decide)
  have hf_7 : M3 (B 7) = some (107, .inl (G.2.1 0, 2048, .inl f7o1)) := by rw [eM3]; exact gw_keep hf_7 hf_0 (by decide)
  have hf_0 : M3 (B 0) = some (100, .inr (5, [.int 0, .int (nI lm), .int sm, .int E, .ref (B 1), .ref (B 2), .int (nI sz), .ref (B 3), .ref (B 4), .ref (B 5), .ref (B 6), .int (nI jb), .int mko1, .ref (B 7), .int (nI dr)])) := by rw [eM3]; exact gw_up_self _ _ _ _
  rw [← eM3] at hF2
  rw [← eM3] at hXn
  replace hX := hXn
  clear hXn
  refine lv_iload_n hx hb d_Mo_version_5 rfl (lv_at hl 1 rfl) ?_
  refine gr_calli (va_runS (As := [.int k]) (rest := []) ⟨hx, hb, hml, hown, hts⟩ (m_isNumber l G M3 k  ) (cwS 1 hts (gw_gs mw252 mw253 mw228 mw251) rfl rfl rfl (by decide +kernel) ⟨Nat.le_of_ble_eq_true rfl, Nat.le_of_ble_eq_true rfl⟩) (gw_ps hE hB hS hW) rfl rfl hl.1 rfl (lv_room (Nat.le_of_ble_eq_true rfl)) d_Mo_version_6 ⟨Nat.le_of_ble_eq_true rfl, Nat.le_of_ble_eq_true rfl⟩) (fun r4 hw5 => ?_)
  refine lv_if_eq (tgt := 28) hx hb d_Mo_version_9 (by decide) (fun c9 => ?_) (fun c9 => ?_)
  · refine lv_iconst (v := -1) hx hb d_Mo_version_28 (by decide) ?_
    exact gw_iret hx hb hr hlocks hS hW (Nat.le_of_ble_eq_true rfl) (Nat.le_of_ble_eq_true rfl) d_Mo_version_29 ⟨hX, hF2⟩
  · have hk : gm_k k := hw5.resolve_left c9
    refine lv_aload_n hx hb d_Mo_version_12 rfl (lv_at hl 0 rfl) ?_
    refine lv_iload_n hx hb d_Mo_version_13 rfl (lv_at hl 1 rfl) ?_
    refine gw_calli hS (va_runV (As := [.int k]) (rest := []) ⟨hx, hb, hml, hown, hts⟩ (m_what l G M3 B lm sm E jb sz dr hX k  hk) (cwV 1 hts (gw_gv mw255 mw256 mw257 mw228 mw254) rfl rfl rfl (by decide +kernel) ⟨Nat.le_of_ble_eq_true rfl, Nat.le_of_ble_eq_true rfl⟩) (gw_pv hE hB hS hW rfl hf_0) rfl rfl hl.1 rfl (lv_room (Nat.le_of_ble_eq_true rfl)) d_Mo_version_14 ⟨Nat.le_of_ble_eq_true rfl, Nat.le_of_ble_eq_true rfl⟩) (fun r6 M7 H locs hw8 hW hS => ?_)
    obtain ⟨hX, hfr9⟩ := hw8
    have hF10 : gw_fg (gw_out [100, 101, 102, 103, 104, 105, 106, 107]) M M7 := gw_fg.tr hF2 (gw_fg.wk hfr9 (by decide))
    clear hfr9
    refine lv_if_eq (tgt := 28) hx hb d_Mo_version_17 (by decide) (fun c17 => ?_) (fun c17 => ?_)
    · refine lv_iconst (v := -1) hx hb d_Mo_version_28 (by decide) ?_
      exact gw_iret hx hb hr hlocks hS hW (Nat.le_of_ble_eq_true rfl) (Nat.le_of_ble_eq_true rfl) d_Mo_version_29 ⟨hX, hF10⟩
    · refine lv_aload_n hx hb d_Mo_version_20 rfl (lv_at hl 0 rfl) ?_
      refine lv_iload_n hx hb d_Mo_version_21 rfl (lv_at hl 1 rfl) ?_
      obtain ⟨cdo11, mko11, f1o11, f2o11, f3o11, f4o11, f5o11, f6o11, f7o11, hf_0, hf_1, hf_2, hf_3, hf_4, hf_5, hf_6, hf_7, hk2o11, hk3o11, hk4o11, -, -⟩ := id hX
      refine gw_calli hS (va_runV (As := [.int k]) (rest := []) ⟨hx, hb, hml, hown, hts⟩ (m_versionOf l G M7 B lm sm E jb sz dr hX k  hk) (cwV 1 hts (gw_gv mw230 mw231 mw232 mw228 mw229) rfl rfl rfl (by decide +kernel) ⟨Nat.le_of_ble_eq_true rfl, Nat.le_of_ble_eq_true rfl⟩) (gw_pv hE hB hS hW rfl hf_0) rfl rfl hl.1 rfl (lv_room (Nat.le_of_ble_eq_true rfl)) d_Mo_version_22 ⟨Nat.le_of_ble_eq_true rfl, Nat.le_of_ble_eq_true rfl⟩) (fun r12 M13 H locs hw14 hW hS => ?_)
      obtain ⟨hX, hfr15⟩ := hw14
      have hF16 : gw_fg (gw_out [100, 101, 102, 103, 104, 105, 106, 107]) M M13 := gw_fg.tr hF10 (gw_fg.wk hfr15 (by decide))
      clear hfr15
      refine lv_goto (tgt := 29) hx hb d_Mo_version_25 (by decide) ?_
      exact gw_iret hx hb hr hlocks hS hW (Nat.le_of_ble_eq_true rfl) (Nat.le_of_ble_eq_true rfl) d_Mo_version_29 ⟨hX, hF16⟩

set_option maxHeartbeats 4000000 in
set_option maxRecDepth 100000 in
theorem m_state (l : Launch) (G : gw_G) (M : gw_M) (B : Nat → Nat) (lm : Nat) (sm E : Int32) (jb sz dr : Nat) (hX : gm_X G B lm sm E jb sz dr M) (k : Int32) : Met l y_Mo_state [.code y_Mo_state b_Mo_state 2 (some .int)] ({ frames := 1, cells := 0, slots := 0, locals := 21 }) (gw_Pc G M [.ref (B 0), .int k]) (gw_Qi G (fun r M2 => gm_X G B lm sm E jb sz dr M2 ∧ gw_fg (gw_out [100, 101, 102, 103, 104, 105, 106, 107]) M M2)) 0 0 (gw_A G) := by
  refine gw_start (by decide) (Nat.le_of_ble_eq_true rfl) (fun p9 e9 s m b9 mt9 c9 hx hb hr hml hown hlocks hin hE hB hW ls hl => ?_)
  have hts := hE.ts ([.ref (B 0), .int k] : List Value).toArray
  have hl : lv_has ls 2 [(0, .ref (B 0)), (1, .int k)] := hl
  have hown : s.vm.findClass "GenerationsModel" = some m.cls := hown
  have hj9 := hX.jb40
  have hm9 := hX.lm255
  refine gw_gen (I := fun z => gm_X G B lm sm E jb sz dr z) (P := gw_out [100, 101, 102, 103, 104, 105, 106, 107]) hX hW (fun H locs Mw hW hS hX hF => ?_)
  have hX : gm_X G B lm sm E jb sz dr Mw := hX
  refine lv_aload_n hx hb d_Mo_state_0 rfl (lv_at hl 0 rfl) ?_
  refine lv_iconst (v := 0) hx hb d_Mo_state_1 (by decide) ?_
  obtain ⟨cdo1, mko1, f1o1, f2o1, f3o1, f4o1, f5o1, f6o1, f7o1, hf_0, hf_1, hf_2, hf_3, hf_4, hf_5, hf_6, hf_7, hk2o1, hk3o1, hk4o1, -, -⟩ := id hX
  refine gw_put (ci := 5) (fs := [.int cdo1, .int (nI lm), .int sm, .int E, .ref (B 1), .ref (B 2), .int (nI sz), .ref (B 3), .ref (B 4), .ref (B 5), .ref (B 6), .int (nI jb), .int mko1, .ref (B 7), .int (nI dr)]) (v := .int 0) (ty := .int) hx hb hts in_Mo t_Mo t_Mo_ok n_Mo hown hE.K hW hS hf_0 rfl 0 (by decide) (hts _ mw222) (fun _ h9 => h9) rfl (by decide +kernel) rfl rfl (Nat.le_of_ble_eq_true rfl) d_Mo_state_2 (fun H locs hW hS => ?_)
  have hXn : gm_X G B lm sm E jb sz dr (gw_up Mw (B 0) 100 (.inr (5, [.int 0, .int (nI lm), .int sm, .int E, .ref (B 1), .ref (B 2), .int (nI sz), .ref (B 3), .ref (B 4), .ref (B 5), .ref (B 6), .int (nI jb), .int mko1, .ref (B 7), .int (nI dr)]))) := hX.up100 hf_0 (by omega)
  have hF2 : gw_fg (gw_out [100, 101, 102, 103, 104, 105, 106, 107]) M (gw_up Mw (B 0) 100 (.inr (5, [.int 0, .int (nI lm), .int sm, .int E, .ref (B 1), .ref (B 2), .int (nI sz), .ref (B 3), .ref (B 4), .ref (B 5), .ref (B 6), .int (nI jb), .int mko1, .ref (B 7), .int (nI dr)]))) := gw_fg.up hF hf_0 (show ¬ ((gw_out [100, 101, 102, 103, 104, 105, 106, 107]) 100) by decide) (show ¬ ((gw_out [100, 101, 102, 103, 104, 105, 106, 107]) 100) by decide)
  obtain ⟨M3, eM3⟩ : ∃ z, z = gw_up Mw (B 0) 100 (.inr (5, [.int 0, .int (nI lm), .int sm, .int E, .ref (B 1), .ref (B 2), .int (nI sz), .ref (B 3), .ref (B 4), .ref (B 5), .ref (B 6), .int (nI jb), .int mko1, .ref (B 7), .int (nI dr)])) := ⟨_, rfl⟩
  replace hW : gw_P G.1 vwCl G.2.2.2 M3 H := by rw [eM3]; exact hW
  have hf_1 : M3 (B 1) = some (101, .inl (G.2.1 0, 10000, .inl f1o1)) := by rw [eM3]; exact gw_keep hf_1 hf_0 (by decide)
  have hf_2 : M3 (B 2) = some (102, .inl (G.2.1 0, 300, .inl f2o1)) := by rw [eM3]; exact gw_keep hf_2 hf_0 (by decide)
  have hf_3 : M3 (B 3) = some (103, .inl (G.2.1 0, 10240, .inl f3o1)) := by rw [eM3]; exact gw_keep hf_3 hf_0 (by decide)
  have hf_4 : M3 (B 4) = some (104, .inl (G.2.1 0, 41, .inl f4o1)) := by rw [eM3]; exact gw_keep hf_4 hf_0 (by decide)
  have hf_5 : M3 (B 5) = some (105, .inl (G.2.1 0, 41, .inl f5o1)) := by rw [eM3]; exact gw_keep hf_5 hf_0 (by decide)
  have hf_6 : M3 (B 6) = some (106, .inl (G.2.1 0, 4100, .inl f6o1)) := by rw [eM3]; exact gw_keep hf_6 hf_0 (by decide)
  have hf_7 : M3 (B 7) = some (107, .inl (G.2.1 0, 2048, .inl f7o1)) := by rw [eM3]; exact gw_keep hf_7 hf_0 (by decide)
  have hf_0 : M3 (B 0) = some (100, .inr (5, [.int 0, .int (nI lm), .int sm, .int E, .ref (B 1), .ref (B 2), .int (nI sz), .ref (B 3), .ref (B 4), .ref (B 5), .ref (B 6), .int (nI jb), .int mko1, .ref (B 7), .int (nI dr)])) := by rw [eM3]; exact gw_up_self _ _ _ _
  rw [← eM3] at hF2
  rw [← eM3] at hXn
  replace hX := hXn
  clear hXn
  refine lv_iload_n hx hb d_Mo_state_5 rfl (lv_at hl 1 rfl) ?_
  refine gr_calli (va_runS (As := [.int k]) (rest := []) ⟨hx, hb, hml, hown, hts⟩ (m_isNumber l G M3 k  ) (cwS 1 hts (gw_gs mw252 mw253 mw228 mw251) rfl rfl rfl (by decide +kernel) ⟨Nat.le_of_ble_eq_true rfl, Nat.le_of_ble_eq_true rfl⟩) (gw_ps hE hB hS hW) rfl rfl hl.1 rfl (lv_room (Nat.le_of_ble_eq_true rfl)) d_Mo_state_6 ⟨Nat.le_of_ble_eq_true rfl, Nat.le_of_ble_eq_true rfl⟩) (fun r4 hw5 => ?_)
  refine lv_if_eq (tgt := 20) hx hb d_Mo_state_9 (by decide) (fun c9 => ?_) (fun c9 => ?_)
  · refine lv_iconst (v := -1) hx hb d_Mo_state_20 (by decide) ?_
    exact gw_iret hx hb hr hlocks hS hW (Nat.le_of_ble_eq_true rfl) (Nat.le_of_ble_eq_true rfl) d_Mo_state_21 ⟨hX, hF2⟩
  · have hk : gm_k k := hw5.resolve_left c9
    refine lv_aload_n hx hb d_Mo_state_12 rfl (lv_at hl 0 rfl) ?_
    refine lv_iload_n hx hb d_Mo_state_13 rfl (lv_at hl 1 rfl) ?_
    refine gw_calli hS (va_runV (As := [.int k]) (rest := []) ⟨hx, hb, hml, hown, hts⟩ (m_what l G M3 B lm sm E jb sz dr hX k  hk) (cwV 1 hts (gw_gv mw255 mw256 mw257 mw228 mw254) rfl rfl rfl (by decide +kernel) ⟨Nat.le_of_ble_eq_true rfl, Nat.le_of_ble_eq_true rfl⟩) (gw_pv hE hB hS hW rfl hf_0) rfl rfl hl.1 rfl (lv_room (Nat.le_of_ble_eq_true rfl)) d_Mo_state_14 ⟨Nat.le_of_ble_eq_true rfl, Nat.le_of_ble_eq_true rfl⟩) (fun r6 M7 H locs hw8 hW hS => ?_)
    obtain ⟨hX, hfr9⟩ := hw8
    have hF10 : gw_fg (gw_out [100, 101, 102, 103, 104, 105, 106, 107]) M M7 := gw_fg.tr hF2 (gw_fg.wk hfr9 (by decide))
    clear hfr9
    refine lv_goto (tgt := 21) hx hb d_Mo_state_17 (by decide) ?_
    exact gw_iret hx hb hr hlocks hS hW (Nat.le_of_ble_eq_true rfl) (Nat.le_of_ble_eq_true rfl) d_Mo_state_21 ⟨hX, hF10⟩

set_option maxHeartbeats 4000000 in
set_option maxRecDepth 100000 in
theorem m_count (l : Launch) (G : gw_G) (M : gw_M) (B : Nat → Nat) (lm : Nat) (sm E : Int32) (jb sz dr : Nat) (hX : gm_X G B lm sm E jb sz dr M) (k : Int32) : Met l y_Mo_count [.code y_Mo_count b_Mo_count 4 (some .int)] ({ frames := 1, cells := 0, slots := 0, locals := 21 }) (gw_Pc G M [.ref (B 0), .int k]) (gw_Qi G (fun r M2 => gm_X G B lm sm E jb sz dr M2 ∧ gw_fg (gw_out [100, 101, 102, 103, 104, 105, 106, 107]) M M2)) 0 0 (gw_A G) := by
  refine gw_start (by decide) (Nat.le_of_ble_eq_true rfl) (fun p9 e9 s m b9 mt9 c9 hx hb hr hml hown hlocks hin hE hB hW ls hl => ?_)
  have hts := hE.ts ([.ref (B 0), .int k] : List Value).toArray
  have hl : lv_has ls 4 [(0, .ref (B 0)), (1, .int k)] := hl
  have hown : s.vm.findClass "GenerationsModel" = some m.cls := hown
  have hj9 := hX.jb40
  have hm9 := hX.lm255
  refine gw_gen (I := fun z => gm_X G B lm sm E jb sz dr z) (P := gw_out [100, 101, 102, 103, 104, 105, 106, 107]) hX hW (fun H locs Mw hW hS hX hF => ?_)
  have hX : gm_X G B lm sm E jb sz dr Mw := hX
  refine lv_aload_n hx hb d_Mo_count_0 rfl (lv_at hl 0 rfl) ?_
  refine lv_iconst (v := 0) hx hb d_Mo_count_1 (by decide) ?_
  obtain ⟨cdo1, mko1, f1o1, f2o1, f3o1, f4o1, f5o1, f6o1, f7o1, hf_0, hf_1, hf_2, hf_3, hf_4, hf_5, hf_6, hf_7, hk2o1, hk3o1, hk4o1, -, -⟩ := id hX
  refine gw_put (ci := 5) (fs := [.int cdo1, .int (nI lm), .int sm, .int E, .ref (B 1), .ref (B 2), .int (nI sz), .ref (B 3), .ref (B 4), .ref (B 5), .ref (B 6), .int (nI jb), .int mko1, .ref (B 7), .int (nI dr)]) (v := .int 0) (ty := .int) hx hb hts in_Mo t_Mo t_Mo_ok n_Mo hown hE.K hW hS hf_0 rfl 0 (by decide) (hts _ mw222) (fun _ h9 => h9) rfl (by decide +kernel) rfl rfl (Nat.le_of_ble_eq_true rfl) d_Mo_count_2 (fun H locs hW hS => ?_)
  have hXn : gm_X G B lm sm E jb sz dr (gw_up Mw (B 0) 100 (.inr (5, [.int 0, .int (nI lm), .int sm, .int E, .ref (B 1), .ref (B 2), .int (nI sz), .ref (B 3), .ref (B 4), .ref (B 5), .ref (B 6), .int (nI jb), .int mko1, .ref (B 7), .int (nI dr)]))) := hX.up100 hf_0 (by omega)
  have hF2 : gw_fg (gw_out [100, 101, 102, 103, 104, 105, 106, 107]) M (gw_up Mw (B 0) 100 (.inr (5, [.int 0, .int (nI lm), .int sm, .int E, .ref (B 1), .ref (B 2), .int (nI sz), .ref (B 3), .ref (B 4), .ref (B 5), .ref (B 6), .int (nI jb), .int mko1, .ref (B 7), .int (nI dr)]))) := gw_fg.up hF hf_0 (show ¬ ((gw_out [100, 101, 102, 103, 104, 105, 106, 107]) 100) by decide) (show ¬ ((gw_out [100, 101, 102, 103, 104, 105, 106, 107]) 100) by decide)
  obtain ⟨M3, eM3⟩ : ∃ z, z = gw_up Mw (B 0) 100 (.inr (5, [.int 0, .int (nI lm), .int sm, .int E, .ref (B 1), .ref (B 2), .int (nI sz), .ref (B 3), .ref (B 4), .ref (B 5), .ref (B 6), .int (nI jb), .int mko1, .ref (B 7), .int (nI dr)])) := ⟨_, rfl⟩
  replace hW : gw_P G.1 vwCl G.2.2.2 M3 H := by rw [eM3]; exact hW
  have hf_1 : M3 (B 1) = some (101, .inl (G.2.1 0, 10000, .inl f1o1)) := by rw [eM3]; exact gw_keep hf_1 hf_0 (by decide)
  have hf_2 : M3 (B 2) = some (102, .inl (G.2.1 0, 300, .inl f2o1)) := by rw [eM3]; exact gw_keep hf_2 hf_0 (by decide)
  have hf_3 : M3 (B 3) = some (103, .inl (G.2.1 0, 10240, .inl f3o1)) := by rw [eM3]; exact gw_keep hf_3 hf_0 (by decide)
  have hf_4 : M3 (B 4) = some (104, .inl (G.2.1 0, 41, .inl f4o1)) := by rw [eM3]; exact gw_keep hf_4 hf_0 (by decide)
  have hf_5 : M3 (B 5) = some (105, .inl (G.2.1 0, 41, .inl f5o1)) := by rw [eM3]; exact gw_keep hf_5 hf_0 (by decide)
  have hf_6 : M3 (B 6) = some (106, .inl (G.2.1 0, 4100, .inl f6o1)) := by rw [eM3]; exact gw_keep hf_6 hf_0 (by decide)
  have hf_7 : M3 (B 7) = some (107, .inl (G.2.1 0, 2048, .inl f7o1)) := by rw [eM3]; exact gw_keep hf_7 hf_0 (by decide)
  have hf_0 : M3 (B 0) = some (100, .inr (5, [.int 0, .int (nI lm), .int sm, .int E, .ref (B 1), .ref (B 2), .int (nI sz), .ref (B 3), .ref (B 4), .ref (B 5), .ref (B 6), .int (nI jb), .int mko1, .ref (B 7), .int (nI dr)])) := by rw [eM3]; exact gw_up_self _ _ _ _
  rw [← eM3] at hF2
  rw [← eM3] at hXn
  replace hX := hXn
  clear hXn
  refine lv_iconst (v := 0) hx hb d_Mo_count_5 (by decide) ?_
  refine lv_istore_n (lv' := [(2, .int 0), (0, .ref (B 0)), (1, .int k)]) hx hb d_Mo_count_6 rfl hl (by decide) rfl (fun ls hl => ?_)
  refine lv_iconst (v := 1) hx hb d_Mo_count_7 (by decide) ?_
  refine lv_istore_n (lv' := [(3, .int 1), (2, .int 0), (0, .ref (B 0)), (1, .int k)]) hx hb d_Mo_count_8 rfl hl (by decide) rfl (fun ls hl => ?_)
  obtain ⟨k9, ek9⟩ : ∃ z : Nat, z = 1 := ⟨_, rfl⟩
  obtain ⟨c9_2, ec9_2⟩ : ∃ z : Int32, z = 0 := ⟨_, rfl⟩
  replace hl : lv_has ls 4 [(3, .int (nI k9)), (2, .int c9_2), (0, .ref (B 0)), (1, .int k)] := by subst ek9; subst ec9_2; exact lv_sub hl [0, 1, 2, 3] rfl
  have hk9 : 1 ≤ k9 ∧ k9 ≤ 10000 := by omega
  clear ek9 ec9_2
  clear hf_1 hf_2 hf_3 hf_4 hf_5 hf_6 hf_7 hf_0
  try clear eM3
  have hF := hF2
  clear hF2
  obtain ⟨n9, hn9⟩ : ∃ z : Nat, 10000 - k9 < z := ⟨_, Nat.lt_succ_self _⟩
  induction n9 generalizing k9 ls H locs M3 c9_2 with
  | zero => exact absurd hn9 (Nat.not_lt_zero _)
  | succ n9 ih9 =>
    refine lv_iload_n hx hb d_Mo_count_9 rfl (lv_at hl 0 rfl) ?_
    refine lv_sipush (v := 9999) hx hb d_Mo_count_10 (by decide) ?_
    refine lv_icmp_gt (tgt := 79) hx hb d_Mo_count_13 (by decide) (fun c13 => ?_) (fun c13 => ?_)
    · refine lv_iload_n hx hb d_Mo_count_79 rfl (lv_at hl 3 rfl) ?_
      rcases gx_sw5 k with h9 | h9 | h9 | h9 | h9 | h9 | h9
      · refine lv_tableOut (tgt := 142) hx hb d_Mo_count_80 h9 (by decide) ?_
        refine lv_iconst (v := -1) hx hb d_Mo_count_142 (by decide) ?_
        exact gw_iret hx hb hr hlocks hS hW (Nat.le_of_ble_eq_true rfl) (Nat.le_of_ble_eq_true rfl) d_Mo_count_143 ⟨hX, hF⟩
      · refine lv_tableIn (tgt := 120) hx hb d_Mo_count_80 (by rw [h9]; decide) (by rw [h9]; decide) (by rw [h9]; rfl) (by decide) ?_
        refine lv_aload_n hx hb d_Mo_count_120 rfl (lv_at hl 2 rfl) ?_
        obtain ⟨cdo4, mko4, f1o4, f2o4, f3o4, f4o4, f5o4, f6o4, f7o4, hf_0, hf_1, hf_2, hf_3, hf_4, hf_5, hf_6, hf_7, hk2o4, hk3o4, hk4o4, -, -⟩ := id hX
        refine gw_get (ci := 5) (fs := [.int cdo4, .int (nI lm), .int sm, .int E, .ref (B 1), .ref (B 2), .int (nI sz), .ref (B 3), .ref (B 4), .ref (B 5), .ref (B 6), .int (nI jb), .int mko4, .ref (B 7), .int (nI dr)]) hx hb hts in_Mo hown hE.K hW hf_0 rfl 6 (by decide) (hts _ mw237) (fun _ h9 => h9) rfl d_Mo_count_121 ?_
        exact gw_iret hx hb hr hlocks hS hW (Nat.le_of_ble_eq_true rfl) (Nat.le_of_ble_eq_true rfl) d_Mo_count_124 ⟨hX, hF⟩
      · refine lv_tableIn (tgt := 125) hx hb d_Mo_count_80 (by rw [h9]; decide) (by rw [h9]; decide) (by rw [h9]; rfl) (by decide) ?_
        refine lv_iload_n hx hb d_Mo_count_125 rfl (lv_at hl 1 rfl) ?_
        exact gw_iret hx hb hr hlocks hS hW (Nat.le_of_ble_eq_true rfl) (Nat.le_of_ble_eq_true rfl) d_Mo_count_126 ⟨hX, hF⟩
      · refine lv_tableIn (tgt := 125) hx hb d_Mo_count_80 (by rw [h9]; decide) (by rw [h9]; decide) (by rw [h9]; rfl) (by decide) ?_
        refine lv_iload_n hx hb d_Mo_count_125 rfl (lv_at hl 1 rfl) ?_
        exact gw_iret hx hb hr hlocks hS hW (Nat.le_of_ble_eq_true rfl) (Nat.le_of_ble_eq_true rfl) d_Mo_count_126 ⟨hX, hF⟩
      · refine lv_tableIn (tgt := 127) hx hb d_Mo_count_80 (by rw [h9]; decide) (by rw [h9]; decide) (by rw [h9]; rfl) (by decide) ?_
        refine lv_aload_n hx hb d_Mo_count_127 rfl (lv_at hl 2 rfl) ?_
        obtain ⟨cdo5, mko5, f1o5, f2o5, f3o5, f4o5, f5o5, f6o5, f7o5, hf_0, hf_1, hf_2, hf_3, hf_4, hf_5, hf_6, hf_7, hk2o5, hk3o5, hk4o5, -, -⟩ := id hX
        refine gw_get (ci := 5) (fs := [.int cdo5, .int (nI lm), .int sm, .int E, .ref (B 1), .ref (B 2), .int (nI sz), .ref (B 3), .ref (B 4), .ref (B 5), .ref (B 6), .int (nI jb), .int mko5, .ref (B 7), .int (nI dr)]) hx hb hts in_Mo hown hE.K hW hf_0 rfl 11 (by decide) (hts _ mw262) (fun _ h9 => h9) rfl d_Mo_count_128 ?_
        exact gw_iret hx hb hr hlocks hS hW (Nat.le_of_ble_eq_true rfl) (Nat.le_of_ble_eq_true rfl) d_Mo_count_131 ⟨hX, hF⟩
      · refine lv_tableIn (tgt := 132) hx hb d_Mo_count_80 (by rw [h9]; decide) (by rw [h9]; decide) (by rw [h9]; rfl) (by decide) ?_
        refine lv_aload_n hx hb d_Mo_count_132 rfl (lv_at hl 2 rfl) ?_
        obtain ⟨cdo6, mko6, f1o6, f2o6, f3o6, f4o6, f5o6, f6o6, f7o6, hf_0, hf_1, hf_2, hf_3, hf_4, hf_5, hf_6, hf_7, hk2o6, hk3o6, hk4o6, -, -⟩ := id hX
        refine gw_get (ci := 5) (fs := [.int cdo6, .int (nI lm), .int sm, .int E, .ref (B 1), .ref (B 2), .int (nI sz), .ref (B 3), .ref (B 4), .ref (B 5), .ref (B 6), .int (nI jb), .int mko6, .ref (B 7), .int (nI dr)]) hx hb hts in_Mo hown hE.K hW hf_0 rfl 12 (by decide) (hts _ mw282) (fun _ h9 => h9) rfl d_Mo_count_133 ?_
        exact gw_iret hx hb hr hlocks hS hW (Nat.le_of_ble_eq_true rfl) (Nat.le_of_ble_eq_true rfl) d_Mo_count_136 ⟨hX, hF⟩
      · refine lv_tableIn (tgt := 137) hx hb d_Mo_count_80 (by rw [h9]; decide) (by rw [h9]; decide) (by rw [h9]; rfl) (by decide) ?_
        refine lv_aload_n hx hb d_Mo_count_137 rfl (lv_at hl 2 rfl) ?_
        obtain ⟨cdo7, mko7, f1o7, f2o7, f3o7, f4o7, f5o7, f6o7, f7o7, hf_0, hf_1, hf_2, hf_3, hf_4, hf_5, hf_6, hf_7, hk2o7, hk3o7, hk4o7, -, -⟩ := id hX
        refine gw_get (ci := 5) (fs := [.int cdo7, .int (nI lm), .int sm, .int E, .ref (B 1), .ref (B 2), .int (nI sz), .ref (B 3), .ref (B 4), .ref (B 5), .ref (B 6), .int (nI jb), .int mko7, .ref (B 7), .int (nI dr)]) hx hb hts in_Mo hown hE.K hW hf_0 rfl 14 (by decide) (hts _ mw247) (fun _ h9 => h9) rfl d_Mo_count_138 ?_
        exact gw_iret hx hb hr hlocks hS hW (Nat.le_of_ble_eq_true rfl) (Nat.le_of_ble_eq_true rfl) d_Mo_count_141 ⟨hX, hF⟩
    · have hk9 := gm_le c13 gm_c9999 (by omega) (by omega)
      refine lv_iload_n hx hb d_Mo_count_16 rfl (lv_at hl 3 rfl) ?_
      refine lv_if_le (tgt := 79) hx hb d_Mo_count_17 (by decide) (fun c17 => ?_) (fun c17 => ?_)
      · refine lv_iload_n hx hb d_Mo_count_79 rfl (lv_at hl 3 rfl) ?_
        rcases gx_sw5 k with h9 | h9 | h9 | h9 | h9 | h9 | h9
        · refine lv_tableOut (tgt := 142) hx hb d_Mo_count_80 h9 (by decide) ?_
          refine lv_iconst (v := -1) hx hb d_Mo_count_142 (by decide) ?_
          exact gw_iret hx hb hr hlocks hS hW (Nat.le_of_ble_eq_true rfl) (Nat.le_of_ble_eq_true rfl) d_Mo_count_143 ⟨hX, hF⟩
        · refine lv_tableIn (tgt := 120) hx hb d_Mo_count_80 (by rw [h9]; decide) (by rw [h9]; decide) (by rw [h9]; rfl) (by decide) ?_
          refine lv_aload_n hx hb d_Mo_count_120 rfl (lv_at hl 2 rfl) ?_
          obtain ⟨cdo8, mko8, f1o8, f2o8, f3o8, f4o8, f5o8, f6o8, f7o8, hf_0, hf_1, hf_2, hf_3, hf_4, hf_5, hf_6, hf_7, hk2o8, hk3o8, hk4o8, -, -⟩ := id hX
          refine gw_get (ci := 5) (fs := [.int cdo8, .int (nI lm), .int sm, .int E, .ref (B 1), .ref (B 2), .int (nI sz), .ref (B 3), .ref (B 4), .ref (B 5), .ref (B 6), .int (nI jb), .int mko8, .ref (B 7), .int (nI dr)]) hx hb hts in_Mo hown hE.K hW hf_0 rfl 6 (by decide) (hts _ mw237) (fun _ h9 => h9) rfl d_Mo_count_121 ?_
          exact gw_iret hx hb hr hlocks hS hW (Nat.le_of_ble_eq_true rfl) (Nat.le_of_ble_eq_true rfl) d_Mo_count_124 ⟨hX, hF⟩
        · refine lv_tableIn (tgt := 125) hx hb d_Mo_count_80 (by rw [h9]; decide) (by rw [h9]; decide) (by rw [h9]; rfl) (by decide) ?_
          refine lv_iload_n hx hb d_Mo_count_125 rfl (lv_at hl 1 rfl) ?_
          exact gw_iret hx hb hr hlocks hS hW (Nat.le_of_ble_eq_true rfl) (Nat.le_of_ble_eq_true rfl) d_Mo_count_126 ⟨hX, hF⟩
        · refine lv_tableIn (tgt := 125) hx hb d_Mo_count_80 (by rw [h9]; decide) (by rw [h9]; decide) (by rw [h9]; rfl) (by decide) ?_
          refine lv_iload_n hx hb d_Mo_count_125 rfl (lv_at hl 1 rfl) ?_
          exact gw_iret hx hb hr hlocks hS hW (Nat.le_of_ble_eq_true rfl) (Nat.le_of_ble_eq_true rfl) d_Mo_count_126 ⟨hX, hF⟩
        · refine lv_tableIn (tgt := 127) hx hb d_Mo_count_80 (by rw [h9]; decide) (by rw [h9]; decide) (by rw [h9]; rfl) (by decide) ?_
          refine lv_aload_n hx hb d_Mo_count_127 rfl (lv_at hl 2 rfl) ?_
          obtain ⟨cdo9, mko9, f1o9, f2o9, f3o9, f4o9, f5o9, f6o9, f7o9, hf_0, hf_1, hf_2, hf_3, hf_4, hf_5, hf_6, hf_7, hk2o9, hk3o9, hk4o9, -, -⟩ := id hX
          refine gw_get (ci := 5) (fs := [.int cdo9, .int (nI lm), .int sm, .int E, .ref (B 1), .ref (B 2), .int (nI sz), .ref (B 3), .ref (B 4), .ref (B 5), .ref (B 6), .int (nI jb), .int mko9, .ref (B 7), .int (nI dr)]) hx hb hts in_Mo hown hE.K hW hf_0 rfl 11 (by decide) (hts _ mw262) (fun _ h9 => h9) rfl d_Mo_count_128 ?_
          exact gw_iret hx hb hr hlocks hS hW (Nat.le_of_ble_eq_true rfl) (Nat.le_of_ble_eq_true rfl) d_Mo_count_131 ⟨hX, hF⟩
        · refine lv_tableIn (tgt := 132) hx hb d_Mo_count_80 (by rw [h9]; decide) (by rw [h9]; decide) (by rw [h9]; rfl) (by decide) ?_
          refine lv_aload_n hx hb d_Mo_count_132 rfl (lv_at hl 2 rfl) ?_
          obtain ⟨cdo10, mko10, f1o10, f2o10, f3o10, f4o10, f5o10, f6o10, f7o10, hf_0, hf_1, hf_2, hf_3, hf_4, hf_5, hf_6, hf_7, hk2o10, hk3o10, hk4o10, -, -⟩ := id hX
          refine gw_get (ci := 5) (fs := [.int cdo10, .int (nI lm), .int sm, .int E, .ref (B 1), .ref (B 2), .int (nI sz), .ref (B 3), .ref (B 4), .ref (B 5), .ref (B 6), .int (nI jb), .int mko10, .ref (B 7), .int (nI dr)]) hx hb hts in_Mo hown hE.K hW hf_0 rfl 12 (by decide) (hts _ mw282) (fun _ h9 => h9) rfl d_Mo_count_133 ?_
          exact gw_iret hx hb hr hlocks hS hW (Nat.le_of_ble_eq_true rfl) (Nat.le_of_ble_eq_true rfl) d_Mo_count_136 ⟨hX, hF⟩
        · refine lv_tableIn (tgt := 137) hx hb d_Mo_count_80 (by rw [h9]; decide) (by rw [h9]; decide) (by rw [h9]; rfl) (by decide) ?_
          refine lv_aload_n hx hb d_Mo_count_137 rfl (lv_at hl 2 rfl) ?_
          obtain ⟨cdo11, mko11, f1o11, f2o11, f3o11, f4o11, f5o11, f6o11, f7o11, hf_0, hf_1, hf_2, hf_3, hf_4, hf_5, hf_6, hf_7, hk2o11, hk3o11, hk4o11, -, -⟩ := id hX
          refine gw_get (ci := 5) (fs := [.int cdo11, .int (nI lm), .int sm, .int E, .ref (B 1), .ref (B 2), .int (nI sz), .ref (B 3), .ref (B 4), .ref (B 5), .ref (B 6), .int (nI jb), .int mko11, .ref (B 7), .int (nI dr)]) hx hb hts in_Mo hown hE.K hW hf_0 rfl 14 (by decide) (hts _ mw247) (fun _ h9 => h9) rfl d_Mo_count_138 ?_
          exact gw_iret hx hb hr hlocks hS hW (Nat.le_of_ble_eq_true rfl) (Nat.le_of_ble_eq_true rfl) d_Mo_count_141 ⟨hX, hF⟩
      · refine lv_iload_n hx hb d_Mo_count_20 rfl (lv_at hl 3 rfl) ?_
        refine lv_iconst (v := 3) hx hb d_Mo_count_21 (by decide) ?_
        refine lv_icmp_ge (tgt := 79) hx hb d_Mo_count_22 (by decide) (fun c22 => ?_) (fun c22 => ?_)
        · refine lv_iload_n hx hb d_Mo_count_79 rfl (lv_at hl 3 rfl) ?_
          rcases gx_sw5 k with h9 | h9 | h9 | h9 | h9 | h9 | h9
          · refine lv_tableOut (tgt := 142) hx hb d_Mo_count_80 h9 (by decide) ?_
            refine lv_iconst (v := -1) hx hb d_Mo_count_142 (by decide) ?_
            exact gw_iret hx hb hr hlocks hS hW (Nat.le_of_ble_eq_true rfl) (Nat.le_of_ble_eq_true rfl) d_Mo_count_143 ⟨hX, hF⟩
          · refine lv_tableIn (tgt := 120) hx hb d_Mo_count_80 (by rw [h9]; decide) (by rw [h9]; decide) (by rw [h9]; rfl) (by decide) ?_
            refine lv_aload_n hx hb d_Mo_count_120 rfl (lv_at hl 2 rfl) ?_
            obtain ⟨cdo12, mko12, f1o12, f2o12, f3o12, f4o12, f5o12, f6o12, f7o12, hf_0, hf_1, hf_2, hf_3, hf_4, hf_5, hf_6, hf_7, hk2o12, hk3o12, hk4o12, -, -⟩ := id hX
            refine gw_get (ci := 5) (fs := [.int cdo12, .int (nI lm), .int sm, .int E, .ref (B 1), .ref (B 2), .int (nI sz), .ref (B 3), .ref (B 4), .ref (B 5), .ref (B 6), .int (nI jb), .int mko12, .ref (B 7), .int (nI dr)]) hx hb hts in_Mo hown hE.K hW hf_0 rfl 6 (by decide) (hts _ mw237) (fun _ h9 => h9) rfl d_Mo_count_121 ?_
            exact gw_iret hx hb hr hlocks hS hW (Nat.le_of_ble_eq_true rfl) (Nat.le_of_ble_eq_true rfl) d_Mo_count_124 ⟨hX, hF⟩
          · refine lv_tableIn (tgt := 125) hx hb d_Mo_count_80 (by rw [h9]; decide) (by rw [h9]; decide) (by rw [h9]; rfl) (by decide) ?_
            refine lv_iload_n hx hb d_Mo_count_125 rfl (lv_at hl 1 rfl) ?_
            exact gw_iret hx hb hr hlocks hS hW (Nat.le_of_ble_eq_true rfl) (Nat.le_of_ble_eq_true rfl) d_Mo_count_126 ⟨hX, hF⟩
          · refine lv_tableIn (tgt := 125) hx hb d_Mo_count_80 (by rw [h9]; decide) (by rw [h9]; decide) (by rw [h9]; rfl) (by decide) ?_
            refine lv_iload_n hx hb d_Mo_count_125 rfl (lv_at hl 1 rfl) ?_
            exact gw_iret hx hb hr hlocks hS hW (Nat.le_of_ble_eq_true rfl) (Nat.le_of_ble_eq_true rfl) d_Mo_count_126 ⟨hX, hF⟩
          · refine lv_tableIn (tgt := 127) hx hb d_Mo_count_80 (by rw [h9]; decide) (by rw [h9]; decide) (by rw [h9]; rfl) (by decide) ?_
            refine lv_aload_n hx hb d_Mo_count_127 rfl (lv_at hl 2 rfl) ?_
            obtain ⟨cdo13, mko13, f1o13, f2o13, f3o13, f4o13, f5o13, f6o13, f7o13, hf_0, hf_1, hf_2, hf_3, hf_4, hf_5, hf_6, hf_7, hk2o13, hk3o13, hk4o13, -, -⟩ := id hX
            refine gw_get (ci := 5) (fs := [.int cdo13, .int (nI lm), .int sm, .int E, .ref (B 1), .ref (B 2), .int (nI sz), .ref (B 3), .ref (B 4), .ref (B 5), .ref (B 6), .int (nI jb), .int mko13, .ref (B 7), .int (nI dr)]) hx hb hts in_Mo hown hE.K hW hf_0 rfl 11 (by decide) (hts _ mw262) (fun _ h9 => h9) rfl d_Mo_count_128 ?_
            exact gw_iret hx hb hr hlocks hS hW (Nat.le_of_ble_eq_true rfl) (Nat.le_of_ble_eq_true rfl) d_Mo_count_131 ⟨hX, hF⟩
          · refine lv_tableIn (tgt := 132) hx hb d_Mo_count_80 (by rw [h9]; decide) (by rw [h9]; decide) (by rw [h9]; rfl) (by decide) ?_
            refine lv_aload_n hx hb d_Mo_count_132 rfl (lv_at hl 2 rfl) ?_
            obtain ⟨cdo14, mko14, f1o14, f2o14, f3o14, f4o14, f5o14, f6o14, f7o14, hf_0, hf_1, hf_2, hf_3, hf_4, hf_5, hf_6, hf_7, hk2o14, hk3o14, hk4o14, -, -⟩ := id hX
            refine gw_get (ci := 5) (fs := [.int cdo14, .int (nI lm), .int sm, .int E, .ref (B 1), .ref (B 2), .int (nI sz), .ref (B 3), .ref (B 4), .ref (B 5), .ref (B 6), .int (nI jb), .int mko14, .ref (B 7), .int (nI dr)]) hx hb hts in_Mo hown hE.K hW hf_0 rfl 12 (by decide) (hts _ mw282) (fun _ h9 => h9) rfl d_Mo_count_133 ?_
            exact gw_iret hx hb hr hlocks hS hW (Nat.le_of_ble_eq_true rfl) (Nat.le_of_ble_eq_true rfl) d_Mo_count_136 ⟨hX, hF⟩
          · refine lv_tableIn (tgt := 137) hx hb d_Mo_count_80 (by rw [h9]; decide) (by rw [h9]; decide) (by rw [h9]; rfl) (by decide) ?_
            refine lv_aload_n hx hb d_Mo_count_137 rfl (lv_at hl 2 rfl) ?_
            obtain ⟨cdo15, mko15, f1o15, f2o15, f3o15, f4o15, f5o15, f6o15, f7o15, hf_0, hf_1, hf_2, hf_3, hf_4, hf_5, hf_6, hf_7, hk2o15, hk3o15, hk4o15, -, -⟩ := id hX
            refine gw_get (ci := 5) (fs := [.int cdo15, .int (nI lm), .int sm, .int E, .ref (B 1), .ref (B 2), .int (nI sz), .ref (B 3), .ref (B 4), .ref (B 5), .ref (B 6), .int (nI jb), .int mko15, .ref (B 7), .int (nI dr)]) hx hb hts in_Mo hown hE.K hW hf_0 rfl 14 (by decide) (hts _ mw247) (fun _ h9 => h9) rfl d_Mo_count_138 ?_
            exact gw_iret hx hb hr hlocks hS hW (Nat.le_of_ble_eq_true rfl) (Nat.le_of_ble_eq_true rfl) d_Mo_count_141 ⟨hX, hF⟩
        · refine lv_iload_n hx hb d_Mo_count_25 rfl (lv_at hl 1 rfl) ?_
          refine lv_iload_n hx hb d_Mo_count_26 rfl (lv_at hl 3 rfl) ?_
          refine lv_iconst (v := 2) hx hb d_Mo_count_27 (by decide) ?_
          refine lv_icmp_ne (tgt := 48) hx hb d_Mo_count_28 (by decide) (fun c28 => ?_) (fun c28 => ?_)
          · refine lv_aload_n hx hb d_Mo_count_48 rfl (lv_at hl 2 rfl) ?_
            refine lv_iload_n hx hb d_Mo_count_49 rfl (lv_at hl 0 rfl) ?_
            obtain ⟨cdo16, mko16, f1o16, f2o16, f3o16, f4o16, f5o16, f6o16, f7o16, hf_0, hf_1, hf_2, hf_3, hf_4, hf_5, hf_6, hf_7, hk2o16, hk3o16, hk4o16, -, -⟩ := id hX
            refine gw_calli hS (va_runV (As := [.int (nI k9)]) (rest := [.int c9_2]) ⟨hx, hb, hml, hown, hts⟩ (m_what l G M3 B lm sm E jb sz dr hX (nI k9)  (gm_nI (by omega))) (cwV 1 hts (gw_gv mw255 mw256 mw257 mw228 mw254) rfl rfl rfl (by decide +kernel) ⟨Nat.le_of_ble_eq_true rfl, Nat.le_of_ble_eq_true rfl⟩) (gw_pv hE hB hS hW rfl hf_0) rfl rfl hl.1 rfl (lv_room (Nat.le_of_ble_eq_true rfl)) d_Mo_count_50 ⟨Nat.le_of_ble_eq_true rfl, Nat.le_of_ble_eq_true rfl⟩) (fun r17 M18 H locs hw19 hW hS => ?_)
            obtain ⟨hX, hfr20⟩ := hw19
            have hF21 : gw_fg (gw_out [100, 101, 102, 103, 104, 105, 106, 107]) M M18 := gw_fg.tr hF (gw_fg.wk hfr20 (by decide))
            clear hfr20
            refine lv_iconst (v := 2) hx hb d_Mo_count_53 (by decide) ?_
            refine lv_icmp_eq (tgt := 66) hx hb d_Mo_count_54 (by decide) (fun c54 => ?_) (fun c54 => ?_)
            · refine lv_iconst (v := 1) hx hb d_Mo_count_66 (by decide) ?_
              refine lv_goto (tgt := 71) hx hb d_Mo_count_67 (by decide) ?_
              refine lv_iadd hx hb d_Mo_count_71 ?_
              refine lv_istore_n (lv' := [(2, .int (c9_2 + 1)), (3, .int (nI k9)), (0, .ref (B 0)), (1, .int k)]) hx hb d_Mo_count_72 rfl hl (by decide) rfl (fun ls hl => ?_)
              refine lv_iinc (v := (nI k9) + 1) (lv' := [(3, .int ((nI k9) + 1)), (2, .int (c9_2 + 1)), (0, .ref (B 0)), (1, .int k)]) hx hb d_Mo_count_73 hl (k := 1) rfl rfl (by decide) rfl (fun ls hl => ?_)
              refine lv_goto (tgt := 9) hx hb d_Mo_count_76 (by decide) ?_
              rw [nI_1] at hl
              apply ih9 (ls := ls) (k9 := k9 + 1) (H := H) (locs := locs) (M3 := M18) (c9_2 := c9_2 + 1) <;> first | exact lv_sub hl [0, 1, 2, 3] rfl | exact hX | exact hW | exact hS | exact hF21 | omega | assumption
            · refine lv_aload_n hx hb d_Mo_count_57 rfl (lv_at hl 2 rfl) ?_
              refine lv_iload_n hx hb d_Mo_count_58 rfl (lv_at hl 0 rfl) ?_
              obtain ⟨cdo22, mko22, f1o22, f2o22, f3o22, f4o22, f5o22, f6o22, f7o22, hf_0, hf_1, hf_2, hf_3, hf_4, hf_5, hf_6, hf_7, hk2o22, hk3o22, hk4o22, -, -⟩ := id hX
              refine gw_calli hS (va_runV (As := [.int (nI k9)]) (rest := [.int c9_2]) ⟨hx, hb, hml, hown, hts⟩ (m_what l G M18 B lm sm E jb sz dr hX (nI k9)  (gm_nI (by omega))) (cwV 1 hts (gw_gv mw255 mw256 mw257 mw228 mw254) rfl rfl rfl (by decide +kernel) ⟨Nat.le_of_ble_eq_true rfl, Nat.le_of_ble_eq_true rfl⟩) (gw_pv hE hB hS hW rfl hf_0) rfl rfl hl.1 rfl (lv_room (Nat.le_of_ble_eq_true rfl)) d_Mo_count_59 ⟨Nat.le_of_ble_eq_true rfl, Nat.le_of_ble_eq_true rfl⟩) (fun r23 M24 H locs hw25 hW hS => ?_)
              obtain ⟨hX, hfr26⟩ := hw25
              have hF27 : gw_fg (gw_out [100, 101, 102, 103, 104, 105, 106, 107]) M M24 := gw_fg.tr hF21 (gw_fg.wk hfr26 (by decide))
              clear hfr26
              refine lv_iconst (v := 3) hx hb d_Mo_count_62 (by decide) ?_
              refine lv_icmp_ne (tgt := 70) hx hb d_Mo_count_63 (by decide) (fun c63 => ?_) (fun c63 => ?_)
              · refine lv_iconst (v := 0) hx hb d_Mo_count_70 (by decide) ?_
                refine lv_iadd hx hb d_Mo_count_71 ?_
                refine lv_istore_n (lv' := [(2, .int (c9_2 + 0)), (3, .int (nI k9)), (0, .ref (B 0)), (1, .int k)]) hx hb d_Mo_count_72 rfl hl (by decide) rfl (fun ls hl => ?_)
                refine lv_iinc (v := (nI k9) + 1) (lv' := [(3, .int ((nI k9) + 1)), (2, .int (c9_2 + 0)), (0, .ref (B 0)), (1, .int k)]) hx hb d_Mo_count_73 hl (k := 1) rfl rfl (by decide) rfl (fun ls hl => ?_)
                refine lv_goto (tgt := 9) hx hb d_Mo_count_76 (by decide) ?_
                rw [nI_1] at hl
                apply ih9 (ls := ls) (k9 := k9 + 1) (H := H) (locs := locs) (M3 := M24) (c9_2 := c9_2 + 0) <;> first | exact lv_sub hl [0, 1, 2, 3] rfl | exact hX | exact hW | exact hS | exact hF27 | omega | assumption
              · refine lv_iconst (v := 1) hx hb d_Mo_count_66 (by decide) ?_
                refine lv_goto (tgt := 71) hx hb d_Mo_count_67 (by decide) ?_
                refine lv_iadd hx hb d_Mo_count_71 ?_
                refine lv_istore_n (lv' := [(2, .int (c9_2 + 1)), (3, .int (nI k9)), (0, .ref (B 0)), (1, .int k)]) hx hb d_Mo_count_72 rfl hl (by decide) rfl (fun ls hl => ?_)
                refine lv_iinc (v := (nI k9) + 1) (lv' := [(3, .int ((nI k9) + 1)), (2, .int (c9_2 + 1)), (0, .ref (B 0)), (1, .int k)]) hx hb d_Mo_count_73 hl (k := 1) rfl rfl (by decide) rfl (fun ls hl => ?_)
                refine lv_goto (tgt := 9) hx hb d_Mo_count_76 (by decide) ?_
                rw [nI_1] at hl
                apply ih9 (ls := ls) (k9 := k9 + 1) (H := H) (locs := locs) (M3 := M24) (c9_2 := c9_2 + 1) <;> first | exact lv_sub hl [0, 1, 2, 3] rfl | exact hX | exact hW | exact hS | exact hF27 | omega | assumption
          · refine lv_aload_n hx hb d_Mo_count_31 rfl (lv_at hl 2 rfl) ?_
            refine lv_iload_n hx hb d_Mo_count_32 rfl (lv_at hl 0 rfl) ?_
            obtain ⟨cdo28, mko28, f1o28, f2o28, f3o28, f4o28, f5o28, f6o28, f7o28, hf_0, hf_1, hf_2, hf_3, hf_4, hf_5, hf_6, hf_7, hk2o28, hk3o28, hk4o28, -, -⟩ := id hX
            refine gw_calli hS (va_runV (As := [.int (nI k9)]) (rest := [.int c9_2]) ⟨hx, hb, hml, hown, hts⟩ (m_what l G M3 B lm sm E jb sz dr hX (nI k9)  (gm_nI (by omega))) (cwV 1 hts (gw_gv mw255 mw256 mw257 mw228 mw254) rfl rfl rfl (by decide +kernel) ⟨Nat.le_of_ble_eq_true rfl, Nat.le_of_ble_eq_true rfl⟩) (gw_pv hE hB hS hW rfl hf_0) rfl rfl hl.1 rfl (lv_room (Nat.le_of_ble_eq_true rfl)) d_Mo_count_33 ⟨Nat.le_of_ble_eq_true rfl, Nat.le_of_ble_eq_true rfl⟩) (fun r29 M30 H locs hw31 hW hS => ?_)
            obtain ⟨hX, hfr32⟩ := hw31
            have hF33 : gw_fg (gw_out [100, 101, 102, 103, 104, 105, 106, 107]) M M30 := gw_fg.tr hF (gw_fg.wk hfr32 (by decide))
            clear hfr32
            refine lv_iconst (v := 4) hx hb d_Mo_count_36 (by decide) ?_
            refine lv_icmp_ne (tgt := 44) hx hb d_Mo_count_37 (by decide) (fun c37 => ?_) (fun c37 => ?_)
            · refine lv_iconst (v := 0) hx hb d_Mo_count_44 (by decide) ?_
              refine lv_goto (tgt := 71) hx hb d_Mo_count_45 (by decide) ?_
              refine lv_iadd hx hb d_Mo_count_71 ?_
              refine lv_istore_n (lv' := [(2, .int (c9_2 + 0)), (3, .int (nI k9)), (0, .ref (B 0)), (1, .int k)]) hx hb d_Mo_count_72 rfl hl (by decide) rfl (fun ls hl => ?_)
              refine lv_iinc (v := (nI k9) + 1) (lv' := [(3, .int ((nI k9) + 1)), (2, .int (c9_2 + 0)), (0, .ref (B 0)), (1, .int k)]) hx hb d_Mo_count_73 hl (k := 1) rfl rfl (by decide) rfl (fun ls hl => ?_)
              refine lv_goto (tgt := 9) hx hb d_Mo_count_76 (by decide) ?_
              rw [nI_1] at hl
              apply ih9 (ls := ls) (k9 := k9 + 1) (H := H) (locs := locs) (M3 := M30) (c9_2 := c9_2 + 0) <;> first | exact lv_sub hl [0, 1, 2, 3] rfl | exact hX | exact hW | exact hS | exact hF33 | omega | assumption
            · refine lv_iconst (v := 1) hx hb d_Mo_count_40 (by decide) ?_
              refine lv_goto (tgt := 71) hx hb d_Mo_count_41 (by decide) ?_
              refine lv_iadd hx hb d_Mo_count_71 ?_
              refine lv_istore_n (lv' := [(2, .int (c9_2 + 1)), (3, .int (nI k9)), (0, .ref (B 0)), (1, .int k)]) hx hb d_Mo_count_72 rfl hl (by decide) rfl (fun ls hl => ?_)
              refine lv_iinc (v := (nI k9) + 1) (lv' := [(3, .int ((nI k9) + 1)), (2, .int (c9_2 + 1)), (0, .ref (B 0)), (1, .int k)]) hx hb d_Mo_count_73 hl (k := 1) rfl rfl (by decide) rfl (fun ls hl => ?_)
              refine lv_goto (tgt := 9) hx hb d_Mo_count_76 (by decide) ?_
              rw [nI_1] at hl
              apply ih9 (ls := ls) (k9 := k9 + 1) (H := H) (locs := locs) (M3 := M30) (c9_2 := c9_2 + 1) <;> first | exact lv_sub hl [0, 1, 2, 3] rfl | exact hX | exact hW | exact hS | exact hF33 | omega | assumption
