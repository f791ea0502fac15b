set_option maxHeartbeats 4000000 in
set_option maxRecDepth 100000 in
theorem m_relative (l : Launch) (G : gw_G) (M : gw_M) (B : Nat → Nat) (lm : Nat) (sm E : Int32) (jb sz dr : Nat) (hX : gm_X G B lm sm E jb sz dr M) (k : Int32) (p : Int32) : Met l y_Mo_relative [.code y_Mo_relative b_Mo_relative 4 (some .int)] ({ frames := 2, cells := 0, slots := 0, locals := 43 }) (gw_Pc G M [.ref (B 0), .int k, .int p]) (gw_Qi G (fun r M2 => gm_X G B lm sm E jb sz dr M2 ∧ gw_fg (gw_out [100, 101, 102, 103, 104, 105, 106, 107]) M M2)) 0 0 (gw_A G) := by
  refine gw_start (by decide) (Nat.le_of_ble_eq_true rfl) (fun p9 e9 s m b9 mt9 c9 hx hb hr hml hown hlocks hin hE hB hW ls hl => ?_)
  have hts := hE.ts ([.ref (B 0), .int k, .int p] : List Value).toArray
  have hl : lv_has ls 4 [(0, .ref (B 0)), (1, .int k), (2, .int p)] := hl
  have hown : s.vm.findClass "GenerationsModel" = some m.cls := hown
  have hj9 := hX.jb40
  have hm9 := hX.lm255
  refine gw_gen (I := fun z => gm_X G B lm sm E jb sz dr z) (P := gw_out [100, 101, 102, 103, 104, 105, 106, 107]) hX hW (fun H locs Mw hW hS hX hF => ?_)
  have hX : gm_X G B lm sm E jb sz dr Mw := hX
  refine lv_aload_n hx hb d_Mo_relative_0 rfl (lv_at hl 0 rfl) ?_
  refine lv_aload_n hx hb d_Mo_relative_1 rfl (lv_at hl 0 rfl) ?_
  refine lv_iload_n hx hb d_Mo_relative_2 rfl (lv_at hl 1 rfl) ?_
  obtain ⟨cdo1, mko1, f1o1, f2o1, f3o1, f4o1, f5o1, f6o1, f7o1, hf_0, hf_1, hf_2, hf_3, hf_4, hf_5, hf_6, hf_7, hk2o1, hk3o1, hk4o1, -, -⟩ := id hX
  refine gw_calli hS (va_runV (As := [.int k]) (rest := [.ref (B 0)]) ⟨hx, hb, hml, hown, hts⟩ (m_isJob l G Mw B lm sm E jb sz dr hX k  ) (cwV 1 hts (gw_gv mw266 mw267 mw268 mw228 mw265) rfl rfl rfl (by decide +kernel) ⟨Nat.le_of_ble_eq_true rfl, Nat.le_of_ble_eq_true rfl⟩) (gw_pv hE hB hS hW rfl hf_0) rfl rfl hl.1 rfl (lv_room (Nat.le_of_ble_eq_true rfl)) d_Mo_relative_3 ⟨Nat.le_of_ble_eq_true rfl, Nat.le_of_ble_eq_true rfl⟩) (fun r2 M3 H locs hw4 hW hS => ?_)
  obtain ⟨hp_6, hX, hfr5⟩ := hw4
  have hF7 : gw_fg (gw_out [100, 101, 102, 103, 104, 105, 106, 107]) M M3 := gw_fg.tr hF (gw_fg.wk hfr5 (by decide))
  clear hfr5
  refine lv_if_eq (tgt := 15) hx hb d_Mo_relative_6 (by decide) (fun c6 => ?_) (fun c6 => ?_)
  · refine lv_iconst (v := 1) hx hb d_Mo_relative_15 (by decide) ?_
    refine lv_goto (tgt := 20) hx hb d_Mo_relative_16 (by decide) ?_
    obtain ⟨cdo8, mko8, f1o8, f2o8, f3o8, f4o8, f5o8, f6o8, f7o8, hf_0, hf_1, hf_2, hf_3, hf_4, hf_5, hf_6, hf_7, hk2o8, hk3o8, hk4o8, -, -⟩ := id hX
    refine gw_calli hS (va_runV (As := [.int 1]) (rest := []) ⟨hx, hb, hml, hown, hts⟩ (m_fails l G M3 B lm sm E jb sz dr hX 1  rfl) (cwV 1 hts (gw_gv mw270 mw271 mw272 mw228 mw269) rfl rfl rfl (by decide +kernel) ⟨Nat.le_of_ble_eq_true rfl, Nat.le_of_ble_eq_true rfl⟩) (gw_pv hE hB hS hW rfl hf_0) rfl rfl hl.1 rfl (lv_room (Nat.le_of_ble_eq_true rfl)) d_Mo_relative_20 ⟨Nat.le_of_ble_eq_true rfl, Nat.le_of_ble_eq_true rfl⟩) (fun r9 M10 H locs hw11 hW hS => ?_)
    obtain ⟨rfl, hX, hfr12⟩ := hw11
    have hF13 : gw_fg (gw_out [100, 101, 102, 103, 104, 105, 106, 107]) M M10 := gw_fg.tr hF7 (gw_fg.wk hfr12 (by decide))
    clear hfr12
    refine lv_if_eq (tgt := 28) hx hb d_Mo_relative_23 (by decide) (fun c23 => ?_) (fun c23 => ?_)
    · exact absurd c23 (by decide)
    · refine lv_iconst (v := 0) hx hb d_Mo_relative_26 (by decide) ?_
      exact gw_iret hx hb hr hlocks hS hW (Nat.le_of_ble_eq_true rfl) (Nat.le_of_ble_eq_true rfl) d_Mo_relative_27 ⟨hX, hF13⟩
  · refine lv_iload_n hx hb d_Mo_relative_9 rfl (lv_at hl 2 rfl) ?_
    refine lv_bipush (v := 99) hx hb d_Mo_relative_10 (by decide) ?_
    refine lv_icmp_le (tgt := 19) hx hb d_Mo_relative_12 (by decide) (fun c12 => ?_) (fun c12 => ?_)
    · refine lv_iconst (v := 0) hx hb d_Mo_relative_19 (by decide) ?_
      obtain ⟨cdo14, mko14, f1o14, f2o14, f3o14, f4o14, f5o14, f6o14, f7o14, hf_0, hf_1, hf_2, hf_3, hf_4, hf_5, hf_6, hf_7, hk2o14, hk3o14, hk4o14, -, -⟩ := id hX
      refine gw_calli hS (va_runV (As := [.int 0]) (rest := []) ⟨hx, hb, hml, hown, hts⟩ (m_fails l G M3 B lm sm E jb sz dr hX 0  rfl) (cwV 1 hts (gw_gv mw270 mw271 mw272 mw228 mw269) rfl rfl rfl (by decide +kernel) ⟨Nat.le_of_ble_eq_true rfl, Nat.le_of_ble_eq_true rfl⟩) (gw_pv hE hB hS hW rfl hf_0) rfl rfl hl.1 rfl (lv_room (Nat.le_of_ble_eq_true rfl)) d_Mo_relative_20 ⟨Nat.le_of_ble_eq_true rfl, Nat.le_of_ble_eq_true rfl⟩) (fun r15 M16 H locs hw17 hW hS => ?_)
      obtain ⟨rfl, hX, hfr18⟩ := hw17
      have hF19 : gw_fg (gw_out [100, 101, 102, 103, 104, 105, 106, 107]) M M16 := gw_fg.tr hF7 (gw_fg.wk hfr18 (by decide))
      clear hfr18
      refine lv_if_eq (tgt := 28) hx hb d_Mo_relative_23 (by decide) (fun c23 => ?_) (fun c23 => ?_)
      · obtain ⟨q, hq1, hq2, rfl⟩ := hp_6.resolve_left c6
        refine lv_iload_n hx hb d_Mo_relative_28 rfl (lv_at hl 2 rfl) ?_
        refine lv_if_le (tgt := 73) hx hb d_Mo_relative_29 (by decide) (fun c29 => ?_) (fun c29 => ?_)
        · refine lv_iload_n hx hb d_Mo_relative_73 rfl (lv_at hl 2 rfl) ?_
          refine lv_iconst (v := 0) hx hb d_Mo_relative_74 (by decide) ?_
          refine lv_aload_n hx hb d_Mo_relative_75 rfl (lv_at hl 0 rfl) ?_
          obtain ⟨cdo20, mko20, f1o20, f2o20, f3o20, f4o20, f5o20, f6o20, f7o20, hf_0, hf_1, hf_2, hf_3, hf_4, hf_5, hf_6, hf_7, hk2o20, hk3o20, hk4o20, -, -⟩ := id hX
          refine gw_get (ci := 5) (fs := [.int cdo20, .int (nI lm), .int sm, .int E, .ref (B 1), .ref (B 2), .int (nI sz), .ref (B 3), .ref (B 4), .ref (B 5), .ref (B 6), .int (nI jb), .int mko20, .ref (B 7), .int (nI dr)]) hx hb hts in_Mo hown hE.K hW hf_0 rfl 8 (by decide) (hts _ mw263) (fun _ h9 => h9) rfl d_Mo_relative_76 ?_
          refine lv_iload_n hx hb d_Mo_relative_79 rfl (lv_at hl 1 rfl) ?_
          refine gw_iald (i := nI q) hx hb hE.K hW 0 hf_4 rfl (vp_in_nI (by omega) (by omega)) d_Mo_relative_80 ?_
          obtain ⟨v21, ev21⟩ : ∃ z : Int32, z = f4o20 (nI q : Int32).toNatClampNeg := ⟨_, rfl⟩
          have hv21 : gm_s v21 := by rw [ev21]; exact hk4o20 _
          refine W.eq (g2 := F0 m 81 ls [.int v21, .int 0, .int p]) (by rw [ev21]) ?_
          refine lv_isub hx hb d_Mo_relative_81 ?_
          refine lv_icmp_gt (tgt := 87) hx hb d_Mo_relative_82 (by decide) (fun c82 => ?_) (fun c82 => ?_)
          · refine lv_aload_n hx hb d_Mo_relative_87 rfl (lv_at hl 0 rfl) ?_
            refine gw_get (ci := 5) (fs := [.int cdo20, .int (nI lm), .int sm, .int E, .ref (B 1), .ref (B 2), .int (nI sz), .ref (B 3), .ref (B 4), .ref (B 5), .ref (B 6), .int (nI jb), .int mko20, .ref (B 7), .int (nI dr)]) hx hb hts in_Mo hown hE.K hW hf_0 rfl 7 (by decide) (hts _ mw264) (fun _ h9 => h9) rfl d_Mo_relative_88 ?_
            refine lv_sipush (v := 256) hx hb d_Mo_relative_91 (by decide) ?_
            refine lv_iload_n hx hb d_Mo_relative_94 rfl (lv_at hl 1 rfl) ?_
            refine lv_iconst (v := 1) hx hb d_Mo_relative_95 (by decide) ?_
            refine lv_isub hx hb d_Mo_relative_96 ?_
            refine lv_imul hx hb d_Mo_relative_97 ?_
            refine lv_aload_n hx hb d_Mo_relative_98 rfl (lv_at hl 0 rfl) ?_
            refine gw_get (ci := 5) (fs := [.int cdo20, .int (nI lm), .int sm, .int E, .ref (B 1), .ref (B 2), .int (nI sz), .ref (B 3), .ref (B 4), .ref (B 5), .ref (B 6), .int (nI jb), .int mko20, .ref (B 7), .int (nI dr)]) hx hb hts in_Mo hown hE.K hW hf_0 rfl 8 (by decide) (hts _ mw263) (fun _ h9 => h9) rfl d_Mo_relative_99 ?_
            refine lv_iload_n hx hb d_Mo_relative_102 rfl (lv_at hl 1 rfl) ?_
            refine gw_iald (i := nI q) hx hb hE.K hW 0 hf_4 rfl (vp_in_nI (by omega) (by omega)) d_Mo_relative_103 ?_
            obtain ⟨v22, ev22⟩ : ∃ z : Int32, z = f4o20 (nI q : Int32).toNatClampNeg := ⟨_, rfl⟩
            have hv22 : gm_s v22 := by rw [ev22]; exact hk4o20 _
            refine W.eq (g2 := F0 m 104 ls [.int v22, .int (256 * ((nI q) - 1)), .ref (B 3)]) (by rw [ev22]) ?_
            refine lv_iadd hx hb d_Mo_relative_104 ?_
            refine lv_iconst (v := 1) hx hb d_Mo_relative_105 (by decide) ?_
            refine lv_isub hx hb d_Mo_relative_106 ?_
            refine lv_iload_n hx hb d_Mo_relative_107 rfl (lv_at hl 2 rfl) ?_
            refine lv_iadd hx hb d_Mo_relative_108 ?_
            refine gw_iald (i := (((256 * ((nI q) - 1)) + v22) - 1) + p) hx hb hE.K hW 0 hf_3 rfl (gm_ri hq1 (by omega) hv22 c29 (by rw [ev22, ← ev21]; exact c82)) d_Mo_relative_109 ?_
            obtain ⟨v23, ev23⟩ : ∃ z : Int32, z = f3o20 ((((256 * ((nI q) - 1)) + v22) - 1) + p : Int32).toNatClampNeg := ⟨_, rfl⟩
            have hv23 : gm_k v23 := by rw [ev23]; exact hk3o20 _
            refine W.eq (g2 := F0 m 110 ls [.int v23]) (by rw [ev23]) ?_
            refine lv_istore_n (lv' := [(3, .int v23), (0, .ref (B 0)), (1, .int (nI q)), (2, .int p)]) hx hb d_Mo_relative_110 rfl hl (by decide) rfl (fun ls hl => ?_)
            refine lv_aload_n hx hb d_Mo_relative_111 rfl (lv_at hl 1 rfl) ?_
            refine lv_iload_n hx hb d_Mo_relative_112 rfl (lv_at hl 0 rfl) ?_
            refine gw_calli hS (va_runV (As := [.int v23]) (rest := []) ⟨hx, hb, hml, hown, hts⟩ (m_what l G M16 B lm sm E jb sz dr hX v23  hv23) (cwV 1 hts (gw_gv mw255 mw256 mw257 mw228 mw254) rfl rfl rfl (by decide +kernel) ⟨Nat.le_of_ble_eq_true rfl, Nat.le_of_ble_eq_true rfl⟩) (gw_pv hE hB hS hW rfl hf_0) rfl rfl hl.1 rfl (lv_room (Nat.le_of_ble_eq_true rfl)) d_Mo_relative_113 ⟨Nat.le_of_ble_eq_true rfl, Nat.le_of_ble_eq_true rfl⟩) (fun r24 M25 H locs hw26 hW hS => ?_)
            obtain ⟨hX, hfr27⟩ := hw26
            have hF28 : gw_fg (gw_out [100, 101, 102, 103, 104, 105, 106, 107]) M M25 := gw_fg.tr hF19 (gw_fg.wk hfr27 (by decide))
            clear hfr27
            refine lv_iconst (v := 1) hx hb d_Mo_relative_116 (by decide) ?_
            refine lv_icmp_ne (tgt := 124) hx hb d_Mo_relative_117 (by decide) (fun c117 => ?_) (fun c117 => ?_)
            · refine lv_iconst (v := -1) hx hb d_Mo_relative_124 (by decide) ?_
              exact gw_iret hx hb hr hlocks hS hW (Nat.le_of_ble_eq_true rfl) (Nat.le_of_ble_eq_true rfl) d_Mo_relative_125 ⟨hX, hF28⟩
            · refine lv_iload_n hx hb d_Mo_relative_120 rfl (lv_at hl 0 rfl) ?_
              refine lv_goto (tgt := 125) hx hb d_Mo_relative_121 (by decide) ?_
              exact gw_iret hx hb hr hlocks hS hW (Nat.le_of_ble_eq_true rfl) (Nat.le_of_ble_eq_true rfl) d_Mo_relative_125 ⟨hX, hF28⟩
          · refine lv_iconst (v := -1) hx hb d_Mo_relative_85 (by decide) ?_
            exact gw_iret hx hb hr hlocks hS hW (Nat.le_of_ble_eq_true rfl) (Nat.le_of_ble_eq_true rfl) d_Mo_relative_86 ⟨hX, hF19⟩
        · obtain ⟨w, hw1, hw2, rfl⟩ := gm_99 c29 c12
          refine lv_aload_n hx hb d_Mo_relative_32 rfl (lv_at hl 0 rfl) ?_
          obtain ⟨cdo29, mko29, f1o29, f2o29, f3o29, f4o29, f5o29, f6o29, f7o29, hf_0, hf_1, hf_2, hf_3, hf_4, hf_5, hf_6, hf_7, hk2o29, hk3o29, hk4o29, -, -⟩ := id hX
          refine gw_get (ci := 5) (fs := [.int cdo29, .int (nI lm), .int sm, .int E, .ref (B 1), .ref (B 2), .int (nI sz), .ref (B 3), .ref (B 4), .ref (B 5), .ref (B 6), .int (nI jb), .int mko29, .ref (B 7), .int (nI dr)]) hx hb hts in_Mo hown hE.K hW hf_0 rfl 10 (by decide) (hts _ mw273) (fun _ h9 => h9) rfl d_Mo_relative_33 ?_
          refine lv_bipush (v := 100) hx hb d_Mo_relative_36 (by decide) ?_
          refine lv_iload_n hx hb d_Mo_relative_38 rfl (lv_at hl 1 rfl) ?_
          refine lv_imul hx hb d_Mo_relative_39 ?_
          refine lv_iload_n hx hb d_Mo_relative_40 rfl (lv_at hl 2 rfl) ?_
          refine lv_iadd hx hb d_Mo_relative_41 ?_
          refine lv_iconst (v := 1) hx hb d_Mo_relative_42 (by decide) ?_
          refine lv_isub hx hb d_Mo_relative_43 ?_
          refine gw_iald (i := ((100 * (nI q)) + (nI w)) - 1) hx hb hE.K hW 0 hf_6 rfl (gm_mi (by omega) (by omega) (by omega)) d_Mo_relative_44 ?_
          refine lv_if_le (tgt := 71) hx hb d_Mo_relative_45 (by decide) (fun c45 => ?_) (fun c45 => ?_)
          · refine lv_iconst (v := -1) hx hb d_Mo_relative_71 (by decide) ?_
            exact gw_iret hx hb hr hlocks hS hW (Nat.le_of_ble_eq_true rfl) (Nat.le_of_ble_eq_true rfl) d_Mo_relative_72 ⟨hX, hF19⟩
          · refine lv_aload_n hx hb d_Mo_relative_48 rfl (lv_at hl 0 rfl) ?_
            refine lv_iload_n hx hb d_Mo_relative_49 rfl (lv_at hl 1 rfl) ?_
            refine lv_aload_n hx hb d_Mo_relative_50 rfl (lv_at hl 0 rfl) ?_
            refine lv_iload_n hx hb d_Mo_relative_51 rfl (lv_at hl 1 rfl) ?_
            refine lv_iload_n hx hb d_Mo_relative_52 rfl (lv_at hl 2 rfl) ?_
            refine gw_calli hS (va_runV (As := [.int (nI q), .int (nI w)]) (rest := [.int (nI q), .ref (B 0)]) ⟨hx, hb, hml, hown, hts⟩ (m_numberOf l G M16 B lm sm E jb sz dr hX q w  (by omega) (by omega) (by omega) (by omega)) (cwV 2 hts (gw_gv mw275 mw276 mw277 mw228 mw274) rfl rfl rfl (by decide +kernel) ⟨Nat.le_of_ble_eq_true rfl, Nat.le_of_ble_eq_true rfl⟩) (gw_pv hE hB hS hW rfl hf_0) rfl rfl hl.1 rfl (lv_room (Nat.le_of_ble_eq_true rfl)) d_Mo_relative_53 ⟨Nat.le_of_ble_eq_true rfl, Nat.le_of_ble_eq_true rfl⟩) (fun r30 M31 H locs hw32 hW hS => ?_)
            obtain ⟨hp_34, hX, hfr33⟩ := hw32
            have hF35 : gw_fg (gw_out [100, 101, 102, 103, 104, 105, 106, 107]) M M31 := gw_fg.tr hF19 (gw_fg.wk hfr33 (by decide))
            clear hfr33
            obtain ⟨cdo36, mko36, f1o36, f2o36, f3o36, f4o36, f5o36, f6o36, f7o36, hf_0, hf_1, hf_2, hf_3, hf_4, hf_5, hf_6, hf_7, hk2o36, hk3o36, hk4o36, -, -⟩ := id hX
            refine gw_calli hS (va_runV (As := [.int (nI q), .int r30]) (rest := []) ⟨hx, hb, hml, hown, hts⟩ (m_isOwn l G M31 B lm sm E jb sz dr hX (nI q) r30  hp_34) (cwV 2 hts (gw_gv mw279 mw280 mw281 mw228 mw278) rfl rfl rfl (by decide +kernel) ⟨Nat.le_of_ble_eq_true rfl, Nat.le_of_ble_eq_true rfl⟩) (gw_pv hE hB hS hW rfl hf_0) rfl rfl hl.1 rfl (lv_room (Nat.le_of_ble_eq_true rfl)) d_Mo_relative_56 ⟨Nat.le_of_ble_eq_true rfl, Nat.le_of_ble_eq_true rfl⟩) (fun r37 M38 H locs hw39 hW hS => ?_)
            obtain ⟨hX, hfr40⟩ := hw39
            have hF41 : gw_fg (gw_out [100, 101, 102, 103, 104, 105, 106, 107]) M M38 := gw_fg.tr hF35 (gw_fg.wk hfr40 (by decide))
            clear hfr40
            refine lv_if_eq (tgt := 71) hx hb d_Mo_relative_59 (by decide) (fun c59 => ?_) (fun c59 => ?_)
            · refine lv_iconst (v := -1) hx hb d_Mo_relative_71 (by decide) ?_
              exact gw_iret hx hb hr hlocks hS hW (Nat.le_of_ble_eq_true rfl) (Nat.le_of_ble_eq_true rfl) d_Mo_relative_72 ⟨hX, hF41⟩
            · refine lv_aload_n hx hb d_Mo_relative_62 rfl (lv_at hl 0 rfl) ?_
              refine lv_iload_n hx hb d_Mo_relative_63 rfl (lv_at hl 1 rfl) ?_
              refine lv_iload_n hx hb d_Mo_relative_64 rfl (lv_at hl 2 rfl) ?_
              obtain ⟨cdo42, mko42, f1o42, f2o42, f3o42, f4o42, f5o42, f6o42, f7o42, hf_0, hf_1, hf_2, hf_3, hf_4, hf_5, hf_6, hf_7, hk2o42, hk3o42, hk4o42, -, -⟩ := id hX
              refine gw_calli hS (va_runV (As := [.int (nI q), .int (nI w)]) (rest := []) ⟨hx, hb, hml, hown, hts⟩ (m_numberOf l G M38 B lm sm E jb sz dr hX q w  (by omega) (by omega) (by omega) (by omega)) (cwV 2 hts (gw_gv mw275 mw276 mw277 mw228 mw274) rfl rfl rfl (by decide +kernel) ⟨Nat.le_of_ble_eq_true rfl, Nat.le_of_ble_eq_true rfl⟩) (gw_pv hE hB hS hW rfl hf_0) rfl rfl hl.1 rfl (lv_room (Nat.le_of_ble_eq_true rfl)) d_Mo_relative_65 ⟨Nat.le_of_ble_eq_true rfl, Nat.le_of_ble_eq_true rfl⟩) (fun r43 M44 H locs hw45 hW hS => ?_)
              obtain ⟨hp_47, hX, hfr46⟩ := hw45
              have hF48 : gw_fg (gw_out [100, 101, 102, 103, 104, 105, 106, 107]) M M44 := gw_fg.tr hF41 (gw_fg.wk hfr46 (by decide))
              clear hfr46
              refine lv_goto (tgt := 72) hx hb d_Mo_relative_68 (by decide) ?_
              exact gw_iret hx hb hr hlocks hS hW (Nat.le_of_ble_eq_true rfl) (Nat.le_of_ble_eq_true rfl) d_Mo_relative_72 ⟨hX, hF48⟩
      · exact absurd c23 (by decide)
    · refine lv_iconst (v := 1) hx hb d_Mo_relative_15 (by decide) ?_
      refine lv_goto (tgt := 20) hx hb d_Mo_relative_16 (by decide) ?_
      obtain ⟨cdo49, mko49, f1o49, f2o49, f3o49, f4o49, f5o49, f6o49, f7o49, hf_0, hf_1, hf_2, hf_3, hf_4, hf_5, hf_6, hf_7, hk2o49, hk3o49, hk4o49, -, -⟩ := id hX
      refine gw_calli hS (va_runV (As := [.int 1]) (rest := []) ⟨hx, hb, hml, hown, hts⟩ (m_fails l G M3 B lm sm E jb sz dr hX 1  rfl) (cwV 1 hts (gw_gv mw270 mw271 mw272 mw228 mw269) rfl rfl rfl (by decide +kernel) ⟨Nat.le_of_ble_eq_true rfl, Nat.le_of_ble_eq_true rfl⟩) (gw_pv hE hB hS hW rfl hf_0) rfl rfl hl.1 rfl (lv_room (Nat.le_of_ble_eq_true rfl)) d_Mo_relative_20 ⟨Nat.le_of_ble_eq_true rfl, Nat.le_of_ble_eq_true rfl⟩) (fun r50 M51 H locs hw52 hW hS => ?_)
      obtain ⟨rfl, hX, hfr53⟩ := hw52
      have hF54 : gw_fg (gw_out [100, 101, 102, 103, 104, 105, 106, 107]) M M51 := gw_fg.tr hF7 (gw_fg.wk hfr53 (by decide))
      clear hfr53
      refine lv_if_eq (tgt := 28) hx hb d_Mo_relative_23 (by decide) (fun c23 => ?_) (fun c23 => ?_)
      · exact absurd c23 (by decide)
      · refine lv_iconst (v := 0) hx hb d_Mo_relative_26 (by decide) ?_
        exact gw_iret hx hb hr hlocks hS hW (Nat.le_of_ble_eq_true rfl) (Nat.le_of_ble_eq_true rfl) d_Mo_relative_27 ⟨hX, hF54⟩

set_option maxHeartbeats 4000000 in
set_option maxRecDepth 100000 in
theorem m_make (l : Launch) (G : gw_G) (M : gw_M) (B : Nat → Nat) (lm : Nat) (sm E : Int32) (jb sz dr : Nat) (hX : gm_X G B lm sm E jb sz dr M) (k : Int32) (p : Int32) : Met l y_Mo_make [.code y_Mo_make b_Mo_make 4 (some .int)] ({ frames := 2, cells := 0, slots := 0, locals := 43 }) (gw_Pc G M [.ref (B 0), .int k, .int p]) (gw_Qi G (fun r M2 => gm_X G B lm sm E jb sz dr M2 ∧ gw_fg (gw_out [100, 101, 102, 103, 104, 105, 106, 107]) M M2)) 0 0 (gw_A G) := by
  refine gw_start (by decide) (Nat.le_of_ble_eq_true rfl) (fun p9 e9 s m b9 mt9 c9 hx hb hr hml hown hlocks hin hE hB hW ls hl => ?_)
  have hts := hE.ts ([.ref (B 0), .int k, .int p] : List Value).toArray
  have hl : lv_has ls 4 [(0, .ref (B 0)), (1, .int k), (2, .int p)] := hl
  have hown : s.vm.findClass "GenerationsModel" = some m.cls := hown
  have hj9 := hX.jb40
  have hm9 := hX.lm255
  refine gw_gen (I := fun z => gm_X G B lm sm E jb sz dr z) (P := gw_out [100, 101, 102, 103, 104, 105, 106, 107]) hX hW (fun H locs Mw hW hS hX hF => ?_)
  have hX : gm_X G B lm sm E jb sz dr Mw := hX
  refine lv_aload_n hx hb d_Mo_make_0 rfl (lv_at hl 0 rfl) ?_
  refine lv_aload_n hx hb d_Mo_make_1 rfl (lv_at hl 0 rfl) ?_
  refine lv_iload_n hx hb d_Mo_make_2 rfl (lv_at hl 1 rfl) ?_
  obtain ⟨cdo1, mko1, f1o1, f2o1, f3o1, f4o1, f5o1, f6o1, f7o1, hf_0, hf_1, hf_2, hf_3, hf_4, hf_5, hf_6, hf_7, hk2o1, hk3o1, hk4o1, -, -⟩ := id hX
  refine gw_calli hS (va_runV (As := [.int k]) (rest := [.ref (B 0)]) ⟨hx, hb, hml, hown, hts⟩ (m_isJob l G Mw B lm sm E jb sz dr hX k  ) (cwV 1 hts (gw_gv mw266 mw267 mw268 mw228 mw265) rfl rfl rfl (by decide +kernel) ⟨Nat.le_of_ble_eq_true rfl, Nat.le_of_ble_eq_true rfl⟩) (gw_pv hE hB hS hW rfl hf_0) rfl rfl hl.1 rfl (lv_room (Nat.le_of_ble_eq_true rfl)) d_Mo_make_3 ⟨Nat.le_of_ble_eq_true rfl, Nat.le_of_ble_eq_true rfl⟩) (fun r2 M3 H locs hw4 hW hS => ?_)
  obtain ⟨hp_6, hX, hfr5⟩ := hw4
  have hF7 : gw_fg (gw_out [100, 101, 102, 103, 104, 105, 106, 107]) M M3 := gw_fg.tr hF (gw_fg.wk hfr5 (by decide))
  clear hfr5
  refine lv_if_eq (tgt := 20) hx hb d_Mo_make_6 (by decide) (fun c6 => ?_) (fun c6 => ?_)
  · refine lv_iconst (v := 1) hx hb d_Mo_make_20 (by decide) ?_
    refine lv_goto (tgt := 25) hx hb d_Mo_make_21 (by decide) ?_
    obtain ⟨cdo8, mko8, f1o8, f2o8, f3o8, f4o8, f5o8, f6o8, f7o8, hf_0, hf_1, hf_2, hf_3, hf_4, hf_5, hf_6, hf_7, hk2o8, hk3o8, hk4o8, -, -⟩ := id hX
    refine gw_calli hS (va_runV (As := [.int 1]) (rest := []) ⟨hx, hb, hml, hown, hts⟩ (m_fails l G M3 B lm sm E jb sz dr hX 1  rfl) (cwV 1 hts (gw_gv mw270 mw271 mw272 mw228 mw269) rfl rfl rfl (by decide +kernel) ⟨Nat.le_of_ble_eq_true rfl, Nat.le_of_ble_eq_true rfl⟩) (gw_pv hE hB hS hW rfl hf_0) rfl rfl hl.1 rfl (lv_room (Nat.le_of_ble_eq_true rfl)) d_Mo_make_25 ⟨Nat.le_of_ble_eq_true rfl, Nat.le_of_ble_eq_true rfl⟩) (fun r9 M10 H locs hw11 hW hS => ?_)
    obtain ⟨rfl, hX, hfr12⟩ := hw11
    have hF13 : gw_fg (gw_out [100, 101, 102, 103, 104, 105, 106, 107]) M M10 := gw_fg.tr hF7 (gw_fg.wk hfr12 (by decide))
    clear hfr12
    refine lv_if_eq (tgt := 33) hx hb d_Mo_make_28 (by decide) (fun c28 => ?_) (fun c28 => ?_)
    · exact absurd c28 (by decide)
    · refine lv_iconst (v := 0) hx hb d_Mo_make_31 (by decide) ?_
      exact gw_iret hx hb hr hlocks hS hW (Nat.le_of_ble_eq_true rfl) (Nat.le_of_ble_eq_true rfl) d_Mo_make_32 ⟨hX, hF13⟩
  · refine lv_iload_n hx hb d_Mo_make_9 rfl (lv_at hl 2 rfl) ?_
    refine lv_iconst (v := 1) hx hb d_Mo_make_10 (by decide) ?_
    refine lv_icmp_lt (tgt := 20) hx hb d_Mo_make_11 (by decide) (fun c11 => ?_) (fun c11 => ?_)
    · refine lv_iconst (v := 1) hx hb d_Mo_make_20 (by decide) ?_
      refine lv_goto (tgt := 25) hx hb d_Mo_make_21 (by decide) ?_
      obtain ⟨cdo14, mko14, f1o14, f2o14, f3o14, f4o14, f5o14, f6o14, f7o14, hf_0, hf_1, hf_2, hf_3, hf_4, hf_5, hf_6, hf_7, hk2o14, hk3o14, hk4o14, -, -⟩ := id hX
      refine gw_calli hS (va_runV (As := [.int 1]) (rest := []) ⟨hx, hb, hml, hown, hts⟩ (m_fails l G M3 B lm sm E jb sz dr hX 1  rfl) (cwV 1 hts (gw_gv mw270 mw271 mw272 mw228 mw269) rfl rfl rfl (by decide +kernel) ⟨Nat.le_of_ble_eq_true rfl, Nat.le_of_ble_eq_true rfl⟩) (gw_pv hE hB hS hW rfl hf_0) rfl rfl hl.1 rfl (lv_room (Nat.le_of_ble_eq_true rfl)) d_Mo_make_25 ⟨Nat.le_of_ble_eq_true rfl, Nat.le_of_ble_eq_true rfl⟩) (fun r15 M16 H locs hw17 hW hS => ?_)
      obtain ⟨rfl, hX, hfr18⟩ := hw17
      have hF19 : gw_fg (gw_out [100, 101, 102, 103, 104, 105, 106, 107]) M M16 := gw_fg.tr hF7 (gw_fg.wk hfr18 (by decide))
      clear hfr18
      refine lv_if_eq (tgt := 33) hx hb d_Mo_make_28 (by decide) (fun c28 => ?_) (fun c28 => ?_)
      · exact absurd c28 (by decide)
      · refine lv_iconst (v := 0) hx hb d_Mo_make_31 (by decide) ?_
        exact gw_iret hx hb hr hlocks hS hW (Nat.le_of_ble_eq_true rfl) (Nat.le_of_ble_eq_true rfl) d_Mo_make_32 ⟨hX, hF19⟩
    · refine lv_iload_n hx hb d_Mo_make_14 rfl (lv_at hl 2 rfl) ?_
      refine lv_bipush (v := 99) hx hb d_Mo_make_15 (by decide) ?_
      refine lv_icmp_le (tgt := 24) hx hb d_Mo_make_17 (by decide) (fun c17 => ?_) (fun c17 => ?_)
      · refine lv_iconst (v := 0) hx hb d_Mo_make_24 (by decide) ?_
        obtain ⟨cdo20, mko20, f1o20, f2o20, f3o20, f4o20, f5o20, f6o20, f7o20, hf_0, hf_1, hf_2, hf_3, hf_4, hf_5, hf_6, hf_7, hk2o20, hk3o20, hk4o20, -, -⟩ := id hX
        refine gw_calli hS (va_runV (As := [.int 0]) (rest := []) ⟨hx, hb, hml, hown, hts⟩ (m_fails l G M3 B lm sm E jb sz dr hX 0  rfl) (cwV 1 hts (gw_gv mw270 mw271 mw272 mw228 mw269) rfl rfl rfl (by decide +kernel) ⟨Nat.le_of_ble_eq_true rfl, Nat.le_of_ble_eq_true rfl⟩) (gw_pv hE hB hS hW rfl hf_0) rfl rfl hl.1 rfl (lv_room (Nat.le_of_ble_eq_true rfl)) d_Mo_make_25 ⟨Nat.le_of_ble_eq_true rfl, Nat.le_of_ble_eq_true rfl⟩) (fun r21 M22 H locs hw23 hW hS => ?_)
        obtain ⟨rfl, hX, hfr24⟩ := hw23
        have hF25 : gw_fg (gw_out [100, 101, 102, 103, 104, 105, 106, 107]) M M22 := gw_fg.tr hF7 (gw_fg.wk hfr24 (by decide))
        clear hfr24
        refine lv_if_eq (tgt := 33) hx hb d_Mo_make_28 (by decide) (fun c28 => ?_) (fun c28 => ?_)
        · obtain ⟨q, hq1, hq2, rfl⟩ := hp_6.resolve_left c6
          obtain ⟨w, hw1, hw2, rfl⟩ := gm_991 c11 c17
          refine lv_aload_n hx hb d_Mo_make_33 rfl (lv_at hl 0 rfl) ?_
          refine lv_iload_n hx hb d_Mo_make_34 rfl (lv_at hl 1 rfl) ?_
          refine lv_iload_n hx hb d_Mo_make_35 rfl (lv_at hl 2 rfl) ?_
          obtain ⟨cdo26, mko26, f1o26, f2o26, f3o26, f4o26, f5o26, f6o26, f7o26, hf_0, hf_1, hf_2, hf_3, hf_4, hf_5, hf_6, hf_7, hk2o26, hk3o26, hk4o26, -, -⟩ := id hX
          refine gw_calli hS (va_runV (As := [.int (nI q), .int (nI w)]) (rest := []) ⟨hx, hb, hml, hown, hts⟩ (m_numberOf l G M22 B lm sm E jb sz dr hX q w  (by omega) (by omega) (by omega) (by omega)) (cwV 2 hts (gw_gv mw275 mw276 mw277 mw228 mw274) rfl rfl rfl (by decide +kernel) ⟨Nat.le_of_ble_eq_true rfl, Nat.le_of_ble_eq_true rfl⟩) (gw_pv hE hB hS hW rfl hf_0) rfl rfl hl.1 rfl (lv_room (Nat.le_of_ble_eq_true rfl)) d_Mo_make_36 ⟨Nat.le_of_ble_eq_true rfl, Nat.le_of_ble_eq_true rfl⟩) (fun r27 M28 H locs hw29 hW hS => ?_)
          obtain ⟨hp_31, hX, hfr30⟩ := hw29
          have hF32 : gw_fg (gw_out [100, 101, 102, 103, 104, 105, 106, 107]) M M28 := gw_fg.tr hF25 (gw_fg.wk hfr30 (by decide))
          clear hfr30
          refine lv_istore_n (lv' := [(3, .int r27), (0, .ref (B 0)), (1, .int (nI q)), (2, .int (nI w))]) hx hb d_Mo_make_39 rfl hl (by decide) rfl (fun ls hl => ?_)
          refine lv_aload_n hx hb d_Mo_make_40 rfl (lv_at hl 1 rfl) ?_
          obtain ⟨cdo33, mko33, f1o33, f2o33, f3o33, f4o33, f5o33, f6o33, f7o33, hf_0, hf_1, hf_2, hf_3, hf_4, hf_5, hf_6, hf_7, hk2o33, hk3o33, hk4o33, -, -⟩ := id hX
          refine gw_get (ci := 5) (fs := [.int cdo33, .int (nI lm), .int sm, .int E, .ref (B 1), .ref (B 2), .int (nI sz), .ref (B 3), .ref (B 4), .ref (B 5), .ref (B 6), .int (nI jb), .int mko33, .ref (B 7), .int (nI dr)]) hx hb hts in_Mo hown hE.K hW hf_0 rfl 10 (by decide) (hts _ mw273) (fun _ h9 => h9) rfl d_Mo_make_41 ?_
          refine lv_bipush (v := 100) hx hb d_Mo_make_44 (by decide) ?_
          refine lv_iload_n hx hb d_Mo_make_46 rfl (lv_at hl 2 rfl) ?_
          refine lv_imul hx hb d_Mo_make_47 ?_
          refine lv_iload_n hx hb d_Mo_make_48 rfl (lv_at hl 3 rfl) ?_
          refine lv_iadd hx hb d_Mo_make_49 ?_
          refine lv_iconst (v := 1) hx hb d_Mo_make_50 (by decide) ?_
          refine lv_isub hx hb d_Mo_make_51 ?_
          refine gw_iald (i := ((100 * (nI q)) + (nI w)) - 1) hx hb hE.K hW 0 hf_6 rfl (gm_mi (by omega) (by omega) (by omega)) d_Mo_make_52 ?_
          refine lv_if_le (tgt := 67) hx hb d_Mo_make_53 (by decide) (fun c53 => ?_) (fun c53 => ?_)
          · refine lv_aload_n hx hb d_Mo_make_67 rfl (lv_at hl 1 rfl) ?_
            refine lv_iload_n hx hb d_Mo_make_68 rfl (lv_at hl 0 rfl) ?_
            refine gw_calli hS (va_runV (As := [.int r27]) (rest := []) ⟨hx, hb, hml, hown, hts⟩ (m_what l G M28 B lm sm E jb sz dr hX r27  hp_31) (cwV 1 hts (gw_gv mw255 mw256 mw257 mw228 mw254) rfl rfl rfl (by decide +kernel) ⟨Nat.le_of_ble_eq_true rfl, Nat.le_of_ble_eq_true rfl⟩) (gw_pv hE hB hS hW rfl hf_0) rfl rfl hl.1 rfl (lv_room (Nat.le_of_ble_eq_true rfl)) d_Mo_make_69 ⟨Nat.le_of_ble_eq_true rfl, Nat.le_of_ble_eq_true rfl⟩) (fun r34 M35 H locs hw36 hW hS => ?_)
            obtain ⟨hX, hfr37⟩ := hw36
            have hF38 : gw_fg (gw_out [100, 101, 102, 103, 104, 105, 106, 107]) M M35 := gw_fg.tr hF32 (gw_fg.wk hfr37 (by decide))
            clear hfr37
            refine lv_if_ne (tgt := 90) hx hb d_Mo_make_72 (by decide) (fun c72 => ?_) (fun c72 => ?_)
            · refine lv_iconst (v := -1) hx hb d_Mo_make_90 (by decide) ?_
              exact gw_iret hx hb hr hlocks hS hW (Nat.le_of_ble_eq_true rfl) (Nat.le_of_ble_eq_true rfl) d_Mo_make_91 ⟨hX, hF38⟩
            · refine lv_aload_n hx hb d_Mo_make_75 rfl (lv_at hl 1 rfl) ?_
              obtain ⟨cdo39, mko39, f1o39, f2o39, f3o39, f4o39, f5o39, f6o39, f7o39, hf_0, hf_1, hf_2, hf_3, hf_4, hf_5, hf_6, hf_7, hk2o39, hk3o39, hk4o39, -, -⟩ := id hX
              refine gw_get (ci := 5) (fs := [.int cdo39, .int (nI lm), .int sm, .int E, .ref (B 1), .ref (B 2), .int (nI sz), .ref (B 3), .ref (B 4), .ref (B 5), .ref (B 6), .int (nI jb), .int mko39, .ref (B 7), .int (nI dr)]) hx hb hts in_Mo hown hE.K hW hf_0 rfl 12 (by decide) (hts _ mw282) (fun _ h9 => h9) rfl d_Mo_make_76 ?_
              refine lv_if_eq (tgt := 92) hx hb d_Mo_make_79 (by decide) (fun c79 => ?_) (fun c79 => ?_)
              · refine lv_aload_n hx hb d_Mo_make_92 rfl (lv_at hl 1 rfl) ?_
                refine lv_iload_n hx hb d_Mo_make_93 rfl (lv_at hl 0 rfl) ?_
                refine lv_iconst (v := 2) hx hb d_Mo_make_94 (by decide) ?_
                refine lv_iload_n hx hb d_Mo_make_95 rfl (lv_at hl 2 rfl) ?_
                refine lv_iconst (v := 0) hx hb d_Mo_make_96 (by decide) ?_
                refine gw_callv hS (va_runV (As := [.int r27, .int 2, .int (nI q), .int 0]) (rest := []) ⟨hx, hb, hml, hown, hts⟩ (m_be l G M35 B lm sm E jb sz dr hX r27 2 (nI q) 0  hp_31) (cwV 4 hts (gw_gv mw234 mw235 mw236 mw228 mw233) rfl rfl rfl (by decide +kernel) ⟨Nat.le_of_ble_eq_true rfl, Nat.le_of_ble_eq_true rfl⟩) (gw_pv hE hB hS hW rfl hf_0) rfl rfl hl.1 rfl (lv_room (Nat.le_of_ble_eq_true rfl)) d_Mo_make_97 ⟨Nat.le_of_ble_eq_true rfl, Nat.le_of_ble_eq_true rfl⟩) (fun M41 H locs hw42 hW hS => ?_)
                obtain ⟨hX, hfr43⟩ := hw42
                have hF44 : gw_fg (gw_out [100, 101, 102, 103, 104, 105, 106, 107]) M M41 := gw_fg.tr hF38 (gw_fg.wk hfr43 (by decide))
                clear hfr43
                refine lv_aload_n hx hb d_Mo_make_100 rfl (lv_at hl 1 rfl) ?_
                obtain ⟨cdo45, mko45, f1o45, f2o45, f3o45, f4o45, f5o45, f6o45, f7o45, hf_0, hf_1, hf_2, hf_3, hf_4, hf_5, hf_6, hf_7, hk2o45, hk3o45, hk4o45, -, -⟩ := id hX
                refine gw_get (ci := 5) (fs := [.int cdo45, .int (nI lm), .int sm, .int E, .ref (B 1), .ref (B 2), .int (nI sz), .ref (B 3), .ref (B 4), .ref (B 5), .ref (B 6), .int (nI jb), .int mko45, .ref (B 7), .int (nI dr)]) hx hb hts in_Mo hown hE.K hW hf_0 rfl 10 (by decide) (hts _ mw273) (fun _ h9 => h9) rfl d_Mo_make_101 ?_
                refine lv_bipush (v := 100) hx hb d_Mo_make_104 (by decide) ?_
                refine lv_iload_n hx hb d_Mo_make_106 rfl (lv_at hl 2 rfl) ?_
                refine lv_imul hx hb d_Mo_make_107 ?_
                refine lv_iload_n hx hb d_Mo_make_108 rfl (lv_at hl 3 rfl) ?_
                refine lv_iadd hx hb d_Mo_make_109 ?_
                refine lv_iconst (v := 1) hx hb d_Mo_make_110 (by decide) ?_
                refine lv_isub hx hb d_Mo_make_111 ?_
                refine lv_iconst (v := 1) hx hb d_Mo_make_112 (by decide) ?_
                refine gw_iast (i := ((100 * (nI q)) + (nI w)) - 1) (x := 1) hx hb hE.K hW hS 0 hf_6 rfl (gm_mi (by omega) (by omega) (by omega)) d_Mo_make_113 (fun H locs hW hS => ?_)
                have hXn : gm_X G B lm sm E jb sz dr (gw_up M41 (B 6) 106 (.inl (G.2.1 0, 4100, .inl (upd f6o45 (((100 * (nI q)) + (nI w)) - 1 : Int32).toNatClampNeg 1)))) := hX.up106 hf_6
                have hF46 : gw_fg (gw_out [100, 101, 102, 103, 104, 105, 106, 107]) M (gw_up M41 (B 6) 106 (.inl (G.2.1 0, 4100, .inl (upd f6o45 (((100 * (nI q)) + (nI w)) - 1 : Int32).toNatClampNeg 1)))) := gw_fg.up hF44 hf_6 (show ¬ ((gw_out [100, 101, 102, 103, 104, 105, 106, 107]) 106) by decide) (show ¬ ((gw_out [100, 101, 102, 103, 104, 105, 106, 107]) 106) by decide)
                obtain ⟨M47, eM47⟩ : ∃ z, z = gw_up M41 (B 6) 106 (.inl (G.2.1 0, 4100, .inl (upd f6o45 (((100 * (nI q)) + (nI w)) - 1 : Int32).toNatClampNeg 1))) := ⟨_, rfl⟩
                replace hW : gw_P G.1 vwCl G.2.2.2 M47 H := by rw [eM47]; exact hW
                have hf_0 : M47 (B 0) = some (100, .inr (5, [.int cdo45, .int (nI lm), .int sm, .int E, .ref (B 1), .ref (B 2), .int (nI sz), .ref (B 3), .ref (B 4), .ref (B 5), .ref (B 6), .int (nI jb), .int mko45, .ref (B 7), .int (nI dr)])) := by rw [eM47]; exact gw_keep hf_0 hf_6 (by decide)
                have hf_1 : M47 (B 1) = some (101, .inl (G.2.1 0, 10000, .inl f1o45)) := by rw [eM47]; exact gw_keep hf_1 hf_6 (by decide)
                have hf_2 : M47 (B 2) = some (102, .inl (G.2.1 0, 300, .inl f2o45)) := by rw [eM47]; exact gw_keep hf_2 hf_6 (by decide)
                have hf_3 : M47 (B 3) = some (103, .inl (G.2.1 0, 10240, .inl f3o45)) := by rw [eM47]; exact gw_keep hf_3 hf_6 (by decide)
                have hf_4 : M47 (B 4) = some (104, .inl (G.2.1 0, 41, .inl f4o45)) := by rw [eM47]; exact gw_keep hf_4 hf_6 (by decide)
                have hf_5 : M47 (B 5) = some (105, .inl (G.2.1 0, 41, .inl f5o45)) := by rw [eM47]; exact gw_keep hf_5 hf_6 (by decide)
                have hf_7 : M47 (B 7) = some (107, .inl (G.2.1 0, 2048, .inl f7o45)) := by rw [eM47]; exact gw_keep hf_7 hf_6 (by decide)
                have hf_6 : M47 (B 6) = some (106, .inl (G.2.1 0, 4100, .inl (upd f6o45 (((100 * (nI q)) + (nI w)) - 1 : Int32).toNatClampNeg 1))) := by rw [eM47]; exact gw_up_self _ _ _ _
                rw [← eM47] at hF46
                rw [← eM47] at hXn
                replace hX := hXn
                clear hXn
                refine lv_aload_n hx hb d_Mo_make_114 rfl (lv_at hl 1 rfl) ?_
                refine lv_iload_n hx hb d_Mo_make_115 rfl (lv_at hl 2 rfl) ?_
                refine gw_put (ci := 5) (fs := [.int cdo45, .int (nI lm), .int sm, .int E, .ref (B 1), .ref (B 2), .int (nI sz), .ref (B 3), .ref (B 4), .ref (B 5), .ref (B 6), .int (nI jb), .int mko45, .ref (B 7), .int (nI dr)]) (v := .int (nI q)) (ty := .int) hx hb hts in_Mo t_Mo t_Mo_ok n_Mo hown hE.K hW hS hf_0 rfl 12 (by decide) (hts _ mw282) (fun _ h9 => h9) rfl (by decide +kernel) rfl rfl (Nat.le_of_ble_eq_true rfl) d_Mo_make_116 (fun H locs hW hS => ?_)
                have hXn : gm_X G B lm sm E jb sz dr (gw_up M47 (B 0) 100 (.inr (5, [.int cdo45, .int (nI lm), .int sm, .int E, .ref (B 1), .ref (B 2), .int (nI sz), .ref (B 3), .ref (B 4), .ref (B 5), .ref (B 6), .int (nI jb), .int (nI q), .ref (B 7), .int (nI dr)]))) := hX.up100 hf_0 (by omega)
                have hF48 : gw_fg (gw_out [100, 101, 102, 103, 104, 105, 106, 107]) M (gw_up M47 (B 0) 100 (.inr (5, [.int cdo45, .int (nI lm), .int sm, .int E, .ref (B 1), .ref (B 2), .int (nI sz), .ref (B 3), .ref (B 4), .ref (B 5), .ref (B 6), .int (nI jb), .int (nI q), .ref (B 7), .int (nI dr)]))) := gw_fg.up hF46 hf_0 (show ¬ ((gw_out [100, 101, 102, 103, 104, 105, 106, 107]) 100) by decide) (show ¬ ((gw_out [100, 101, 102, 103, 104, 105, 106, 107]) 100) by decide)
                obtain ⟨M49, eM49⟩ : ∃ z, z = gw_up M47 (B 0) 100 (.inr (5, [.int cdo45, .int (nI lm), .int sm, .int E, .ref (B 1), .ref (B 2), .int (nI sz), .ref (B 3), .ref (B 4), .ref (B 5), .ref (B 6), .int (nI jb), .int (nI q), .ref (B 7), .int (nI dr)])) := ⟨_, rfl⟩
                replace hW : gw_P G.1 vwCl G.2.2.2 M49 H := by rw [eM49]; exact hW
                have hf_1 : M49 (B 1) = some (101, .inl (G.2.1 0, 10000, .inl f1o45)) := by rw [eM49]; exact gw_keep hf_1 hf_0 (by decide)
                have hf_2 : M49 (B 2) = some (102, .inl (G.2.1 0, 300, .inl f2o45)) := by rw [eM49]; exact gw_keep hf_2 hf_0 (by decide)
                have hf_3 : M49 (B 3) = some (103, .inl (G.2.1 0, 10240, .inl f3o45)) := by rw [eM49]; exact gw_keep hf_3 hf_0 (by decide)
                have hf_4 : M49 (B 4) = some (104, .inl (G.2.1 0, 41, .inl f4o45)) := by rw [eM49]; exact gw_keep hf_4 hf_0 (by decide)
                have hf_5 : M49 (B 5) = some (105, .inl (G.2.1 0, 41, .inl f5o45)) := by rw [eM49]; exact gw_keep hf_5 hf_0 (by decide)
                have hf_7 : M49 (B 7) = some (107, .inl (G.2.1 0, 2048, .inl f7o45)) := by rw [eM49]; exact gw_keep hf_7 hf_0 (by decide)
                have hf_6 : M49 (B 6) = some (106, .inl (G.2.1 0, 4100, .inl (upd f6o45 (((100 * (nI q)) + (nI w)) - 1 : Int32).toNatClampNeg 1))) := by rw [eM49]; exact gw_keep hf_6 hf_0 (by decide)
                have hf_0 : M49 (B 0) = some (100, .inr (5, [.int cdo45, .int (nI lm), .int sm, .int E, .ref (B 1), .ref (B 2), .int (nI sz), .ref (B 3), .ref (B 4), .ref (B 5), .ref (B 6), .int (nI jb), .int (nI q), .ref (B 7), .int (nI dr)])) := by rw [eM49]; exact gw_up_self _ _ _ _
                rw [← eM49] at hF48
                rw [← eM49] at hXn
                replace hX := hXn
                clear hXn
                refine lv_iload_n hx hb d_Mo_make_119 rfl (lv_at hl 0 rfl) ?_
                exact gw_iret hx hb hr hlocks hS hW (Nat.le_of_ble_eq_true rfl) (Nat.le_of_ble_eq_true rfl) d_Mo_make_120 ⟨hX, hF48⟩
              · refine lv_aload_n hx hb d_Mo_make_82 rfl (lv_at hl 1 rfl) ?_
                refine gw_get (ci := 5) (fs := [.int cdo39, .int (nI lm), .int sm, .int E, .ref (B 1), .ref (B 2), .int (nI sz), .ref (B 3), .ref (B 4), .ref (B 5), .ref (B 6), .int (nI jb), .int mko39, .ref (B 7), .int (nI dr)]) hx hb hts in_Mo hown hE.K hW hf_0 rfl 12 (by decide) (hts _ mw282) (fun _ h9 => h9) rfl d_Mo_make_83 ?_
                refine lv_iload_n hx hb d_Mo_make_86 rfl (lv_at hl 2 rfl) ?_
                refine lv_icmp_eq (tgt := 92) hx hb d_Mo_make_87 (by decide) (fun c87 => ?_) (fun c87 => ?_)
                · refine lv_aload_n hx hb d_Mo_make_92 rfl (lv_at hl 1 rfl) ?_
                  refine lv_iload_n hx hb d_Mo_make_93 rfl (lv_at hl 0 rfl) ?_
                  refine lv_iconst (v := 2) hx hb d_Mo_make_94 (by decide) ?_
                  refine lv_iload_n hx hb d_Mo_make_95 rfl (lv_at hl 2 rfl) ?_
                  refine lv_iconst (v := 0) hx hb d_Mo_make_96 (by decide) ?_
                  refine gw_callv hS (va_runV (As := [.int r27, .int 2, .int (nI q), .int 0]) (rest := []) ⟨hx, hb, hml, hown, hts⟩ (m_be l G M35 B lm sm E jb sz dr hX r27 2 (nI q) 0  hp_31) (cwV 4 hts (gw_gv mw234 mw235 mw236 mw228 mw233) rfl rfl rfl (by decide +kernel) ⟨Nat.le_of_ble_eq_true rfl, Nat.le_of_ble_eq_true rfl⟩) (gw_pv hE hB hS hW rfl hf_0) rfl rfl hl.1 rfl (lv_room (Nat.le_of_ble_eq_true rfl)) d_Mo_make_97 ⟨Nat.le_of_ble_eq_true rfl, Nat.le_of_ble_eq_true rfl⟩) (fun M51 H locs hw52 hW hS => ?_)
                  obtain ⟨hX, hfr53⟩ := hw52
                  have hF54 : gw_fg (gw_out [100, 101, 102, 103, 104, 105, 106, 107]) M M51 := gw_fg.tr hF38 (gw_fg.wk hfr53 (by decide))
                  clear hfr53
                  refine lv_aload_n hx hb d_Mo_make_100 rfl (lv_at hl 1 rfl) ?_
                  obtain ⟨cdo55, mko55, f1o55, f2o55, f3o55, f4o55, f5o55, f6o55, f7o55, hf_0, hf_1, hf_2, hf_3, hf_4, hf_5, hf_6, hf_7, hk2o55, hk3o55, hk4o55, -, -⟩ := id hX
                  refine gw_get (ci := 5) (fs := [.int cdo55, .int (nI lm), .int sm, .int E, .ref (B 1), .ref (B 2), .int (nI sz), .ref (B 3), .ref (B 4), .ref (B 5), .ref (B 6), .int (nI jb), .int mko55, .ref (B 7), .int (nI dr)]) hx hb hts in_Mo hown hE.K hW hf_0 rfl 10 (by decide) (hts _ mw273) (fun _ h9 => h9) rfl d_Mo_make_101 ?_
                  refine lv_bipush (v := 100) hx hb d_Mo_make_104 (by decide) ?_
                  refine lv_iload_n hx hb d_Mo_make_106 rfl (lv_at hl 2 rfl) ?_
                  refine lv_imul hx hb d_Mo_make_107 ?_
                  refine lv_iload_n hx hb d_Mo_make_108 rfl (lv_at hl 3 rfl) ?_
                  refine lv_iadd hx hb d_Mo_make_109 ?_
                  refine lv_iconst (v := 1) hx hb d_Mo_make_110 (by decide) ?_
                  refine lv_isub hx hb d_Mo_make_111 ?_
                  refine lv_iconst (v := 1) hx hb d_Mo_make_112 (by decide) ?_
                  refine gw_iast (i := ((100 * (nI q)) + (nI w)) - 1) (x := 1) hx hb hE.K hW hS 0 hf_6 rfl (gm_mi (by omega) (by omega) (by omega)) d_Mo_make_113 (fun H locs hW hS => ?_)
                  have hXn : gm_X G B lm sm E jb sz dr (gw_up M51 (B 6) 106 (.inl (G.2.1 0, 4100, .inl (upd f6o55 (((100 * (nI q)) + (nI w)) - 1 : Int32).toNatClampNeg 1)))) := hX.up106 hf_6
                  have hF56 : gw_fg (gw_out [100, 101, 102, 103, 104, 105, 106, 107]) M (gw_up M51 (B 6) 106 (.inl (G.2.1 0, 4100, .inl (upd f6o55 (((100 * (nI q)) + (nI w)) - 1 : Int32).toNatClampNeg 1)))) := gw_fg.up hF54 hf_6 (show ¬ ((gw_out [100, 101, 102, 103, 104, 105, 106, 107]) 106) by decide) (show ¬ ((gw_out [100, 101, 102, 103, 104, 105, 106, 107]) 106) by decide)
                  obtain ⟨M57, eM57⟩ : ∃ z, z = gw_up M51 (B 6) 106 (.inl (G.2.1 0, 4100, .inl (upd f6o55 (((100 * (nI q)) + (nI w)) - 1 : Int32).toNatClampNeg 1))) := ⟨_, rfl⟩
                  replace hW : gw_P G.1 vwCl G.2.2.2 M57 H := by rw [eM57]; exact hW
                  have hf_0 : M57 (B 0) = some (100, .inr (5, [.int cdo55, .int (nI lm), .int sm, .int E, .ref (B 1), .ref (B 2), .int (nI sz), .ref (B 3), .ref (B 4), .ref (B 5), .ref (B 6), .int (nI jb), .int mko55, .ref (B 7), .int (nI dr)])) := by rw [eM57]; exact gw_keep hf_0 hf_6 (by decide)
                  have hf_1 : M57 (B 1) = some (101, .inl (G.2.1 0, 10000, .inl f1o55)) := by rw [eM57]; exact gw_keep hf_1 hf_6 (by decide)
                  have hf_2 : M57 (B 2) = some (102, .inl (G.2.1 0, 300, .inl f2o55)) := by rw [eM57]; exact gw_keep hf_2 hf_6 (by decide)
                  have hf_3 : M57 (B 3) = some (103, .inl (G.2.1 0, 10240, .inl f3o55)) := by rw [eM57]; exact gw_keep hf_3 hf_6 (by decide)
                  have hf_4 : M57 (B 4) = some (104, .inl (G.2.1 0, 41, .inl f4o55)) := by rw [eM57]; exact gw_keep hf_4 hf_6 (by decide)
                  have hf_5 : M57 (B 5) = some (105, .inl (G.2.1 0, 41, .inl f5o55)) := by rw [eM57]; exact gw_keep hf_5 hf_6 (by decide)
                  have hf_7 : M57 (B 7) = some (107, .inl (G.2.1 0, 2048, .inl f7o55)) := by rw [eM57]; exact gw_keep hf_7 hf_6 (by decide)
                  have hf_6 : M57 (B 6) = some (106, .inl (G.2.1 0, 4100, .inl (upd f6o55 (((100 * (nI q)) + (nI w)) - 1 : Int32).toNatClampNeg 1))) := by rw [eM57]; exact gw_up_self _ _ _ _
                  rw [← eM57] at hF56
                  rw [← eM57] at hXn
                  replace hX := hXn
                  clear hXn
                  refine lv_aload_n hx hb d_Mo_make_114 rfl (lv_at hl 1 rfl) ?_
                  refine lv_iload_n hx hb d_Mo_make_115 rfl (lv_at hl 2 rfl) ?_
                  refine gw_put (ci := 5) (fs := [.int cdo55, .int (nI lm), .int sm, .int E, .ref (B 1), .ref (B 2), .int (nI sz), .ref (B 3), .ref (B 4), .ref (B 5), .ref (B 6), .int (nI jb), .int mko55, .ref (B 7), .int (nI dr)]) (v := .int (nI q)) (ty := .int) hx hb hts in_Mo t_Mo t_Mo_ok n_Mo hown hE.K hW hS hf_0 rfl 12 (by decide) (hts _ mw282) (fun _ h9 => h9) rfl (by decide +kernel) rfl rfl (Nat.le_of_ble_eq_true rfl) d_Mo_make_116 (fun H locs hW hS => ?_)
                  have hXn : gm_X G B lm sm E jb sz dr (gw_up M57 (B 0) 100 (.inr (5, [.int cdo55, .int (nI lm), .int sm, .int E, .ref (B 1), .ref (B 2), .int (nI sz), .ref (B 3), .ref (B 4), .ref (B 5), .ref (B 6), .int (nI jb), .int (nI q), .ref (B 7), .int (nI dr)]))) := hX.up100 hf_0 (by omega)
                  have hF58 : gw_fg (gw_out [100, 101, 102, 103, 104, 105, 106, 107]) M (gw_up M57 (B 0) 100 (.inr (5, [.int cdo55, .int (nI lm), .int sm, .int E, .ref (B 1), .ref (B 2), .int (nI sz), .ref (B 3), .ref (B 4), .ref (B 5), .ref (B 6), .int (nI jb), .int (nI q), .ref (B 7), .int (nI dr)]))) := gw_fg.up hF56 hf_0 (show ¬ ((gw_out [100, 101, 102, 103, 104, 105, 106, 107]) 100) by decide) (show ¬ ((gw_out [100, 101, 102, 103, 104, 105, 106, 107]) 100) by decide)
                  obtain ⟨M59, eM59⟩ : ∃ z, z = gw_up M57 (B 0) 100 (.inr (5, [.int cdo55, .int (nI lm), .int sm, .int E, .ref (B 1), .ref (B 2), .int (nI sz), .ref (B 3), .ref (B 4), .ref (B 5), .ref (B 6), .int (nI jb), .int (nI q), .ref (B 7), .int (nI dr)])) := ⟨_, rfl⟩
                  replace hW : gw_P G.1 vwCl G.2.2.2 M59 H := by rw [eM59]; exact hW
                  have hf_1 : M59 (B 1) = some (101, .inl (G.2.1 0, 10000, .inl f1o55)) := by rw [eM59]; exact gw_keep hf_1 hf_0 (by decide)
                  have hf_2 : M59 (B 2) = some (102, .inl (G.2.1 0, 300, .inl f2o55)) := by rw [eM59]; exact gw_keep hf_2 hf_0 (by decide)
                  have hf_3 : M59 (B 3) = some (103, .inl (G.2.1 0, 10240, .inl f3o55)) := by rw [eM59]; exact gw_keep hf_3 hf_0 (by decide)
                  have hf_4 : M59 (B 4) = some (104, .inl (G.2.1 0, 41, .inl f4o55)) := by rw [eM59]; exact gw_keep hf_4 hf_0 (by decide)
                  have hf_5 : M59 (B 5) = some (105, .inl (G.2.1 0, 41, .inl f5o55)) := by rw [eM59]; exact gw_keep hf_5 hf_0 (by decide)
                  have hf_7 : M59 (B 7) = some (107, .inl (G.2.1 0, 2048, .inl f7o55)) := by rw [eM59]; exact gw_keep hf_7 hf_0 (by decide)
                  have hf_6 : M59 (B 6) = some (106, .inl (G.2.1 0, 4100, .inl (upd f6o55 (((100 * (nI q)) + (nI w)) - 1 : Int32).toNatClampNeg 1))) := by rw [eM59]; exact gw_keep hf_6 hf_0 (by decide)
                  have hf_0 : M59 (B 0) = some (100, .inr (5, [.int cdo55, .int (nI lm), .int sm, .int E, .ref (B 1), .ref (B 2), .int (nI sz), .ref (B 3), .ref (B 4), .ref (B 5), .ref (B 6), .int (nI jb), .int (nI q), .ref (B 7), .int (nI dr)])) := by rw [eM59]; exact gw_up_self _ _ _ _
                  rw [← eM59] at hF58
                  rw [← eM59] at hXn
                  replace hX := hXn
                  clear hXn
                  refine lv_iload_n hx hb d_Mo_make_119 rfl (lv_at hl 0 rfl) ?_
                  exact gw_iret hx hb hr hlocks hS hW (Nat.le_of_ble_eq_true rfl) (Nat.le_of_ble_eq_true rfl) d_Mo_make_120 ⟨hX, hF58⟩
                · refine lv_iconst (v := -1) hx hb d_Mo_make_90 (by decide) ?_
                  exact gw_iret hx hb hr hlocks hS hW (Nat.le_of_ble_eq_true rfl) (Nat.le_of_ble_eq_true rfl) d_Mo_make_91 ⟨hX, hF38⟩
          · refine lv_aload_n hx hb d_Mo_make_56 rfl (lv_at hl 1 rfl) ?_
            refine lv_iload_n hx hb d_Mo_make_57 rfl (lv_at hl 2 rfl) ?_
            refine lv_iload_n hx hb d_Mo_make_58 rfl (lv_at hl 0 rfl) ?_
            refine gw_calli hS (va_runV (As := [.int (nI q), .int r27]) (rest := []) ⟨hx, hb, hml, hown, hts⟩ (m_isOwn l G M28 B lm sm E jb sz dr hX (nI q) r27  hp_31) (cwV 2 hts (gw_gv mw279 mw280 mw281 mw228 mw278) rfl rfl rfl (by decide +kernel) ⟨Nat.le_of_ble_eq_true rfl, Nat.le_of_ble_eq_true rfl⟩) (gw_pv hE hB hS hW rfl hf_0) rfl rfl hl.1 rfl (lv_room (Nat.le_of_ble_eq_true rfl)) d_Mo_make_59 ⟨Nat.le_of_ble_eq_true rfl, Nat.le_of_ble_eq_true rfl⟩) (fun r60 M61 H locs hw62 hW hS => ?_)
            obtain ⟨hX, hfr63⟩ := hw62
            have hF64 : gw_fg (gw_out [100, 101, 102, 103, 104, 105, 106, 107]) M M61 := gw_fg.tr hF32 (gw_fg.wk hfr63 (by decide))
            clear hfr63
            refine lv_if_eq (tgt := 67) hx hb d_Mo_make_62 (by decide) (fun c62 => ?_) (fun c62 => ?_)
            · refine lv_aload_n hx hb d_Mo_make_67 rfl (lv_at hl 1 rfl) ?_
              refine lv_iload_n hx hb d_Mo_make_68 rfl (lv_at hl 0 rfl) ?_
              obtain ⟨cdo65, mko65, f1o65, f2o65, f3o65, f4o65, f5o65, f6o65, f7o65, hf_0, hf_1, hf_2, hf_3, hf_4, hf_5, hf_6, hf_7, hk2o65, hk3o65, hk4o65, -, -⟩ := id hX
              refine gw_calli hS (va_runV (As := [.int r27]) (rest := []) ⟨hx, hb, hml, hown, hts⟩ (m_what l G M61 B lm sm E jb sz dr hX r27  hp_31) (cwV 1 hts (gw_gv mw255 mw256 mw257 mw228 mw254) rfl rfl rfl (by decide +kernel) ⟨Nat.le_of_ble_eq_true rfl, Nat.le_of_ble_eq_true rfl⟩) (gw_pv hE hB hS hW rfl hf_0) rfl rfl hl.1 rfl (lv_room (Nat.le_of_ble_eq_true rfl)) d_Mo_make_69 ⟨Nat.le_of_ble_eq_true rfl, Nat.le_of_ble_eq_true rfl⟩) (fun r66 M67 H locs hw68 hW hS => ?_)
              obtain ⟨hX, hfr69⟩ := hw68
              have hF70 : gw_fg (gw_out [100, 101, 102, 103, 104, 105, 106, 107]) M M67 := gw_fg.tr hF64 (gw_fg.wk hfr69 (by decide))
              clear hfr69
              refine lv_if_ne (tgt := 90) hx hb d_Mo_make_72 (by decide) (fun c72 => ?_) (fun c72 => ?_)
              · refine lv_iconst (v := -1) hx hb d_Mo_make_90 (by decide) ?_
                exact gw_iret hx hb hr hlocks hS hW (Nat.le_of_ble_eq_true rfl) (Nat.le_of_ble_eq_true rfl) d_Mo_make_91 ⟨hX, hF70⟩
              · refine lv_aload_n hx hb d_Mo_make_75 rfl (lv_at hl 1 rfl) ?_
                obtain ⟨cdo71, mko71, f1o71, f2o71, f3o71, f4o71, f5o71, f6o71, f7o71, hf_0, hf_1, hf_2, hf_3, hf_4, hf_5, hf_6, hf_7, hk2o71, hk3o71, hk4o71, -, -⟩ := id hX
                refine gw_get (ci := 5) (fs := [.int cdo71, .int (nI lm), .int sm, .int E, .ref (B 1), .ref (B 2), .int (nI sz), .ref (B 3), .ref (B 4), .ref (B 5), .ref (B 6), .int (nI jb), .int mko71, .ref (B 7), .int (nI dr)]) hx hb hts in_Mo hown hE.K hW hf_0 rfl 12 (by decide) (hts _ mw282) (fun _ h9 => h9) rfl d_Mo_make_76 ?_
                refine lv_if_eq (tgt := 92) hx hb d_Mo_make_79 (by decide) (fun c79 => ?_) (fun c79 => ?_)
                · refine lv_aload_n hx hb d_Mo_make_92 rfl (lv_at hl 1 rfl) ?_
                  refine lv_iload_n hx hb d_Mo_make_93 rfl (lv_at hl 0 rfl) ?_
                  refine lv_iconst (v := 2) hx hb d_Mo_make_94 (by decide) ?_
                  refine lv_iload_n hx hb d_Mo_make_95 rfl (lv_at hl 2 rfl) ?_
                  refine lv_iconst (v := 0) hx hb d_Mo_make_96 (by decide) ?_
                  refine gw_callv hS (va_runV (As := [.int r27, .int 2, .int (nI q), .int 0]) (rest := []) ⟨hx, hb, hml, hown, hts⟩ (m_be l G M67 B lm sm E jb sz dr hX r27 2 (nI q) 0  hp_31) (cwV 4 hts (gw_gv mw234 mw235 mw236 mw228 mw233) rfl rfl rfl (by decide +kernel) ⟨Nat.le_of_ble_eq_true rfl, Nat.le_of_ble_eq_true rfl⟩) (gw_pv hE hB hS hW rfl hf_0) rfl rfl hl.1 rfl (lv_room (Nat.le_of_ble_eq_true rfl)) d_Mo_make_97 ⟨Nat.le_of_ble_eq_true rfl, Nat.le_of_ble_eq_true rfl⟩) (fun M73 H locs hw74 hW hS => ?_)
                  obtain ⟨hX, hfr75⟩ := hw74
                  have hF76 : gw_fg (gw_out [100, 101, 102, 103, 104, 105, 106, 107]) M M73 := gw_fg.tr hF70 (gw_fg.wk hfr75 (by decide))
                  clear hfr75
                  refine lv_aload_n hx hb d_Mo_make_100 rfl (lv_at hl 1 rfl) ?_
                  obtain ⟨cdo77, mko77, f1o77, f2o77, f3o77, f4o77, f5o77, f6o77, f7o77, hf_0, hf_1, hf_2, hf_3, hf_4, hf_5, hf_6, hf_7, hk2o77, hk3o77, hk4o77, -, -⟩ := id hX
                  refine gw_get (ci := 5) (fs := [.int cdo77, .int (nI lm), .int sm, .int E, .ref (B 1), .ref (B 2), .int (nI sz), .ref (B 3), .ref (B 4), .ref (B 5), .ref (B 6), .int (nI jb), .int mko77, .ref (B 7), .int (nI dr)]) hx hb hts in_Mo hown hE.K hW hf_0 rfl 10 (by decide) (hts _ mw273) (fun _ h9 => h9) rfl d_Mo_make_101 ?_
                  refine lv_bipush (v := 100) hx hb d_Mo_make_104 (by decide) ?_
                  refine lv_iload_n hx hb d_Mo_make_106 rfl (lv_at hl 2 rfl) ?_
                  refine lv_imul hx hb d_Mo_make_107 ?_
                  refine lv_iload_n hx hb d_Mo_make_108 rfl (lv_at hl 3 rfl) ?_
                  refine lv_iadd hx hb d_Mo_make_109 ?_
                  refine lv_iconst (v := 1) hx hb d_Mo_make_110 (by decide) ?_
                  refine lv_isub hx hb d_Mo_make_111 ?_
                  refine lv_iconst (v := 1) hx hb d_Mo_make_112 (by decide) ?_
                  refine gw_iast (i := ((100 * (nI q)) + (nI w)) - 1) (x := 1) hx hb hE.K hW hS 0 hf_6 rfl (gm_mi (by omega) (by omega) (by omega)) d_Mo_make_113 (fun H locs hW hS => ?_)
                  have hXn : gm_X G B lm sm E jb sz dr (gw_up M73 (B 6) 106 (.inl (G.2.1 0, 4100, .inl (upd f6o77 (((100 * (nI q)) + (nI w)) - 1 : Int32).toNatClampNeg 1)))) := hX.up106 hf_6
                  have hF78 : gw_fg (gw_out [100, 101, 102, 103, 104, 105, 106, 107]) M (gw_up M73 (B 6) 106 (.inl (G.2.1 0, 4100, .inl (upd f6o77 (((100 * (nI q)) + (nI w)) - 1 : Int32).toNatClampNeg 1)))) := gw_fg.up hF76 hf_6 (show ¬ ((gw_out [100, 101, 102, 103, 104, 105, 106, 107]) 106) by decide) (show ¬ ((gw_out [100, 101, 102, 103, 104, 105, 106, 107]) 106) by decide)
                  obtain ⟨M79, eM79⟩ : ∃ z, z = gw_up M73 (B 6) 106 (.inl (G.2.1 0, 4100, .inl (upd f6o77 (((100 * (nI q)) + (nI w)) - 1 : Int32).toNatClampNeg 1))) := ⟨_, rfl⟩
                  replace hW : gw_P G.1 vwCl G.2.2.2 M79 H := by rw [eM79]; exact hW
                  have hf_0 : M79 (B 0) = some (100, .inr (5, [.int cdo77, .int (nI lm), .int sm, .int E, .ref (B 1), .ref (B 2), .int (nI sz), .ref (B 3), .ref (B 4), .ref (B 5), .ref (B 6), .int (nI jb), .int mko77, .ref (B 7), .int (nI dr)])) := by rw [eM79]; exact gw_keep hf_0 hf_6 (by decide)
                  have hf_1 : M79 (B 1) = some (101, .inl (G.2.1 0, 10000, .inl f1o77)) := by rw [eM79]; exact gw_keep hf_1 hf_6 (by decide)
                  have hf_2 : M79 (B 2) = some (102, .inl (G.2.1 0, 300, .inl f2o77)) := by rw [eM79]; exact gw_keep hf_2 hf_6 (by decide)
                  have hf_3 : M79 (B 3) = some (103, .inl (G.2.1 0, 10240, .inl f3o77)) := by rw [eM79]; exact gw_keep hf_3 hf_6 (by decide)
                  have hf_4 : M79 (B 4) = some (104, .inl (G.2.1 0, 41, .inl f4o77)) := by rw [eM79]; exact gw_keep hf_4 hf_6 (by decide)
                  have hf_5 : M79 (B 5) = some (105, .inl (G.2.1 0, 41, .inl f5o77)) := by rw [eM79]; exact gw_keep hf_5 hf_6 (by decide)
                  have hf_7 : M79 (B 7) = some (107, .inl (G.2.1 0, 2048, .inl f7o77)) := by rw [eM79]; exact gw_keep hf_7 hf_6 (by decide)
                  have hf_6 : M79 (B 6) = some (106, .inl (G.2.1 0, 4100, .inl (upd f6o77 (((100 * (nI q)) + (nI w)) - 1 : Int32).toNatClampNeg 1))) := by rw [eM79]; exact gw_up_self _ _ _ _
                  rw [← eM79] at hF78
                  rw [← eM79] at hXn
                  replace hX := hXn
                  clear hXn
                  refine lv_aload_n hx hb d_Mo_make_114 rfl (lv_at hl 1 rfl) ?_
                  refine lv_iload_n hx hb d_Mo_make_115 rfl (lv_at hl 2 rfl) ?_
                  refine gw_put (ci := 5) (fs := [.int cdo77, .int (nI lm), .int sm, .int E, .ref (B 1), .ref (B 2), .int (nI sz), .ref (B 3), .ref (B 4), .ref (B 5), .ref (B 6), .int (nI jb), .int mko77, .ref (B 7), .int (nI dr)]) (v := .int (nI q)) (ty := .int) hx hb hts in_Mo t_Mo t_Mo_ok n_Mo hown hE.K hW hS hf_0 rfl 12 (by decide) (hts _ mw282) (fun _ h9 => h9) rfl (by decide +kernel) rfl rfl (Nat.le_of_ble_eq_true rfl) d_Mo_make_116 (fun H locs hW hS => ?_)
                  have hXn : gm_X G B lm sm E jb sz dr (gw_up M79 (B 0) 100 (.inr (5, [.int cdo77, .int (nI lm), .int sm, .int E, .ref (B 1), .ref (B 2), .int (nI sz), .ref (B 3), .ref (B 4), .ref (B 5), .ref (B 6), .int (nI jb), .int (nI q), .ref (B 7), .int (nI dr)]))) := hX.up100 hf_0 (by omega)
                  have hF80 : gw_fg (gw_out [100, 101, 102, 103, 104, 105, 106, 107]) M (gw_up M79 (B 0) 100 (.inr (5, [.int cdo77, .int (nI lm), .int sm, .int E, .ref (B 1), .ref (B 2), .int (nI sz), .ref (B 3), .ref (B 4), .ref (B 5), .ref (B 6), .int (nI jb), .int (nI q), .ref (B 7), .int (nI dr)]))) := gw_fg.up hF78 hf_0 (show ¬ ((gw_out [100, 101, 102, 103, 104, 105, 106, 107]) 100) by decide) (show ¬ ((gw_out [100, 101, 102, 103, 104, 105, 106, 107]) 100) by decide)
                  obtain ⟨M81, eM81⟩ : ∃ z, z = gw_up M79 (B 0) 100 (.inr (5, [.int cdo77, .int (nI lm), .int sm, .int E, .ref (B 1), .ref (B 2), .int (nI sz), .ref (B 3), .ref (B 4), .ref (B 5), .ref (B 6), .int (nI jb), .int (nI q), .ref (B 7), .int (nI dr)])) := ⟨_, rfl⟩
                  replace hW : gw_P G.1 vwCl G.2.2.2 M81 H := by rw [eM81]; exact hW
                  have hf_1 : M81 (B 1) = some (101, .inl (G.2.1 0, 10000, .inl f1o77)) := by rw [eM81]; exact gw_keep hf_1 hf_0 (by decide)
                  have hf_2 : M81 (B 2) = some (102, .inl (G.2.1 0, 300, .inl f2o77)) := by rw [eM81]; exact gw_keep hf_2 hf_0 (by decide)
                  have hf_3 : M81 (B 3) = some (103, .inl (G.2.1 0, 10240, .inl f3o77)) := by rw [eM81]; exact gw_keep hf_3 hf_0 (by decide)
                  have hf_4 : M81 (B 4) = some (104, .inl (G.2.1 0, 41, .inl f4o77)) := by rw [eM81]; exact gw_keep hf_4 hf_0 (by decide)
                  have hf_5 : M81 (B 5) = some (105, .inl (G.2.1 0, 41, .inl f5o77)) := by rw [eM81]; exact gw_keep hf_5 hf_0 (by decide)
                  have hf_7 : M81 (B 7) = some (107, .inl (G.2.1 0, 2048, .inl f7o77)) := by rw [eM81]; exact gw_keep hf_7 hf_0 (by decide)
                  have hf_6 : M81 (B 6) = some (106, .inl (G.2.1 0, 4100, .inl (upd f6o77 (((100 * (nI q)) + (nI w)) - 1 : Int32).toNatClampNeg 1))) := by rw [eM81]; exact gw_keep hf_6 hf_0 (by decide)
                  have hf_0 : M81 (B 0) = some (100, .inr (5, [.int cdo77, .int (nI lm), .int sm, .int E, .ref (B 1), .ref (B 2), .int (nI sz), .ref (B 3), .ref (B 4), .ref (B 5), .ref (B 6), .int (nI jb), .int (nI q), .ref (B 7), .int (nI dr)])) := by rw [eM81]; exact gw_up_self _ _ _ _
                  rw [← eM81] at hF80
                  rw [← eM81] at hXn
                  replace hX := hXn
                  clear hXn
                  refine lv_iload_n hx hb d_Mo_make_119 rfl (lv_at hl 0 rfl) ?_
                  exact gw_iret hx hb hr hlocks hS hW (Nat.le_of_ble_eq_true rfl) (Nat.le_of_ble_eq_true rfl) d_Mo_make_120 ⟨hX, hF80⟩
                · refine lv_aload_n hx hb d_Mo_make_82 rfl (lv_at hl 1 rfl) ?_
                  refine gw_get (ci := 5) (fs := [.int cdo71, .int (nI lm), .int sm, .int E, .ref (B 1), .ref (B 2), .int (nI sz), .ref (B 3), .ref (B 4), .ref (B 5), .ref (B 6), .int (nI jb), .int mko71, .ref (B 7), .int (nI dr)]) hx hb hts in_Mo hown hE.K hW hf_0 rfl 12 (by decide) (hts _ mw282) (fun _ h9 => h9) rfl d_Mo_make_83 ?_
                  refine lv_iload_n hx hb d_Mo_make_86 rfl (lv_at hl 2 rfl) ?_
                  refine lv_icmp_eq (tgt := 92) hx hb d_Mo_make_87 (by decide) (fun c87 => ?_) (fun c87 => ?_)
                  · refine lv_aload_n hx hb d_Mo_make_92 rfl (lv_at hl 1 rfl) ?_
                    refine lv_iload_n hx hb d_Mo_make_93 rfl (lv_at hl 0 rfl) ?_
                    refine lv_iconst (v := 2) hx hb d_Mo_make_94 (by decide) ?_
                    refine lv_iload_n hx hb d_Mo_make_95 rfl (lv_at hl 2 rfl) ?_
                    refine lv_iconst (v := 0) hx hb d_Mo_make_96 (by decide) ?_
                    refine gw_callv hS (va_runV (As := [.int r27, .int 2, .int (nI q), .int 0]) (rest := []) ⟨hx, hb, hml, hown, hts⟩ (m_be l G M67 B lm sm E jb sz dr hX r27 2 (nI q) 0  hp_31) (cwV 4 hts (gw_gv mw234 mw235 mw236 mw228 mw233) rfl rfl rfl (by decide +kernel) ⟨Nat.le_of_ble_eq_true rfl, Nat.le_of_ble_eq_true rfl⟩) (gw_pv hE hB hS hW rfl hf_0) rfl rfl hl.1 rfl (lv_room (Nat.le_of_ble_eq_true rfl)) d_Mo_make_97 ⟨Nat.le_of_ble_eq_true rfl, Nat.le_of_ble_eq_true rfl⟩) (fun M83 H locs hw84 hW hS => ?_)
                    obtain ⟨hX, hfr85⟩ := hw84
                    have hF86 : gw_fg (gw_out [100, 101, 102, 103, 104, 105, 106, 107]) M M83 := gw_fg.tr hF70 (gw_fg.wk hfr85 (by decide))
                    clear hfr85
                    refine lv_aload_n hx hb d_Mo_make_100 rfl (lv_at hl 1 rfl) ?_
                    obtain ⟨cdo87, mko87, f1o87, f2o87, f3o87, f4o87, f5o87, f6o87, f7o87, hf_0, hf_1, hf_2, hf_3, hf_4, hf_5, hf_6, hf_7, hk2o87, hk3o87, hk4o87, -, -⟩ := id hX
                    refine gw_get (ci := 5) (fs := [.int cdo87, .int (nI lm), .int sm, .int E, .ref (B 1), .ref (B 2), .int (nI sz), .ref (B 3), .ref (B 4), .ref (B 5), .ref (B 6), .int (nI jb), .int mko87, .ref (B 7), .int (nI dr)]) hx hb hts in_Mo hown hE.K hW hf_0 rfl 10 (by decide) (hts _ mw273) (fun _ h9 => h9) rfl d_Mo_make_101 ?_
                    refine lv_bipush (v := 100) hx hb d_Mo_make_104 (by decide) ?_
                    refine lv_iload_n hx hb d_Mo_make_106 rfl (lv_at hl 2 rfl) ?_
                    refine lv_imul hx hb d_Mo_make_107 ?_
                    refine lv_iload_n hx hb d_Mo_make_108 rfl (lv_at hl 3 rfl) ?_
                    refine lv_iadd hx hb d_Mo_make_109 ?_
                    refine lv_iconst (v := 1) hx hb d_Mo_make_110 (by decide) ?_
                    refine lv_isub hx hb d_Mo_make_111 ?_
                    refine lv_iconst (v := 1) hx hb d_Mo_make_112 (by decide) ?_
                    refine gw_iast (i := ((100 * (nI q)) + (nI w)) - 1) (x := 1) hx hb hE.K hW hS 0 hf_6 rfl (gm_mi (by omega) (by omega) (by omega)) d_Mo_make_113 (fun H locs hW hS => ?_)
                    have hXn : gm_X G B lm sm E jb sz dr (gw_up M83 (B 6) 106 (.inl (G.2.1 0, 4100, .inl (upd f6o87 (((100 * (nI q)) + (nI w)) - 1 : Int32).toNatClampNeg 1)))) := hX.up106 hf_6
                    have hF88 : gw_fg (gw_out [100, 101, 102, 103, 104, 105, 106, 107]) M (gw_up M83 (B 6) 106 (.inl (G.2.1 0, 4100, .inl (upd f6o87 (((100 * (nI q)) + (nI w)) - 1 : Int32).toNatClampNeg 1)))) := gw_fg.up hF86 hf_6 (show ¬ ((gw_out [100, 101, 102, 103, 104, 105, 106, 107]) 106) by decide) (show ¬ ((gw_out [100, 101, 102, 103, 104, 105, 106, 107]) 106) by decide)
                    obtain ⟨M89, eM89⟩ : ∃ z, z = gw_up M83 (B 6) 106 (.inl (G.2.1 0, 4100, .inl (upd f6o87 (((100 * (nI q)) + (nI w)) - 1 : Int32).toNatClampNeg 1))) := ⟨_, rfl⟩
                    replace hW : gw_P G.1 vwCl G.2.2.2 M89 H := by rw [eM89]; exact hW
                    have hf_0 : M89 (B 0) = some (100, .inr (5, [.int cdo87, .int (nI lm), .int sm, .int E, .ref (B 1), .ref (B 2), .int (nI sz), .ref (B 3), .ref (B 4), .ref (B 5), .ref (B 6), .int (nI jb), .int mko87, .ref (B 7), .int (nI dr)])) := by rw [eM89]; exact gw_keep hf_0 hf_6 (by decide)
                    have hf_1 : M89 (B 1) = some (101, .inl (G.2.1 0, 10000, .inl f1o87)) := by rw [eM89]; exact gw_keep hf_1 hf_6 (by decide)
                    have hf_2 : M89 (B 2) = some (102, .inl (G.2.1 0, 300, .inl f2o87)) := by rw [eM89]; exact gw_keep hf_2 hf_6 (by decide)
                    have hf_3 : M89 (B 3) = some (103, .inl (G.2.1 0, 10240, .inl f3o87)) := by rw [eM89]; exact gw_keep hf_3 hf_6 (by decide)
                    have hf_4 : M89 (B 4) = some (104, .inl (G.2.1 0, 41, .inl f4o87)) := by rw [eM89]; exact gw_keep hf_4 hf_6 (by decide)
                    have hf_5 : M89 (B 5) = some (105, .inl (G.2.1 0, 41, .inl f5o87)) := by rw [eM89]; exact gw_keep hf_5 hf_6 (by decide)
                    have hf_7 : M89 (B 7) = some (107, .inl (G.2.1 0, 2048, .inl f7o87)) := by rw [eM89]; exact gw_keep hf_7 hf_6 (by decide)
                    have hf_6 : M89 (B 6) = some (106, .inl (G.2.1 0, 4100, .inl (upd f6o87 (((100 * (nI q)) + (nI w)) - 1 : Int32).toNatClampNeg 1))) := by rw [eM89]; exact gw_up_self _ _ _ _
                    rw [← eM89] at hF88
                    rw [← eM89] at hXn
                    replace hX := hXn
                    clear hXn
                    refine lv_aload_n hx hb d_Mo_make_114 rfl (lv_at hl 1 rfl) ?_
                    refine lv_iload_n hx hb d_Mo_make_115 rfl (lv_at hl 2 rfl) ?_
                    refine gw_put (ci := 5) (fs := [.int cdo87, .int (nI lm), .int sm, .int E, .ref (B 1), .ref (B 2), .int (nI sz), .ref (B 3), .ref (B 4), .ref (B 5), .ref (B 6), .int (nI jb), .int mko87, .ref (B 7), .int (nI dr)]) (v := .int (nI q)) (ty := .int) hx hb hts in_Mo t_Mo t_Mo_ok n_Mo hown hE.K hW hS hf_0 rfl 12 (by decide) (hts _ mw282) (fun _ h9 => h9) rfl (by decide +kernel) rfl rfl (Nat.le_of_ble_eq_true rfl) d_Mo_make_116 (fun H locs hW hS => ?_)
                    have hXn : gm_X G B lm sm E jb sz dr (gw_up M89 (B 0) 100 (.inr (5, [.int cdo87, .int (nI lm), .int sm, .int E, .ref (B 1), .ref (B 2), .int (nI sz), .ref (B 3), .ref (B 4), .ref (B 5), .ref (B 6), .int (nI jb), .int (nI q), .ref (B 7), .int (nI dr)]))) := hX.up100 hf_0 (by omega)
                    have hF90 : gw_fg (gw_out [100, 101, 102, 103, 104, 105, 106, 107]) M (gw_up M89 (B 0) 100 (.inr (5, [.int cdo87, .int (nI lm), .int sm, .int E, .ref (B 1), .ref (B 2), .int (nI sz), .ref (B 3), .ref (B 4), .ref (B 5), .ref (B 6), .int (nI jb), .int (nI q), .ref (B 7), .int (nI dr)]))) := gw_fg.up hF88 hf_0 (show ¬ ((gw_out [100, 101, 102, 103, 104, 105, 106, 107]) 100) by decide) (show ¬ ((gw_out [100, 101, 102, 103, 104, 105, 106, 107]) 100) by decide)
                    obtain ⟨M91, eM91⟩ : ∃ z, z = gw_up M89 (B 0) 100 (.inr (5, [.int cdo87, .int (nI lm), .int sm, .int E, .ref (B 1), .ref (B 2), .int (nI sz), .ref (B 3), .ref (B 4), .ref (B 5), .ref (B 6), .int (nI jb), .int (nI q), .ref (B 7), .int (nI dr)])) := ⟨_, rfl⟩
                    replace hW : gw_P G.1 vwCl G.2.2.2 M91 H := by rw [eM91]; exact hW
                    have hf_1 : M91 (B 1) = some (101, .inl (G.2.1 0, 10000, .inl f1o87)) := by rw [eM91]; exact gw_keep hf_1 hf_0 (by decide)
                    have hf_2 : M91 (B 2) = some (102, .inl (G.2.1 0, 300, .inl f2o87)) := by rw [eM91]; exact gw_keep hf_2 hf_0 (by decide)
                    have hf_3 : M91 (B 3) = some (103, .inl (G.2.1 0, 10240, .inl f3o87)) := by rw [eM91]; exact gw_keep hf_3 hf_0 (by decide)
                    have hf_4 : M91 (B 4) = some (104, .inl (G.2.1 0, 41, .inl f4o87)) := by rw [eM91]; exact gw_keep hf_4 hf_0 (by decide)
                    have hf_5 : M91 (B 5) = some (105, .inl (G.2.1 0, 41, .inl f5o87)) := by rw [eM91]; exact gw_keep hf_5 hf_0 (by decide)
                    have hf_7 : M91 (B 7) = some (107, .inl (G.2.1 0, 2048, .inl f7o87)) := by rw [eM91]; exact gw_keep hf_7 hf_0 (by decide)
                    have hf_6 : M91 (B 6) = some (106, .inl (G.2.1 0, 4100, .inl (upd f6o87 (((100 * (nI q)) + (nI w)) - 1 : Int32).toNatClampNeg 1))) := by rw [eM91]; exact gw_keep hf_6 hf_0 (by decide)
                    have hf_0 : M91 (B 0) = some (100, .inr (5, [.int cdo87, .int (nI lm), .int sm, .int E, .ref (B 1), .ref (B 2), .int (nI sz), .ref (B 3), .ref (B 4), .ref (B 5), .ref (B 6), .int (nI jb), .int (nI q), .ref (B 7), .int (nI dr)])) := by rw [eM91]; exact gw_up_self _ _ _ _
                    rw [← eM91] at hF90
                    rw [← eM91] at hXn
                    replace hX := hXn
                    clear hXn
                    refine lv_iload_n hx hb d_Mo_make_119 rfl (lv_at hl 0 rfl) ?_
                    exact gw_iret hx hb hr hlocks hS hW (Nat.le_of_ble_eq_true rfl) (Nat.le_of_ble_eq_true rfl) d_Mo_make_120 ⟨hX, hF90⟩
                  · refine lv_iconst (v := -1) hx hb d_Mo_make_90 (by decide) ?_
                    exact gw_iret hx hb hr hlocks hS hW (Nat.le_of_ble_eq_true rfl) (Nat.le_of_ble_eq_true rfl) d_Mo_make_91 ⟨hX, hF70⟩
            · refine lv_iload_n hx hb d_Mo_make_65 rfl (lv_at hl 0 rfl) ?_
              exact gw_iret hx hb hr hlocks hS hW (Nat.le_of_ble_eq_true rfl) (Nat.le_of_ble_eq_true rfl) d_Mo_make_66 ⟨hX, hF64⟩
        · exact absurd c28 (by decide)
      · refine lv_iconst (v := 1) hx hb d_Mo_make_20 (by decide) ?_
        refine lv_goto (tgt := 25) hx hb d_Mo_make_21 (by decide) ?_
        obtain ⟨cdo92, mko92, f1o92, f2o92, f3o92, f4o92, f5o92, f6o92, f7o92, hf_0, hf_1, hf_2, hf_3, hf_4, hf_5, hf_6, hf_7, hk2o92, hk3o92, hk4o92, -, -⟩ := id hX
        refine gw_calli hS (va_runV (As := [.int 1]) (rest := []) ⟨hx, hb, hml, hown, hts⟩ (m_fails l G M3 B lm sm E jb sz dr hX 1  rfl) (cwV 1 hts (gw_gv mw270 mw271 mw272 mw228 mw269) rfl rfl rfl (by decide +kernel) ⟨Nat.le_of_ble_eq_true rfl, Nat.le_of_ble_eq_true rfl⟩) (gw_pv hE hB hS hW rfl hf_0) rfl rfl hl.1 rfl (lv_room (Nat.le_of_ble_eq_true rfl)) d_Mo_make_25 ⟨Nat.le_of_ble_eq_true rfl, Nat.le_of_ble_eq_true rfl⟩) (fun r93 M94 H locs hw95 hW hS => ?_)
        obtain ⟨rfl, hX, hfr96⟩ := hw95
        have hF97 : gw_fg (gw_out [100, 101, 102, 103, 104, 105, 106, 107]) M M94 := gw_fg.tr hF7 (gw_fg.wk hfr96 (by decide))
        clear hfr96
        refine lv_if_eq (tgt := 33) hx hb d_Mo_make_28 (by decide) (fun c28 => ?_) (fun c28 => ?_)
        · exact absurd c28 (by decide)
        · refine lv_iconst (v := 0) hx hb d_Mo_make_31 (by decide) ?_
          exact gw_iret hx hb hr hlocks hS hW (Nat.le_of_ble_eq_true rfl) (Nat.le_of_ble_eq_true rfl) d_Mo_make_32 ⟨hX, hF97⟩

set_option maxHeartbeats 4000000 in
set_option maxRecDepth 100000 in
theorem m_settle (l : Launch) (G : gw_G) (M : gw_M) (B : Nat → Nat) (lm : Nat) (sm E : Int32) (jb sz dr : Nat) (hX : gm_X G B lm sm E jb sz dr M) : Met l y_Mo_settle [.code y_Mo_settle b_Mo_settle 3 none] ({ frames := 1, cells := 0, slots := 0, locals := 21 }) (gw_Pc G M [.ref (B 0)]) (gw_Qv G (fun M2 => gm_X G B lm sm E jb sz dr M2 ∧ gw_fg (gw_out [100, 101, 102, 103, 104, 105, 106, 107]) M M2)) 0 0 (gw_A G) := by
  refine gw_start (by decide) (Nat.le_of_ble_eq_true rfl) (fun p9 e9 s m b9 mt9 c9 hx hb hr hml hown hlocks hin hE hB hW ls hl => ?_)
  have hts := hE.ts ([.ref (B 0)] : List Value).toArray
  have hl : lv_has ls 3 [(0, .ref (B 0))] := hl
  have hown : s.vm.findClass "GenerationsModel" = some m.cls := hown
  have hj9 := hX.jb40
  have hm9 := hX.lm255
  refine gw_gen (I := fun z => gm_X G B lm sm E jb sz dr z) (P := gw_out [100, 101, 102, 103, 104, 105, 106, 107]) hX hW (fun H locs Mw hW hS hX hF => ?_)
  have hX : gm_X G B lm sm E jb sz dr Mw := hX
  refine lv_iconst (v := 0) hx hb d_Mo_settle_0 (by decide) ?_
  refine lv_istore_n (lv' := [(1, .int 0), (0, .ref (B 0))]) hx hb d_Mo_settle_1 rfl hl (by decide) rfl (fun ls hl => ?_)
  refine lv_iconst (v := 1) hx hb d_Mo_settle_2 (by decide) ?_
  refine lv_istore_n (lv' := [(2, .int 1), (1, .int 0), (0, .ref (B 0))]) hx hb d_Mo_settle_3 rfl hl (by decide) rfl (fun ls hl => ?_)
  obtain ⟨k4, ek4⟩ : ∃ z : Nat, z = 1 := ⟨_, rfl⟩
  obtain ⟨c4_1, ec4_1⟩ : ∃ z : Int32, z = 0 := ⟨_, rfl⟩
  replace hl : lv_has ls 3 [(2, .int (nI k4)), (1, .int c4_1), (0, .ref (B 0))] := by subst ek4; subst ec4_1; exact lv_sub hl [0, 1, 2] rfl
  have hk4 : 1 ≤ k4 ∧ k4 ≤ 10000 := by omega
  clear ek4 ec4_1
  obtain ⟨n4, hn4⟩ : ∃ z : Nat, 10000 - k4 < z := ⟨_, Nat.lt_succ_self _⟩
  induction n4 generalizing k4 ls H locs Mw c4_1 with
  | zero => exact absurd hn4 (Nat.not_lt_zero _)
  | succ n4 ih4 =>
    refine lv_iload_n hx hb d_Mo_settle_4 rfl (lv_at hl 0 rfl) ?_
    refine lv_sipush (v := 9999) hx hb d_Mo_settle_5 (by decide) ?_
    refine lv_icmp_gt (tgt := 36) hx hb d_Mo_settle_8 (by decide) (fun c8 => ?_) (fun c8 => ?_)
    · refine lv_aload_n hx hb d_Mo_settle_36 rfl (lv_at hl 2 rfl) ?_
      refine lv_iload_n hx hb d_Mo_settle_37 rfl (lv_at hl 1 rfl) ?_
      refine lv_if_eq (tgt := 48) hx hb d_Mo_settle_38 (by decide) (fun c38 => ?_) (fun c38 => ?_)
      · refine lv_iconst (v := 0) hx hb d_Mo_settle_48 (by decide) ?_
        obtain ⟨cdo1, mko1, f1o1, f2o1, f3o1, f4o1, f5o1, f6o1, f7o1, hf_0, hf_1, hf_2, hf_3, hf_4, hf_5, hf_6, hf_7, hk2o1, hk3o1, hk4o1, -, -⟩ := id hX
        refine gw_put (ci := 5) (fs := [.int cdo1, .int (nI lm), .int sm, .int E, .ref (B 1), .ref (B 2), .int (nI sz), .ref (B 3), .ref (B 4), .ref (B 5), .ref (B 6), .int (nI jb), .int mko1, .ref (B 7), .int (nI dr)]) (v := .int 0) (ty := .int) hx hb hts in_Mo t_Mo t_Mo_ok n_Mo hown hE.K hW hS hf_0 rfl 12 (by decide) (hts _ mw282) (fun _ h9 => h9) rfl (by decide +kernel) rfl rfl (Nat.le_of_ble_eq_true rfl) d_Mo_settle_49 (fun H locs hW hS => ?_)
        have hXn : gm_X G B lm sm E jb sz dr (gw_up Mw (B 0) 100 (.inr (5, [.int cdo1, .int (nI lm), .int sm, .int E, .ref (B 1), .ref (B 2), .int (nI sz), .ref (B 3), .ref (B 4), .ref (B 5), .ref (B 6), .int (nI jb), .int 0, .ref (B 7), .int (nI dr)]))) := hX.up100 hf_0 (by omega)
        have hF2 : gw_fg (gw_out [100, 101, 102, 103, 104, 105, 106, 107]) M (gw_up Mw (B 0) 100 (.inr (5, [.int cdo1, .int (nI lm), .int sm, .int E, .ref (B 1), .ref (B 2), .int (nI sz), .ref (B 3), .ref (B 4), .ref (B 5), .ref (B 6), .int (nI jb), .int 0, .ref (B 7), .int (nI dr)]))) := gw_fg.up hF hf_0 (show ¬ ((gw_out [100, 101, 102, 103, 104, 105, 106, 107]) 100) by decide) (show ¬ ((gw_out [100, 101, 102, 103, 104, 105, 106, 107]) 100) by decide)
        obtain ⟨M3, eM3⟩ : ∃ z, z = gw_up Mw (B 0) 100 (.inr (5, [.int cdo1, .int (nI lm), .int sm, .int E, .ref (B 1), .ref (B 2), .int (nI sz), .ref (B 3), .ref (B 4), .ref (B 5), .ref (B 6), .int (nI jb), .int 0, .ref (B 7), .int (nI dr)])) := ⟨_, rfl⟩
        replace hW : gw_P G.1 vwCl G.2.2.2 M3 H := by rw [eM3]; exact hW
        have hf_1 : M3 (B 1) = some (101, .inl (G.2.1 0, 10000, .inl f1o1)) := by rw [eM3]; exact gw_keep hf_1 hf_0 (by decide)
        have hf_2 : M3 (B 2) = some (102, .inl (G.2.1 0, 300, .inl f2o1)) := by rw [eM3]; exact gw_keep hf_2 hf_0 (by decide)
        have hf_3 : M3 (B 3) = some (103, .inl (G.2.1 0, 10240, .inl f3o1)) := by rw [eM3]; exact gw_keep hf_3 hf_0 (by decide)
        have hf_4 : M3 (B 4) = some (104, .inl (G.2.1 0, 41, .inl f4o1)) := by rw [eM3]; exact gw_keep hf_4 hf_0 (by decide)
        have hf_5 : M3 (B 5) = some (105, .inl (G.2.1 0, 41, .inl f5o1)) := by rw [eM3]; exact gw_keep hf_5 hf_0 (by decide)
        have hf_6 : M3 (B 6) = some (106, .inl (G.2.1 0, 4100, .inl f6o1)) := by rw [eM3]; exact gw_keep hf_6 hf_0 (by decide)
        have hf_7 : M3 (B 7) = some (107, .inl (G.2.1 0, 2048, .inl f7o1)) := by rw [eM3]; exact gw_keep hf_7 hf_0 (by decide)
        have hf_0 : M3 (B 0) = some (100, .inr (5, [.int cdo1, .int (nI lm), .int sm, .int E, .ref (B 1), .ref (B 2), .int (nI sz), .ref (B 3), .ref (B 4), .ref (B 5), .ref (B 6), .int (nI jb), .int 0, .ref (B 7), .int (nI dr)])) := by rw [eM3]; exact gw_up_self _ _ _ _
        rw [← eM3] at hF2
        rw [← eM3] at hXn
        replace hX := hXn
        clear hXn
        exact gw_vret hx hb hr hlocks hS hW (Nat.le_of_ble_eq_true rfl) (Nat.le_of_ble_eq_true rfl) d_Mo_settle_52 ⟨hX, hF2⟩
      · refine lv_aload_n hx hb d_Mo_settle_41 rfl (lv_at hl 2 rfl) ?_
        obtain ⟨cdo4, mko4, f1o4, f2o4, f3o4, f4o4, f5o4, f6o4, f7o4, hf_0, hf_1, hf_2, hf_3, hf_4, hf_5, hf_6, hf_7, hk2o4, hk3o4, hk4o4, -, -⟩ := id hX
        refine gw_get (ci := 5) (fs := [.int cdo4, .int (nI lm), .int sm, .int E, .ref (B 1), .ref (B 2), .int (nI sz), .ref (B 3), .ref (B 4), .ref (B 5), .ref (B 6), .int (nI jb), .int mko4, .ref (B 7), .int (nI dr)]) hx hb hts in_Mo hown hE.K hW hf_0 rfl 12 (by decide) (hts _ mw282) (fun _ h9 => h9) rfl d_Mo_settle_42 ?_
        refine lv_goto (tgt := 49) hx hb d_Mo_settle_45 (by decide) ?_
        refine gw_put (ci := 5) (fs := [.int cdo4, .int (nI lm), .int sm, .int E, .ref (B 1), .ref (B 2), .int (nI sz), .ref (B 3), .ref (B 4), .ref (B 5), .ref (B 6), .int (nI jb), .int mko4, .ref (B 7), .int (nI dr)]) (v := .int mko4) (ty := .int) hx hb hts in_Mo t_Mo t_Mo_ok n_Mo hown hE.K hW hS hf_0 rfl 12 (by decide) (hts _ mw282) (fun _ h9 => h9) rfl (by decide +kernel) rfl rfl (Nat.le_of_ble_eq_true rfl) d_Mo_settle_49 (fun H locs hW hS => ?_)
        have hXn : gm_X G B lm sm E jb sz dr (gw_up Mw (B 0) 100 (.inr (5, [.int cdo4, .int (nI lm), .int sm, .int E, .ref (B 1), .ref (B 2), .int (nI sz), .ref (B 3), .ref (B 4), .ref (B 5), .ref (B 6), .int (nI jb), .int mko4, .ref (B 7), .int (nI dr)]))) := hX.up100 hf_0 (by omega)
        have hF5 : gw_fg (gw_out [100, 101, 102, 103, 104, 105, 106, 107]) M (gw_up Mw (B 0) 100 (.inr (5, [.int cdo4, .int (nI lm), .int sm, .int E, .ref (B 1), .ref (B 2), .int (nI sz), .ref (B 3), .ref (B 4), .ref (B 5), .ref (B 6), .int (nI jb), .int mko4, .ref (B 7), .int (nI dr)]))) := gw_fg.up hF hf_0 (show ¬ ((gw_out [100, 101, 102, 103, 104, 105, 106, 107]) 100) by decide) (show ¬ ((gw_out [100, 101, 102, 103, 104, 105, 106, 107]) 100) by decide)
        obtain ⟨M6, eM6⟩ : ∃ z, z = gw_up Mw (B 0) 100 (.inr (5, [.int cdo4, .int (nI lm), .int sm, .int E, .ref (B 1), .ref (B 2), .int (nI sz), .ref (B 3), .ref (B 4), .ref (B 5), .ref (B 6), .int (nI jb), .int mko4, .ref (B 7), .int (nI dr)])) := ⟨_, rfl⟩
        replace hW : gw_P G.1 vwCl G.2.2.2 M6 H := by rw [eM6]; exact hW
        have hf_1 : M6 (B 1) = some (101, .inl (G.2.1 0, 10000, .inl f1o4)) := by rw [eM6]; exact gw_keep hf_1 hf_0 (by decide)
        have hf_2 : M6 (B 2) = some (102, .inl (G.2.1 0, 300, .inl f2o4)) := by rw [eM6]; exact gw_keep hf_2 hf_0 (by decide)
        have hf_3 : M6 (B 3) = some (103, .inl (G.2.1 0, 10240, .inl f3o4)) := by rw [eM6]; exact gw_keep hf_3 hf_0 (by decide)
        have hf_4 : M6 (B 4) = some (104, .inl (G.2.1 0, 41, .inl f4o4)) := by rw [eM6]; exact gw_keep hf_4 hf_0 (by decide)
        have hf_5 : M6 (B 5) = some (105, .inl (G.2.1 0, 41, .inl f5o4)) := by rw [eM6]; exact gw_keep hf_5 hf_0 (by decide)
        have hf_6 : M6 (B 6) = some (106, .inl (G.2.1 0, 4100, .inl f6o4)) := by rw [eM6]; exact gw_keep hf_6 hf_0 (by decide)
        have hf_7 : M6 (B 7) = some (107, .inl (G.2.1 0, 2048, .inl f7o4)) := by rw [eM6]; exact gw_keep hf_7 hf_0 (by decide)
        have hf_0 : M6 (B 0) = some (100, .inr (5, [.int cdo4, .int (nI lm), .int sm, .int E, .ref (B 1), .ref (B 2), .int (nI sz), .ref (B 3), .ref (B 4), .ref (B 5), .ref (B 6), .int (nI jb), .int mko4, .ref (B 7), .int (nI dr)])) := by rw [eM6]; exact gw_up_self _ _ _ _
        rw [← eM6] at hF5
        rw [← eM6] at hXn
        replace hX := hXn
        clear hXn
        exact gw_vret hx hb hr hlocks hS hW (Nat.le_of_ble_eq_true rfl) (Nat.le_of_ble_eq_true rfl) d_Mo_settle_52 ⟨hX, hF5⟩
    · have hk9 := gm_le c8 gm_c9999 (by omega) (by omega)
      refine lv_iload_n hx hb d_Mo_settle_11 rfl (lv_at hl 1 rfl) ?_
      refine lv_if_ne (tgt := 24) hx hb d_Mo_settle_12 (by decide) (fun c12 => ?_) (fun c12 => ?_)
      · refine lv_iconst (v := 1) hx hb d_Mo_settle_24 (by decide) ?_
        refine lv_goto (tgt := 29) hx hb d_Mo_settle_25 (by decide) ?_
        refine lv_istore_n (lv' := [(1, .int 1), (2, .int (nI k4)), (0, .ref (B 0))]) hx hb d_Mo_settle_29 rfl hl (by decide) rfl (fun ls hl => ?_)
        refine lv_iinc (v := (nI k4) + 1) (lv' := [(2, .int ((nI k4) + 1)), (1, .int 1), (0, .ref (B 0))]) hx hb d_Mo_settle_30 hl (k := 1) rfl rfl (by decide) rfl (fun ls hl => ?_)
        refine lv_goto (tgt := 4) hx hb d_Mo_settle_33 (by decide) ?_
        rw [nI_1] at hl
        apply ih4 (ls := ls) (k4 := k4 + 1) (H := H) (locs := locs) (Mw := Mw) (c4_1 := 1) <;> first | exact lv_sub hl [0, 1, 2] rfl | exact hX | exact hW | exact hS | exact hF | omega | assumption
      · refine lv_aload_n hx hb d_Mo_settle_15 rfl (lv_at hl 2 rfl) ?_
        refine lv_iload_n hx hb d_Mo_settle_16 rfl (lv_at hl 0 rfl) ?_
        obtain ⟨cdo7, mko7, f1o7, f2o7, f3o7, f4o7, f5o7, f6o7, f7o7, hf_0, hf_1, hf_2, hf_3, hf_4, hf_5, hf_6, hf_7, hk2o7, hk3o7, hk4o7, -, -⟩ := id hX
        refine gw_calli hS (va_runV (As := [.int (nI k4)]) (rest := []) ⟨hx, hb, hml, hown, hts⟩ (m_what l G Mw B lm sm E jb sz dr hX (nI k4)  (gm_nI (by omega))) (cwV 1 hts (gw_gv mw255 mw256 mw257 mw228 mw254) rfl rfl rfl (by decide +kernel) ⟨Nat.le_of_ble_eq_true rfl, Nat.le_of_ble_eq_true rfl⟩) (gw_pv hE hB hS hW rfl hf_0) rfl rfl hl.1 rfl (lv_room (Nat.le_of_ble_eq_true rfl)) d_Mo_settle_17 ⟨Nat.le_of_ble_eq_true rfl, Nat.le_of_ble_eq_true rfl⟩) (fun r8 M9 H locs hw10 hW hS => ?_)
        obtain ⟨hX, hfr11⟩ := hw10
        have hF12 : gw_fg (gw_out [100, 101, 102, 103, 104, 105, 106, 107]) M M9 := gw_fg.tr hF (gw_fg.wk hfr11 (by decide))
        clear hfr11
        refine lv_iconst (v := 2) hx hb d_Mo_settle_20 (by decide) ?_
        refine lv_icmp_ne (tgt := 28) hx hb d_Mo_settle_21 (by decide) (fun c21 => ?_) (fun c21 => ?_)
        · refine lv_iconst (v := 0) hx hb d_Mo_settle_28 (by decide) ?_
          refine lv_istore_n (lv' := [(1, .int 0), (2, .int (nI k4)), (0, .ref (B 0))]) hx hb d_Mo_settle_29 rfl hl (by decide) rfl (fun ls hl => ?_)
          refine lv_iinc (v := (nI k4) + 1) (lv' := [(2, .int ((nI k4) + 1)), (1, .int 0), (0, .ref (B 0))]) hx hb d_Mo_settle_30 hl (k := 1) rfl rfl (by decide) rfl (fun ls hl => ?_)
          refine lv_goto (tgt := 4) hx hb d_Mo_settle_33 (by decide) ?_
          rw [nI_1] at hl
          apply ih4 (ls := ls) (k4 := k4 + 1) (H := H) (locs := locs) (Mw := M9) (c4_1 := 0) <;> first | exact lv_sub hl [0, 1, 2] rfl | exact hX | exact hW | exact hS | exact hF12 | omega | assumption
        · refine lv_iconst (v := 1) hx hb d_Mo_settle_24 (by decide) ?_
          refine lv_goto (tgt := 29) hx hb d_Mo_settle_25 (by decide) ?_
          refine lv_istore_n (lv' := [(1, .int 1), (2, .int (nI k4)), (0, .ref (B 0))]) hx hb d_Mo_settle_29 rfl hl (by decide) rfl (fun ls hl => ?_)
          refine lv_iinc (v := (nI k4) + 1) (lv' := [(2, .int ((nI k4) + 1)), (1, .int 1), (0, .ref (B 0))]) hx hb d_Mo_settle_30 hl (k := 1) rfl rfl (by decide) rfl (fun ls hl => ?_)
          refine lv_goto (tgt := 4) hx hb d_Mo_settle_33 (by decide) ?_
          rw [nI_1] at hl
          apply ih4 (ls := ls) (k4 := k4 + 1) (H := H) (locs := locs) (Mw := M9) (c4_1 := 1) <;> first | exact lv_sub hl [0, 1, 2] rfl | exact hX | exact hW | exact hS | exact hF12 | omega | assumption

set_option maxHeartbeats 4000000 in
set_option maxRecDepth 100000 in
theorem m_end (l : Launch) (G : gw_G) (M : gw_M) (B : Nat → Nat) (lm : Nat) (sm E : Int32) (jb sz dr : Nat) (hX : gm_X G B lm sm E jb sz dr M) (k : Int32) (p : Int32) (z : Int32) (hsz : sz ≤ lm) (hdr : dr + sz ≤ 600) : Met l y_Mo_end [.code y_Mo_end b_Mo_end 6 (some .int)] ({ frames := 3, cells := 0, slots := 0, locals := 71 }) (gw_Pc G M [.ref (B 0), .int k, .int p, .int z]) (gw_Qi G (fun r M2 => ∃ sz2 : Nat, ∃ dr2 : Nat, sz2 ≤ lm ∧ dr2 + sz2 ≤ dr + sz + 1 ∧ gm_X G B lm sm E jb sz2 dr2 M2 ∧ gw_fg (gw_out [100, 101, 102, 103, 104, 105, 106, 107]) M M2)) 0 0 (gw_A G) := by
  refine gw_start (by decide) (Nat.le_of_ble_eq_true rfl) (fun p9 e9 s m b9 mt9 c9 hx hb hr hml hown hlocks hin hE hB hW ls hl => ?_)
  have hts := hE.ts ([.ref (B 0), .int k, .int p, .int z] : List Value).toArray
  have hl : lv_has ls 6 [(0, .ref (B 0)), (1, .int k), (2, .int p), (3, .int z)] := hl
  have hown : s.vm.findClass "GenerationsModel" = some m.cls := hown
  have hj9 := hX.jb40
  have hm9 := hX.lm255
  refine gw_gen (I := fun z => gm_X G B lm sm E jb sz dr z) (P := gw_out [100, 101, 102, 103, 104, 105, 106, 107]) hX hW (fun H locs Mw hW hS hX hF => ?_)
  have hX : gm_X G B lm sm E jb sz dr Mw := hX
  refine lv_aload_n hx hb d_Mo_end_0 rfl (lv_at hl 0 rfl) ?_
  refine lv_aload_n hx hb d_Mo_end_1 rfl (lv_at hl 0 rfl) ?_
  refine lv_iload_n hx hb d_Mo_end_2 rfl (lv_at hl 1 rfl) ?_
  obtain ⟨cdo1, mko1, f1o1, f2o1, f3o1, f4o1, f5o1, f6o1, f7o1, hf_0, hf_1, hf_2, hf_3, hf_4, hf_5, hf_6, hf_7, hk2o1, hk3o1, hk4o1, -, -⟩ := id hX
  refine gw_calli hS (va_runV (As := [.int k]) (rest := [.ref (B 0)]) ⟨hx, hb, hml, hown, hts⟩ (m_isJob l G Mw B lm sm E jb sz dr hX k  ) (cwV 1 hts (gw_gv mw266 mw267 mw268 mw228 mw265) rfl rfl rfl (by decide +kernel) ⟨Nat.le_of_ble_eq_true rfl, Nat.le_of_ble_eq_true rfl⟩) (gw_pv hE hB hS hW rfl hf_0) rfl rfl hl.1 rfl (lv_room (Nat.le_of_ble_eq_true rfl)) d_Mo_end_3 ⟨Nat.le_of_ble_eq_true rfl, Nat.le_of_ble_eq_true rfl⟩) (fun r2 M3 H locs hw4 hW hS => ?_)
  obtain ⟨hp_6, hX, hfr5⟩ := hw4
  have hF7 : gw_fg (gw_out [100, 101, 102, 103, 104, 105, 106, 107]) M M3 := gw_fg.tr hF (gw_fg.wk hfr5 (by decide))
  clear hfr5
  refine lv_if_ne (tgt := 13) hx hb d_Mo_end_6 (by decide) (fun c6 => ?_) (fun c6 => ?_)
  · refine lv_iconst (v := 0) hx hb d_Mo_end_13 (by decide) ?_
    obtain ⟨cdo8, mko8, f1o8, f2o8, f3o8, f4o8, f5o8, f6o8, f7o8, hf_0, hf_1, hf_2, hf_3, hf_4, hf_5, hf_6, hf_7, hk2o8, hk3o8, hk4o8, -, -⟩ := id hX
    refine gw_calli hS (va_runV (As := [.int 0]) (rest := []) ⟨hx, hb, hml, hown, hts⟩ (m_fails l G M3 B lm sm E jb sz dr hX 0  rfl) (cwV 1 hts (gw_gv mw270 mw271 mw272 mw228 mw269) rfl rfl rfl (by decide +kernel) ⟨Nat.le_of_ble_eq_true rfl, Nat.le_of_ble_eq_true rfl⟩) (gw_pv hE hB hS hW rfl hf_0) rfl rfl hl.1 rfl (lv_room (Nat.le_of_ble_eq_true rfl)) d_Mo_end_14 ⟨Nat.le_of_ble_eq_true rfl, Nat.le_of_ble_eq_true rfl⟩) (fun r9 M10 H locs hw11 hW hS => ?_)
    obtain ⟨rfl, hX, hfr12⟩ := hw11
    have hF13 : gw_fg (gw_out [100, 101, 102, 103, 104, 105, 106, 107]) M M10 := gw_fg.tr hF7 (gw_fg.wk hfr12 (by decide))
    clear hfr12
    refine lv_if_eq (tgt := 22) hx hb d_Mo_end_17 (by decide) (fun c17 => ?_) (fun c17 => ?_)
    · obtain ⟨q, hq1, hq2, rfl⟩ := hp_6.resolve_left c6
      refine lv_iload_n hx hb d_Mo_end_22 rfl (lv_at hl 2 rfl) ?_
      refine gr_calli (va_runS (As := [.int p]) (rest := []) ⟨hx, hb, hml, hown, hts⟩ (m_isNumber l G M10 p  ) (cwS 1 hts (gw_gs mw252 mw253 mw228 mw251) rfl rfl rfl (by decide +kernel) ⟨Nat.le_of_ble_eq_true rfl, Nat.le_of_ble_eq_true rfl⟩) (gw_ps hE hB hS hW) rfl rfl hl.1 rfl (lv_room (Nat.le_of_ble_eq_true rfl)) d_Mo_end_23 ⟨Nat.le_of_ble_eq_true rfl, Nat.le_of_ble_eq_true rfl⟩) (fun r14 hw15 => ?_)
      refine lv_if_eq (tgt := 47) hx hb d_Mo_end_26 (by decide) (fun c26 => ?_) (fun c26 => ?_)
      · refine lv_iconst (v := -1) hx hb d_Mo_end_47 (by decide) ?_
        exact gw_iret hx hb hr hlocks hS hW (Nat.le_of_ble_eq_true rfl) (Nat.le_of_ble_eq_true rfl) d_Mo_end_48 ⟨sz, dr, (by omega), (by omega), hX, hF13⟩
      · have hk : gm_k p := hw15.resolve_left c26
        refine lv_aload_n hx hb d_Mo_end_29 rfl (lv_at hl 0 rfl) ?_
        refine lv_iload_n hx hb d_Mo_end_30 rfl (lv_at hl 2 rfl) ?_
        obtain ⟨cdo16, mko16, f1o16, f2o16, f3o16, f4o16, f5o16, f6o16, f7o16, hf_0, hf_1, hf_2, hf_3, hf_4, hf_5, hf_6, hf_7, hk2o16, hk3o16, hk4o16, -, -⟩ := id hX
        refine gw_calli hS (va_runV (As := [.int p]) (rest := []) ⟨hx, hb, hml, hown, hts⟩ (m_what l G M10 B lm sm E jb sz dr hX p  hk) (cwV 1 hts (gw_gv mw255 mw256 mw257 mw228 mw254) rfl rfl rfl (by decide +kernel) ⟨Nat.le_of_ble_eq_true rfl, Nat.le_of_ble_eq_true rfl⟩) (gw_pv hE hB hS hW rfl hf_0) rfl rfl hl.1 rfl (lv_room (Nat.le_of_ble_eq_true rfl)) d_Mo_end_31 ⟨Nat.le_of_ble_eq_true rfl, Nat.le_of_ble_eq_true rfl⟩) (fun r17 M18 H locs hw19 hW hS => ?_)
        obtain ⟨hX, hfr20⟩ := hw19
        have hF21 : gw_fg (gw_out [100, 101, 102, 103, 104, 105, 106, 107]) M M18 := gw_fg.tr hF13 (gw_fg.wk hfr20 (by decide))
        clear hfr20
        refine lv_iconst (v := 2) hx hb d_Mo_end_34 (by decide) ?_
        refine lv_icmp_ne (tgt := 47) hx hb d_Mo_end_35 (by decide) (fun c35 => ?_) (fun c35 => ?_)
        · refine lv_iconst (v := -1) hx hb d_Mo_end_47 (by decide) ?_
          exact gw_iret hx hb hr hlocks hS hW (Nat.le_of_ble_eq_true rfl) (Nat.le_of_ble_eq_true rfl) d_Mo_end_48 ⟨sz, dr, (by omega), (by omega), hX, hF21⟩
        · refine lv_aload_n hx hb d_Mo_end_38 rfl (lv_at hl 0 rfl) ?_
          refine lv_iload_n hx hb d_Mo_end_39 rfl (lv_at hl 2 rfl) ?_
          obtain ⟨cdo22, mko22, f1o22, f2o22, f3o22, f4o22, f5o22, f6o22, f7o22, hf_0, hf_1, hf_2, hf_3, hf_4, hf_5, hf_6, hf_7, hk2o22, hk3o22, hk4o22, -, -⟩ := id hX
          refine gw_calli hS (va_runV (As := [.int p]) (rest := []) ⟨hx, hb, hml, hown, hts⟩ (m_owner l G M18 B lm sm E jb sz dr hX p  hk) (cwV 1 hts (gw_gv mw225 mw226 mw227 mw228 mw224) rfl rfl rfl (by decide +kernel) ⟨Nat.le_of_ble_eq_true rfl, Nat.le_of_ble_eq_true rfl⟩) (gw_pv hE hB hS hW rfl hf_0) rfl rfl hl.1 rfl (lv_room (Nat.le_of_ble_eq_true rfl)) d_Mo_end_40 ⟨Nat.le_of_ble_eq_true rfl, Nat.le_of_ble_eq_true rfl⟩) (fun r23 M24 H locs hw25 hW hS => ?_)
          obtain ⟨hX, hfr26⟩ := hw25
          have hF27 : gw_fg (gw_out [100, 101, 102, 103, 104, 105, 106, 107]) M M24 := gw_fg.tr hF21 (gw_fg.wk hfr26 (by decide))
          clear hfr26
          refine lv_iload_n hx hb d_Mo_end_43 rfl (lv_at hl 1 rfl) ?_
          refine lv_icmp_eq (tgt := 49) hx hb d_Mo_end_44 (by decide) (fun c44 => ?_) (fun c44 => ?_)
          · refine lv_aload_n hx hb d_Mo_end_49 rfl (lv_at hl 0 rfl) ?_
            obtain ⟨cdo28, mko28, f1o28, f2o28, f3o28, f4o28, f5o28, f6o28, f7o28, hf_0, hf_1, hf_2, hf_3, hf_4, hf_5, hf_6, hf_7, hk2o28, hk3o28, hk4o28, -, -⟩ := id hX
            refine gw_get (ci := 5) (fs := [.int cdo28, .int (nI lm), .int sm, .int E, .ref (B 1), .ref (B 2), .int (nI sz), .ref (B 3), .ref (B 4), .ref (B 5), .ref (B 6), .int (nI jb), .int mko28, .ref (B 7), .int (nI dr)]) hx hb hts in_Mo hown hE.K hW hf_0 rfl 9 (by decide) (hts _ mw283) (fun _ h9 => h9) rfl d_Mo_end_50 ?_
            refine lv_iload_n hx hb d_Mo_end_53 rfl (lv_at hl 1 rfl) ?_
            refine lv_dup2_11 hx hb d_Mo_end_54 rfl rfl ?_
            refine gw_iald (i := nI q) hx hb hE.K hW 0 hf_5 rfl (vp_in_nI (by omega) (by omega)) d_Mo_end_55 ?_
            refine lv_iconst (v := 1) hx hb d_Mo_end_56 (by decide) ?_
            refine lv_iadd hx hb d_Mo_end_57 ?_
            refine gw_iast (i := nI q) (x := (f5o28 (nI q : Int32).toNatClampNeg) + 1) hx hb hE.K hW hS 0 hf_5 rfl (vp_in_nI (by omega) (by omega)) d_Mo_end_58 (fun H locs hW hS => ?_)
            have hXn : gm_X G B lm sm E jb sz dr (gw_up M24 (B 5) 105 (.inl (G.2.1 0, 41, .inl (upd f5o28 (nI q : Int32).toNatClampNeg ((f5o28 (nI q : Int32).toNatClampNeg) + 1))))) := hX.up105 hf_5
            have hF29 : gw_fg (gw_out [100, 101, 102, 103, 104, 105, 106, 107]) M (gw_up M24 (B 5) 105 (.inl (G.2.1 0, 41, .inl (upd f5o28 (nI q : Int32).toNatClampNeg ((f5o28 (nI q : Int32).toNatClampNeg) + 1))))) := gw_fg.up hF27 hf_5 (show ¬ ((gw_out [100, 101, 102, 103, 104, 105, 106, 107]) 105) by decide) (show ¬ ((gw_out [100, 101, 102, 103, 104, 105, 106, 107]) 105) by decide)
            obtain ⟨M30, eM30⟩ : ∃ z, z = gw_up M24 (B 5) 105 (.inl (G.2.1 0, 41, .inl (upd f5o28 (nI q : Int32).toNatClampNeg ((f5o28 (nI q : Int32).toNatClampNeg) + 1)))) := ⟨_, rfl⟩
            replace hW : gw_P G.1 vwCl G.2.2.2 M30 H := by rw [eM30]; exact hW
            have hf_0 : M30 (B 0) = some (100, .inr (5, [.int cdo28, .int (nI lm), .int sm, .int E, .ref (B 1), .ref (B 2), .int (nI sz), .ref (B 3), .ref (B 4), .ref (B 5), .ref (B 6), .int (nI jb), .int mko28, .ref (B 7), .int (nI dr)])) := by rw [eM30]; exact gw_keep hf_0 hf_5 (by decide)
            have hf_1 : M30 (B 1) = some (101, .inl (G.2.1 0, 10000, .inl f1o28)) := by rw [eM30]; exact gw_keep hf_1 hf_5 (by decide)
            have hf_2 : M30 (B 2) = some (102, .inl (G.2.1 0, 300, .inl f2o28)) := by rw [eM30]; exact gw_keep hf_2 hf_5 (by decide)
            have hf_3 : M30 (B 3) = some (103, .inl (G.2.1 0, 10240, .inl f3o28)) := by rw [eM30]; exact gw_keep hf_3 hf_5 (by decide)
            have hf_4 : M30 (B 4) = some (104, .inl (G.2.1 0, 41, .inl f4o28)) := by rw [eM30]; exact gw_keep hf_4 hf_5 (by decide)
            have hf_6 : M30 (B 6) = some (106, .inl (G.2.1 0, 4100, .inl f6o28)) := by rw [eM30]; exact gw_keep hf_6 hf_5 (by decide)
            have hf_7 : M30 (B 7) = some (107, .inl (G.2.1 0, 2048, .inl f7o28)) := by rw [eM30]; exact gw_keep hf_7 hf_5 (by decide)
            have hf_5 : M30 (B 5) = some (105, .inl (G.2.1 0, 41, .inl (upd f5o28 (nI q : Int32).toNatClampNeg ((f5o28 (nI q : Int32).toNatClampNeg) + 1)))) := by rw [eM30]; exact gw_up_self _ _ _ _
            rw [← eM30] at hF29
            rw [← eM30] at hXn
            replace hX := hXn
            clear hXn
            refine lv_iconst (v := 1) hx hb d_Mo_end_59 (by decide) ?_
            refine lv_istore (lv' := [(4, .int 1), (0, .ref (B 0)), (1, .int (nI q)), (2, .int p), (3, .int z)]) hx hb d_Mo_end_60 hl (by decide) rfl (fun ls hl => ?_)
            obtain ⟨k62, ek62⟩ : ∃ z : Nat, z = 1 := ⟨_, rfl⟩
            replace hl : lv_has ls 6 [(4, .int (nI k62)), (0, .ref (B 0)), (1, .int (nI q)), (2, .int p), (3, .int z)] := by subst ek62; exact lv_sub hl [0, 1, 2, 3, 4] rfl
            have hk62 : 1 ≤ k62 ∧ k62 ≤ 100 := by omega
            clear ek62
            clear hf_0 hf_1 hf_2 hf_3 hf_4 hf_6 hf_7 hf_5
            try clear eM30
            have hF := hF29
            clear hF29
            obtain ⟨n62, hn62⟩ : ∃ z : Nat, 100 - k62 < z := ⟨_, Nat.lt_succ_self _⟩
            induction n62 generalizing k62 ls H locs M30 with
            | zero => exact absurd hn62 (Nat.not_lt_zero _)
            | succ n62 ih62 =>
              refine lv_iload hx hb d_Mo_end_62 (lv_at hl 0 rfl) ?_
              refine lv_bipush (v := 100) hx hb d_Mo_end_64 (by decide) ?_
              refine lv_icmp_ge (tgt := 130) hx hb d_Mo_end_66 (by decide) (fun c66 => ?_) (fun c66 => ?_)
              · refine lv_iload_n hx hb d_Mo_end_130 rfl (lv_at hl 4 rfl) ?_
                refine lv_if_eq (tgt := 143) hx hb d_Mo_end_131 (by decide) (fun c131 => ?_) (fun c131 => ?_)
                · refine lv_aload_n hx hb d_Mo_end_143 rfl (lv_at hl 1 rfl) ?_
                  refine lv_iload_n hx hb d_Mo_end_144 rfl (lv_at hl 3 rfl) ?_
                  obtain ⟨cdo31, mko31, f1o31, f2o31, f3o31, f4o31, f5o31, f6o31, f7o31, hf_0, hf_1, hf_2, hf_3, hf_4, hf_5, hf_6, hf_7, hk2o31, hk3o31, hk4o31, -, -⟩ := id hX
                  refine gw_callv hS (va_runV (As := [.int p]) (rest := []) ⟨hx, hb, hml, hown, hts⟩ (m_enter l G M30 B lm sm E jb sz dr hX p  hk hsz hdr) (cwV 1 hts (gw_gv mw259 mw260 mw261 mw228 mw258) rfl rfl rfl (by decide +kernel) ⟨Nat.le_of_ble_eq_true rfl, Nat.le_of_ble_eq_true rfl⟩) (gw_pv hE hB hS hW rfl hf_0) rfl rfl hl.1 rfl (lv_room (Nat.le_of_ble_eq_true rfl)) d_Mo_end_145 ⟨Nat.le_of_ble_eq_true rfl, Nat.le_of_ble_eq_true rfl⟩) (fun M33 H locs hw34 hW hS => ?_)
                  obtain ⟨sz236, dr237, hb38, hb39, hX, hfr35⟩ := hw34
                  have hF40 : gw_fg (gw_out [100, 101, 102, 103, 104, 105, 106, 107]) M M33 := gw_fg.tr hF (gw_fg.wk hfr35 (by decide))
                  clear hfr35
                  refine lv_aload_n hx hb d_Mo_end_148 rfl (lv_at hl 1 rfl) ?_
                  obtain ⟨cdo41, mko41, f1o41, f2o41, f3o41, f4o41, f5o41, f6o41, f7o41, hf_0, hf_1, hf_2, hf_3, hf_4, hf_5, hf_6, hf_7, hk2o41, hk3o41, hk4o41, -, -⟩ := id hX
                  refine gw_callv hS (va_runV (As := []) (rest := []) ⟨hx, hb, hml, hown, hts⟩ (m_settle l G M33 B lm sm E jb sz236 dr237 hX   ) (cwV 0 hts (gw_gv mw285 mw286 mw287 mw228 mw284) rfl rfl rfl (by decide +kernel) ⟨Nat.le_of_ble_eq_true rfl, Nat.le_of_ble_eq_true rfl⟩) (gw_pv hE hB hS hW rfl hf_0) rfl rfl hl.1 rfl (lv_room (Nat.le_of_ble_eq_true rfl)) d_Mo_end_149 ⟨Nat.le_of_ble_eq_true rfl, Nat.le_of_ble_eq_true rfl⟩) (fun M43 H locs hw44 hW hS => ?_)
                  obtain ⟨hX, hfr45⟩ := hw44
                  have hF46 : gw_fg (gw_out [100, 101, 102, 103, 104, 105, 106, 107]) M M43 := gw_fg.tr hF40 (gw_fg.wk hfr45 (by decide))
                  clear hfr45
                  refine lv_iload_n hx hb d_Mo_end_152 rfl (lv_at hl 4 rfl) ?_
                  refine lv_if_eq (tgt := 160) hx hb d_Mo_end_153 (by decide) (fun c153 => ?_) (fun c153 => ?_)
                  · refine lv_iconst (v := 1) hx hb d_Mo_end_160 (by decide) ?_
                    exact gw_iret hx hb hr hlocks hS hW (Nat.le_of_ble_eq_true rfl) (Nat.le_of_ble_eq_true rfl) d_Mo_end_161 ⟨sz236, dr237, (by omega), (by omega), hX, hF46⟩
                  · refine lv_iconst (v := 0) hx hb d_Mo_end_156 (by decide) ?_
                    refine lv_goto (tgt := 161) hx hb d_Mo_end_157 (by decide) ?_
                    exact gw_iret hx hb hr hlocks hS hW (Nat.le_of_ble_eq_true rfl) (Nat.le_of_ble_eq_true rfl) d_Mo_end_161 ⟨sz236, dr237, (by omega), (by omega), hX, hF46⟩
                · refine lv_aload_n hx hb d_Mo_end_134 rfl (lv_at hl 1 rfl) ?_
                  refine lv_iload_n hx hb d_Mo_end_135 rfl (lv_at hl 3 rfl) ?_
                  refine lv_iconst (v := 3) hx hb d_Mo_end_136 (by decide) ?_
                  obtain ⟨cdo47, mko47, f1o47, f2o47, f3o47, f4o47, f5o47, f6o47, f7o47, hf_0, hf_1, hf_2, hf_3, hf_4, hf_5, hf_6, hf_7, hk2o47, hk3o47, hk4o47, -, -⟩ := id hX
                  refine gw_callv hS (va_runV (As := [.int p, .int 3]) (rest := []) ⟨hx, hb, hml, hown, hts⟩ (m_become l G M30 B lm sm E jb sz dr hX p 3  hk) (cwV 2 hts (gw_gv mw240 mw241 mw242 mw228 mw239) rfl rfl rfl (by decide +kernel) ⟨Nat.le_of_ble_eq_true rfl, Nat.le_of_ble_eq_true rfl⟩) (gw_pv hE hB hS hW rfl hf_0) rfl rfl hl.1 rfl (lv_room (Nat.le_of_ble_eq_true rfl)) d_Mo_end_137 ⟨Nat.le_of_ble_eq_true rfl, Nat.le_of_ble_eq_true rfl⟩) (fun M49 H locs hw50 hW hS => ?_)
                  obtain ⟨hX, hfr51⟩ := hw50
                  have hF52 : gw_fg (gw_out [100, 101, 102, 103, 104, 105, 106, 107]) M M49 := gw_fg.tr hF (gw_fg.wk hfr51 (by decide))
                  clear hfr51
                  refine lv_goto (tgt := 148) hx hb d_Mo_end_140 (by decide) ?_
                  refine lv_aload_n hx hb d_Mo_end_148 rfl (lv_at hl 1 rfl) ?_
                  obtain ⟨cdo53, mko53, f1o53, f2o53, f3o53, f4o53, f5o53, f6o53, f7o53, hf_0, hf_1, hf_2, hf_3, hf_4, hf_5, hf_6, hf_7, hk2o53, hk3o53, hk4o53, -, -⟩ := id hX
                  refine gw_callv hS (va_runV (As := []) (rest := []) ⟨hx, hb, hml, hown, hts⟩ (m_settle l G M49 B lm sm E jb sz dr hX   ) (cwV 0 hts (gw_gv mw285 mw286 mw287 mw228 mw284) rfl rfl rfl (by decide +kernel) ⟨Nat.le_of_ble_eq_true rfl, Nat.le_of_ble_eq_true rfl⟩) (gw_pv hE hB hS hW rfl hf_0) rfl rfl hl.1 rfl (lv_room (Nat.le_of_ble_eq_true rfl)) d_Mo_end_149 ⟨Nat.le_of_ble_eq_true rfl, Nat.le_of_ble_eq_true rfl⟩) (fun M55 H locs hw56 hW hS => ?_)
                  obtain ⟨hX, hfr57⟩ := hw56
                  have hF58 : gw_fg (gw_out [100, 101, 102, 103, 104, 105, 106, 107]) M M55 := gw_fg.tr hF52 (gw_fg.wk hfr57 (by decide))
                  clear hfr57
                  refine lv_iload_n hx hb d_Mo_end_152 rfl (lv_at hl 4 rfl) ?_
                  refine lv_if_eq (tgt := 160) hx hb d_Mo_end_153 (by decide) (fun c153 => ?_) (fun c153 => ?_)
                  · refine lv_iconst (v := 1) hx hb d_Mo_end_160 (by decide) ?_
                    exact gw_iret hx hb hr hlocks hS hW (Nat.le_of_ble_eq_true rfl) (Nat.le_of_ble_eq_true rfl) d_Mo_end_161 ⟨sz, dr, (by omega), (by omega), hX, hF58⟩
                  · refine lv_iconst (v := 0) hx hb d_Mo_end_156 (by decide) ?_
                    refine lv_goto (tgt := 161) hx hb d_Mo_end_157 (by decide) ?_
                    exact gw_iret hx hb hr hlocks hS hW (Nat.le_of_ble_eq_true rfl) (Nat.le_of_ble_eq_true rfl) d_Mo_end_161 ⟨sz, dr, (by omega), (by omega), hX, hF58⟩
              · have hlt := gm_lt c66 gm_c100 (by omega) (by omega)
                refine lv_bipush (v := 100) hx hb d_Mo_end_69 (by decide) ?_
                refine lv_iload_n hx hb d_Mo_end_71 rfl (lv_at hl 2 rfl) ?_
                refine lv_imul hx hb d_Mo_end_72 ?_
                refine lv_iload hx hb d_Mo_end_73 (lv_at hl 0 rfl) ?_
                refine lv_iadd hx hb d_Mo_end_75 ?_
                refine lv_iconst (v := 1) hx hb d_Mo_end_76 (by decide) ?_
                refine lv_isub hx hb d_Mo_end_77 ?_
                refine lv_istore (lv' := [(5, .int (((100 * (nI q)) + (nI k62)) - 1)), (4, .int (nI k62)), (0, .ref (B 0)), (1, .int (nI q)), (2, .int p), (3, .int z)]) hx hb d_Mo_end_78 hl (by decide) rfl (fun ls hl => ?_)
                refine lv_aload_n hx hb d_Mo_end_80 rfl (lv_at hl 2 rfl) ?_
                obtain ⟨cdo59, mko59, f1o59, f2o59, f3o59, f4o59, f5o59, f6o59, f7o59, hf_0, hf_1, hf_2, hf_3, hf_4, hf_5, hf_6, hf_7, hk2o59, hk3o59, hk4o59, -, -⟩ := id hX
                refine gw_get (ci := 5) (fs := [.int cdo59, .int (nI lm), .int sm, .int E, .ref (B 1), .ref (B 2), .int (nI sz), .ref (B 3), .ref (B 4), .ref (B 5), .ref (B 6), .int (nI jb), .int mko59, .ref (B 7), .int (nI dr)]) hx hb hts in_Mo hown hE.K hW hf_0 rfl 10 (by decide) (hts _ mw273) (fun _ h9 => h9) rfl d_Mo_end_81 ?_
                refine lv_iload hx hb d_Mo_end_84 (lv_at hl 0 rfl) ?_
                refine gw_iald (i := ((100 * (nI q)) + (nI k62)) - 1) hx hb hE.K hW 0 hf_6 rfl (gm_mi (by omega) (by omega) (by omega)) d_Mo_end_86 ?_
                refine lv_if_le (tgt := 124) hx hb d_Mo_end_87 (by decide) (fun c87 => ?_) (fun c87 => ?_)
                · refine lv_iinc (v := (nI k62) + 1) (lv' := [(4, .int ((nI k62) + 1)), (5, .int (((100 * (nI q)) + (nI k62)) - 1)), (0, .ref (B 0)), (1, .int (nI q)), (2, .int p), (3, .int z)]) hx hb d_Mo_end_124 hl (k := 1) rfl rfl (by decide) rfl (fun ls hl => ?_)
                  refine lv_goto (tgt := 62) hx hb d_Mo_end_127 (by decide) ?_
                  rw [nI_1] at hl
                  apply ih62 (ls := ls) (k62 := k62 + 1) (H := H) (locs := locs) (M30 := M30) <;> first | exact lv_sub hl [0, 2, 3, 4, 5] rfl | exact hX | exact hW | exact hS | exact hF | omega | assumption
                · refine lv_aload_n hx hb d_Mo_end_90 rfl (lv_at hl 2 rfl) ?_
                  refine lv_iload_n hx hb d_Mo_end_91 rfl (lv_at hl 3 rfl) ?_
                  refine lv_iload hx hb d_Mo_end_92 (lv_at hl 1 rfl) ?_
                  refine gw_calli hS (va_runV (As := [.int (nI q), .int (nI k62)]) (rest := []) ⟨hx, hb, hml, hown, hts⟩ (m_numberOf l G M30 B lm sm E jb sz dr hX q k62  (by omega) (by omega) (by omega) (by omega)) (cwV 2 hts (gw_gv mw275 mw276 mw277 mw228 mw274) rfl rfl rfl (by decide +kernel) ⟨Nat.le_of_ble_eq_true rfl, Nat.le_of_ble_eq_true rfl⟩) (gw_pv hE hB hS hW rfl hf_0) rfl rfl hl.1 rfl (lv_room (Nat.le_of_ble_eq_true rfl)) d_Mo_end_94 ⟨Nat.le_of_ble_eq_true rfl, Nat.le_of_ble_eq_true rfl⟩) (fun r60 M61 H locs hw62 hW hS => ?_)
                  obtain ⟨hp_64, hX, hfr63⟩ := hw62
                  have hF65 : gw_fg (gw_out [100, 101, 102, 103, 104, 105, 106, 107]) M M61 := gw_fg.tr hF (gw_fg.wk hfr63 (by decide))
                  clear hfr63
                  refine lv_iload_n hx hb d_Mo_end_97 rfl (lv_at hl 4 rfl) ?_
                  refine lv_icmp_ne (tgt := 124) hx hb d_Mo_end_98 (by decide) (fun c98 => ?_) (fun c98 => ?_)
                  · refine lv_iinc (v := (nI k62) + 1) (lv' := [(4, .int ((nI k62) + 1)), (5, .int (((100 * (nI q)) + (nI k62)) - 1)), (0, .ref (B 0)), (1, .int (nI q)), (2, .int p), (3, .int z)]) hx hb d_Mo_end_124 hl (k := 1) rfl rfl (by decide) rfl (fun ls hl => ?_)
                    refine lv_goto (tgt := 62) hx hb d_Mo_end_127 (by decide) ?_
                    rw [nI_1] at hl
                    apply ih62 (ls := ls) (k62 := k62 + 1) (H := H) (locs := locs) (M30 := M61) <;> first | exact lv_sub hl [0, 2, 3, 4, 5] rfl | exact hX | exact hW | exact hS | exact hF65 | omega | assumption
                  · refine lv_aload_n hx hb d_Mo_end_101 rfl (lv_at hl 2 rfl) ?_
                    obtain ⟨cdo66, mko66, f1o66, f2o66, f3o66, f4o66, f5o66, f6o66, f7o66, hf_0, hf_1, hf_2, hf_3, hf_4, hf_5, hf_6, hf_7, hk2o66, hk3o66, hk4o66, -, -⟩ := id hX
                    refine gw_get (ci := 5) (fs := [.int cdo66, .int (nI lm), .int sm, .int E, .ref (B 1), .ref (B 2), .int (nI sz), .ref (B 3), .ref (B 4), .ref (B 5), .ref (B 6), .int (nI jb), .int mko66, .ref (B 7), .int (nI dr)]) hx hb hts in_Mo hown hE.K hW hf_0 rfl 10 (by decide) (hts _ mw273) (fun _ h9 => h9) rfl d_Mo_end_102 ?_
                    refine lv_iload hx hb d_Mo_end_105 (lv_at hl 0 rfl) ?_
                    refine lv_iload_n hx hb d_Mo_end_107 rfl (lv_at hl 5 rfl) ?_
                    refine lv_if_eq (tgt := 122) hx hb d_Mo_end_108 (by decide) (fun c108 => ?_) (fun c108 => ?_)
                    · refine lv_iconst (v := 1) hx hb d_Mo_end_122 (by decide) ?_
                      refine gw_iast (i := ((100 * (nI q)) + (nI k62)) - 1) (x := 1) hx hb hE.K hW hS 0 hf_6 rfl (gm_mi (by omega) (by omega) (by omega)) d_Mo_end_123 (fun H locs hW hS => ?_)
                      have hXn : gm_X G B lm sm E jb sz dr (gw_up M61 (B 6) 106 (.inl (G.2.1 0, 4100, .inl (upd f6o66 (((100 * (nI q)) + (nI k62)) - 1 : Int32).toNatClampNeg 1)))) := hX.up106 hf_6
                      have hF67 : gw_fg (gw_out [100, 101, 102, 103, 104, 105, 106, 107]) M (gw_up M61 (B 6) 106 (.inl (G.2.1 0, 4100, .inl (upd f6o66 (((100 * (nI q)) + (nI k62)) - 1 : Int32).toNatClampNeg 1)))) := gw_fg.up hF65 hf_6 (show ¬ ((gw_out [100, 101, 102, 103, 104, 105, 106, 107]) 106) by decide) (show ¬ ((gw_out [100, 101, 102, 103, 104, 105, 106, 107]) 106) by decide)
                      obtain ⟨M68, eM68⟩ : ∃ z, z = gw_up M61 (B 6) 106 (.inl (G.2.1 0, 4100, .inl (upd f6o66 (((100 * (nI q)) + (nI k62)) - 1 : Int32).toNatClampNeg 1))) := ⟨_, rfl⟩
                      replace hW : gw_P G.1 vwCl G.2.2.2 M68 H := by rw [eM68]; exact hW
                      have hf_0 : M68 (B 0) = some (100, .inr (5, [.int cdo66, .int (nI lm), .int sm, .int E, .ref (B 1), .ref (B 2), .int (nI sz), .ref (B 3), .ref (B 4), .ref (B 5), .ref (B 6), .int (nI jb), .int mko66, .ref (B 7), .int (nI dr)])) := by rw [eM68]; exact gw_keep hf_0 hf_6 (by decide)
                      have hf_1 : M68 (B 1) = some (101, .inl (G.2.1 0, 10000, .inl f1o66)) := by rw [eM68]; exact gw_keep hf_1 hf_6 (by decide)
                      have hf_2 : M68 (B 2) = some (102, .inl (G.2.1 0, 300, .inl f2o66)) := by rw [eM68]; exact gw_keep hf_2 hf_6 (by decide)
                      have hf_3 : M68 (B 3) = some (103, .inl (G.2.1 0, 10240, .inl f3o66)) := by rw [eM68]; exact gw_keep hf_3 hf_6 (by decide)
                      have hf_4 : M68 (B 4) = some (104, .inl (G.2.1 0, 41, .inl f4o66)) := by rw [eM68]; exact gw_keep hf_4 hf_6 (by decide)
                      have hf_5 : M68 (B 5) = some (105, .inl (G.2.1 0, 41, .inl f5o66)) := by rw [eM68]; exact gw_keep hf_5 hf_6 (by decide)
                      have hf_7 : M68 (B 7) = some (107, .inl (G.2.1 0, 2048, .inl f7o66)) := by rw [eM68]; exact gw_keep hf_7 hf_6 (by decide)
                      have hf_6 : M68 (B 6) = some (106, .inl (G.2.1 0, 4100, .inl (upd f6o66 (((100 * (nI q)) + (nI k62)) - 1 : Int32).toNatClampNeg 1))) := by rw [eM68]; exact gw_up_self _ _ _ _
                      rw [← eM68] at hF67
                      rw [← eM68] at hXn
                      replace hX := hXn
                      clear hXn
                      refine lv_iinc (v := (nI k62) + 1) (lv' := [(4, .int ((nI k62) + 1)), (5, .int (((100 * (nI q)) + (nI k62)) - 1)), (0, .ref (B 0)), (1, .int (nI q)), (2, .int p), (3, .int z)]) hx hb d_Mo_end_124 hl (k := 1) rfl rfl (by decide) rfl (fun ls hl => ?_)
                      refine lv_goto (tgt := 62) hx hb d_Mo_end_127 (by decide) ?_
                      rw [nI_1] at hl
                      apply ih62 (ls := ls) (k62 := k62 + 1) (H := H) (locs := locs) (M30 := M68) <;> first | exact lv_sub hl [0, 2, 3, 4, 5] rfl | exact hX | exact hW | exact hS | exact hF67 | omega | assumption
                    · refine lv_iconst (v := 1) hx hb d_Mo_end_111 (by decide) ?_
                      refine lv_aload_n hx hb d_Mo_end_112 rfl (lv_at hl 2 rfl) ?_
                      refine gw_get (ci := 5) (fs := [.int cdo66, .int (nI lm), .int sm, .int E, .ref (B 1), .ref (B 2), .int (nI sz), .ref (B 3), .ref (B 4), .ref (B 5), .ref (B 6), .int (nI jb), .int mko66, .ref (B 7), .int (nI dr)]) hx hb hts in_Mo hown hE.K hW hf_0 rfl 9 (by decide) (hts _ mw283) (fun _ h9 => h9) rfl d_Mo_end_113 ?_
                      refine lv_iload_n hx hb d_Mo_end_116 rfl (lv_at hl 3 rfl) ?_
                      refine gw_iald (i := nI q) hx hb hE.K hW 0 hf_5 rfl (vp_in_nI (by omega) (by omega)) d_Mo_end_117 ?_
                      refine lv_iadd hx hb d_Mo_end_118 ?_
                      refine lv_goto (tgt := 123) hx hb d_Mo_end_119 (by decide) ?_
                      refine gw_iast (i := ((100 * (nI q)) + (nI k62)) - 1) (x := 1 + (f5o66 (nI q : Int32).toNatClampNeg)) hx hb hE.K hW hS 0 hf_6 rfl (gm_mi (by omega) (by omega) (by omega)) d_Mo_end_123 (fun H locs hW hS => ?_)
                      have hXn : gm_X G B lm sm E jb sz dr (gw_up M61 (B 6) 106 (.inl (G.2.1 0, 4100, .inl (upd f6o66 (((100 * (nI q)) + (nI k62)) - 1 : Int32).toNatClampNeg (1 + (f5o66 (nI q : Int32).toNatClampNeg)))))) := hX.up106 hf_6
                      have hF69 : gw_fg (gw_out [100, 101, 102, 103, 104, 105, 106, 107]) M (gw_up M61 (B 6) 106 (.inl (G.2.1 0, 4100, .inl (upd f6o66 (((100 * (nI q)) + (nI k62)) - 1 : Int32).toNatClampNeg (1 + (f5o66 (nI q : Int32).toNatClampNeg)))))) := gw_fg.up hF65 hf_6 (show ¬ ((gw_out [100, 101, 102, 103, 104, 105, 106, 107]) 106) by decide) (show ¬ ((gw_out [100, 101, 102, 103, 104, 105, 106, 107]) 106) by decide)
                      obtain ⟨M70, eM70⟩ : ∃ z, z = gw_up M61 (B 6) 106 (.inl (G.2.1 0, 4100, .inl (upd f6o66 (((100 * (nI q)) + (nI k62)) - 1 : Int32).toNatClampNeg (1 + (f5o66 (nI q : Int32).toNatClampNeg))))) := ⟨_, rfl⟩
                      replace hW : gw_P G.1 vwCl G.2.2.2 M70 H := by rw [eM70]; exact hW
                      have hf_0 : M70 (B 0) = some (100, .inr (5, [.int cdo66, .int (nI lm), .int sm, .int E, .ref (B 1), .ref (B 2), .int (nI sz), .ref (B 3), .ref (B 4), .ref (B 5), .ref (B 6), .int (nI jb), .int mko66, .ref (B 7), .int (nI dr)])) := by rw [eM70]; exact gw_keep hf_0 hf_6 (by decide)
                      have hf_1 : M70 (B 1) = some (101, .inl (G.2.1 0, 10000, .inl f1o66)) := by rw [eM70]; exact gw_keep hf_1 hf_6 (by decide)
                      have hf_2 : M70 (B 2) = some (102, .inl (G.2.1 0, 300, .inl f2o66)) := by rw [eM70]; exact gw_keep hf_2 hf_6 (by decide)
                      have hf_3 : M70 (B 3) = some (103, .inl (G.2.1 0, 10240, .inl f3o66)) := by rw [eM70]; exact gw_keep hf_3 hf_6 (by decide)
                      have hf_4 : M70 (B 4) = some (104, .inl (G.2.1 0, 41, .inl f4o66)) := by rw [eM70]; exact gw_keep hf_4 hf_6 (by decide)
                      have hf_5 : M70 (B 5) = some (105, .inl (G.2.1 0, 41, .inl f5o66)) := by rw [eM70]; exact gw_keep hf_5 hf_6 (by decide)
                      have hf_7 : M70 (B 7) = some (107, .inl (G.2.1 0, 2048, .inl f7o66)) := by rw [eM70]; exact gw_keep hf_7 hf_6 (by decide)
                      have hf_6 : M70 (B 6) = some (106, .inl (G.2.1 0, 4100, .inl (upd f6o66 (((100 * (nI q)) + (nI k62)) - 1 : Int32).toNatClampNeg (1 + (f5o66 (nI q : Int32).toNatClampNeg))))) := by rw [eM70]; exact gw_up_self _ _ _ _
                      rw [← eM70] at hF69
                      rw [← eM70] at hXn
                      replace hX := hXn
                      clear hXn
                      refine lv_iinc (v := (nI k62) + 1) (lv' := [(4, .int ((nI k62) + 1)), (5, .int (((100 * (nI q)) + (nI k62)) - 1)), (0, .ref (B 0)), (1, .int (nI q)), (2, .int p), (3, .int z)]) hx hb d_Mo_end_124 hl (k := 1) rfl rfl (by decide) rfl (fun ls hl => ?_)
                      refine lv_goto (tgt := 62) hx hb d_Mo_end_127 (by decide) ?_
                      rw [nI_1] at hl
                      apply ih62 (ls := ls) (k62 := k62 + 1) (H := H) (locs := locs) (M30 := M70) <;> first | exact lv_sub hl [0, 2, 3, 4, 5] rfl | exact hX | exact hW | exact hS | exact hF69 | omega | assumption
          · refine lv_iconst (v := -1) hx hb d_Mo_end_47 (by decide) ?_
            exact gw_iret hx hb hr hlocks hS hW (Nat.le_of_ble_eq_true rfl) (Nat.le_of_ble_eq_true rfl) d_Mo_end_48 ⟨sz, dr, (by omega), (by omega), hX, hF27⟩
    · exact absurd c17 (by decide)
  · refine lv_iconst (v := 1) hx hb d_Mo_end_9 (by decide) ?_
    refine lv_goto (tgt := 14) hx hb d_Mo_end_10 (by decide) ?_
    obtain ⟨cdo71, mko71, f1o71, f2o71, f3o71, f4o71, f5o71, f6o71, f7o71, hf_0, hf_1, hf_2, hf_3, hf_4, hf_5, hf_6, hf_7, hk2o71, hk3o71, hk4o71, -, -⟩ := id hX
    refine gw_calli hS (va_runV (As := [.int 1]) (rest := []) ⟨hx, hb, hml, hown, hts⟩ (m_fails l G M3 B lm sm E jb sz dr hX 1  rfl) (cwV 1 hts (gw_gv mw270 mw271 mw272 mw228 mw269) rfl rfl rfl (by decide +kernel) ⟨Nat.le_of_ble_eq_true rfl, Nat.le_of_ble_eq_true rfl⟩) (gw_pv hE hB hS hW rfl hf_0) rfl rfl hl.1 rfl (lv_room (Nat.le_of_ble_eq_true rfl)) d_Mo_end_14 ⟨Nat.le_of_ble_eq_true rfl, Nat.le_of_ble_eq_true rfl⟩) (fun r72 M73 H locs hw74 hW hS => ?_)
    obtain ⟨rfl, hX, hfr75⟩ := hw74
    have hF76 : gw_fg (gw_out [100, 101, 102, 103, 104, 105, 106, 107]) M M73 := gw_fg.tr hF7 (gw_fg.wk hfr75 (by decide))
    clear hfr75
    refine lv_if_eq (tgt := 22) hx hb d_Mo_end_17 (by decide) (fun c17 => ?_) (fun c17 => ?_)
    · exact absurd c17 (by decide)
    · refine lv_iconst (v := 0) hx hb d_Mo_end_20 (by decide) ?_
      exact gw_iret hx hb hr hlocks hS hW (Nat.le_of_ble_eq_true rfl) (Nat.le_of_ble_eq_true rfl) d_Mo_end_21 ⟨sz, dr, (by omega), (by omega), hX, hF76⟩

set_option maxHeartbeats 4000000 in
set_option maxRecDepth 100000 in
theorem m_restart (l : Launch) (G : gw_G) (M : gw_M) (B : Nat → Nat) (lm : Nat) (sm E : Int32) (jb sz dr : Nat) (hX : gm_X G B lm sm E jb sz dr M) (k : Int32) (p : Int32) : Met l y_Mo_restart [.code y_Mo_restart b_Mo_restart 6 (some .int)] ({ frames := 2, cells := 0, slots := 0, locals := 46 }) (gw_Pc G M [.ref (B 0), .int k, .int p]) (gw_Qi G (fun r M2 => gm_X G B lm sm E jb sz dr M2 ∧ gw_fg (gw_out [100, 101, 102, 103, 104, 105, 106, 107]) M M2)) 0 0 (gw_A G) := by
  refine gw_start (by decide) (Nat.le_of_ble_eq_true rfl) (fun p9 e9 s m b9 mt9 c9 hx hb hr hml hown hlocks hin hE hB hW ls hl => ?_)
  have hts := hE.ts ([.ref (B 0), .int k, .int p] : List Value).toArray
  have hl : lv_has ls 6 [(0, .ref (B 0)), (1, .int k), (2, .int p)] := hl
  have hown : s.vm.findClass "GenerationsModel" = some m.cls := hown
  have hj9 := hX.jb40
  have hm9 := hX.lm255
  refine gw_gen (I := fun z => gm_X G B lm sm E jb sz dr z) (P := gw_out [100, 101, 102, 103, 104, 105, 106, 107]) hX hW (fun H locs Mw hW hS hX hF => ?_)
  have hX : gm_X G B lm sm E jb sz dr Mw := hX
  refine lv_aload_n hx hb d_Mo_restart_0 rfl (lv_at hl 0 rfl) ?_
  refine lv_aload_n hx hb d_Mo_restart_1 rfl (lv_at hl 0 rfl) ?_
  refine lv_iload_n hx hb d_Mo_restart_2 rfl (lv_at hl 1 rfl) ?_
  obtain ⟨cdo1, mko1, f1o1, f2o1, f3o1, f4o1, f5o1, f6o1, f7o1, hf_0, hf_1, hf_2, hf_3, hf_4, hf_5, hf_6, hf_7, hk2o1, hk3o1, hk4o1, -, -⟩ := id hX
  refine gw_calli hS (va_runV (As := [.int k]) (rest := [.ref (B 0)]) ⟨hx, hb, hml, hown, hts⟩ (m_isJob l G Mw B lm sm E jb sz dr hX k  ) (cwV 1 hts (gw_gv mw266 mw267 mw268 mw228 mw265) rfl rfl rfl (by decide +kernel) ⟨Nat.le_of_ble_eq_true rfl, Nat.le_of_ble_eq_true rfl⟩) (gw_pv hE hB hS hW rfl hf_0) rfl rfl hl.1 rfl (lv_room (Nat.le_of_ble_eq_true rfl)) d_Mo_restart_3 ⟨Nat.le_of_ble_eq_true rfl, Nat.le_of_ble_eq_true rfl⟩) (fun r2 M3 H locs hw4 hW hS => ?_)
  obtain ⟨hp_6, hX, hfr5⟩ := hw4
  have hF7 : gw_fg (gw_out [100, 101, 102, 103, 104, 105, 106, 107]) M M3 := gw_fg.tr hF (gw_fg.wk hfr5 (by decide))
  clear hfr5
  refine lv_if_ne (tgt := 13) hx hb d_Mo_restart_6 (by decide) (fun c6 => ?_) (fun c6 => ?_)
  · refine lv_iconst (v := 0) hx hb d_Mo_restart_13 (by decide) ?_
    obtain ⟨cdo8, mko8, f1o8, f2o8, f3o8, f4o8, f5o8, f6o8, f7o8, hf_0, hf_1, hf_2, hf_3, hf_4, hf_5, hf_6, hf_7, hk2o8, hk3o8, hk4o8, -, -⟩ := id hX
    refine gw_calli hS (va_runV (As := [.int 0]) (rest := []) ⟨hx, hb, hml, hown, hts⟩ (m_fails l G M3 B lm sm E jb sz dr hX 0  rfl) (cwV 1 hts (gw_gv mw270 mw271 mw272 mw228 mw269) rfl rfl rfl (by decide +kernel) ⟨Nat.le_of_ble_eq_true rfl, Nat.le_of_ble_eq_true rfl⟩) (gw_pv hE hB hS hW rfl hf_0) rfl rfl hl.1 rfl (lv_room (Nat.le_of_ble_eq_true rfl)) d_Mo_restart_14 ⟨Nat.le_of_ble_eq_true rfl, Nat.le_of_ble_eq_true rfl⟩) (fun r9 M10 H locs hw11 hW hS => ?_)
    obtain ⟨rfl, hX, hfr12⟩ := hw11
    have hF13 : gw_fg (gw_out [100, 101, 102, 103, 104, 105, 106, 107]) M M10 := gw_fg.tr hF7 (gw_fg.wk hfr12 (by decide))
    clear hfr12
    refine lv_if_eq (tgt := 22) hx hb d_Mo_restart_17 (by decide) (fun c17 => ?_) (fun c17 => ?_)
    · obtain ⟨q, hq1, hq2, rfl⟩ := hp_6.resolve_left c6
      refine lv_aload_n hx hb d_Mo_restart_22 rfl (lv_at hl 0 rfl) ?_
      obtain ⟨cdo14, mko14, f1o14, f2o14, f3o14, f4o14, f5o14, f6o14, f7o14, hf_0, hf_1, hf_2, hf_3, hf_4, hf_5, hf_6, hf_7, hk2o14, hk3o14, hk4o14, -, -⟩ := id hX
      refine gw_get (ci := 5) (fs := [.int cdo14, .int (nI lm), .int sm, .int E, .ref (B 1), .ref (B 2), .int (nI sz), .ref (B 3), .ref (B 4), .ref (B 5), .ref (B 6), .int (nI jb), .int mko14, .ref (B 7), .int (nI dr)]) hx hb hts in_Mo hown hE.K hW hf_0 rfl 12 (by decide) (hts _ mw282) (fun _ h9 => h9) rfl d_Mo_restart_23 ?_
      refine lv_if_eq (tgt := 37) hx hb d_Mo_restart_26 (by decide) (fun c26 => ?_) (fun c26 => ?_)
      · refine lv_iload_n hx hb d_Mo_restart_37 rfl (lv_at hl 2 rfl) ?_
        refine lv_iconst (v := 1) hx hb d_Mo_restart_38 (by decide) ?_
        refine lv_icmp_lt (tgt := 54) hx hb d_Mo_restart_39 (by decide) (fun c39 => ?_) (fun c39 => ?_)
        · refine lv_iconst (v := -1) hx hb d_Mo_restart_54 (by decide) ?_
          exact gw_iret hx hb hr hlocks hS hW (Nat.le_of_ble_eq_true rfl) (Nat.le_of_ble_eq_true rfl) d_Mo_restart_55 ⟨hX, hF13⟩
        · refine lv_iload_n hx hb d_Mo_restart_42 rfl (lv_at hl 2 rfl) ?_
          refine lv_aload_n hx hb d_Mo_restart_43 rfl (lv_at hl 0 rfl) ?_
          refine gw_get (ci := 5) (fs := [.int cdo14, .int (nI lm), .int sm, .int E, .ref (B 1), .ref (B 2), .int (nI sz), .ref (B 3), .ref (B 4), .ref (B 5), .ref (B 6), .int (nI jb), .int mko14, .ref (B 7), .int (nI dr)]) hx hb hts in_Mo hown hE.K hW hf_0 rfl 9 (by decide) (hts _ mw283) (fun _ h9 => h9) rfl d_Mo_restart_44 ?_
          refine lv_iload_n hx hb d_Mo_restart_47 rfl (lv_at hl 1 rfl) ?_
          refine gw_iald (i := nI q) hx hb hE.K hW 0 hf_5 rfl (vp_in_nI (by omega) (by omega)) d_Mo_restart_48 ?_
          refine lv_iconst (v := 1) hx hb d_Mo_restart_49 (by decide) ?_
          refine lv_iadd hx hb d_Mo_restart_50 ?_
          refine lv_icmp_le (tgt := 56) hx hb d_Mo_restart_51 (by decide) (fun c51 => ?_) (fun c51 => ?_)
          · refine lv_iconst (v := 0) hx hb d_Mo_restart_56 (by decide) ?_
            refine lv_istore_n (lv' := [(3, .int 0), (0, .ref (B 0)), (1, .int (nI q)), (2, .int p)]) hx hb d_Mo_restart_57 rfl hl (by decide) rfl (fun ls hl => ?_)
            refine lv_iconst (v := 1) hx hb d_Mo_restart_58 (by decide) ?_
            refine lv_istore (lv' := [(4, .int 1), (3, .int 0), (0, .ref (B 0)), (1, .int (nI q)), (2, .int p)]) hx hb d_Mo_restart_59 hl (by decide) rfl (fun ls hl => ?_)
            obtain ⟨k61, ek61⟩ : ∃ z : Nat, z = 1 := ⟨_, rfl⟩
            obtain ⟨c61_3, ec61_3⟩ : ∃ z : Int32, z = 0 := ⟨_, rfl⟩
            replace hl : lv_has ls 6 [(4, .int (nI k61)), (3, .int c61_3), (0, .ref (B 0)), (1, .int (nI q)), (2, .int p)] := by subst ek61; subst ec61_3; exact lv_sub hl [0, 1, 2, 3, 4] rfl
            have hk61 : 1 ≤ k61 ∧ k61 ≤ 100 := by omega
            clear ek61 ec61_3
            clear hf_0 hf_1 hf_2 hf_3 hf_4 hf_5 hf_6 hf_7
            try clear eM10
            have hF := hF13
            clear hF13
            obtain ⟨n61, hn61⟩ : ∃ z : Nat, 100 - k61 < z := ⟨_, Nat.lt_succ_self _⟩
            induction n61 generalizing k61 ls H locs M10 c61_3 with
            | zero => exact absurd hn61 (Nat.not_lt_zero _)
            | succ n61 ih61 =>
              refine lv_iload hx hb d_Mo_restart_61 (lv_at hl 0 rfl) ?_
              refine lv_bipush (v := 100) hx hb d_Mo_restart_63 (by decide) ?_
              refine lv_icmp_ge (tgt := 139) hx hb d_Mo_restart_65 (by decide) (fun c65 => ?_) (fun c65 => ?_)
              · refine lv_iload_n hx hb d_Mo_restart_139 rfl (lv_at hl 1 rfl) ?_
                exact gw_iret hx hb hr hlocks hS hW (Nat.le_of_ble_eq_true rfl) (Nat.le_of_ble_eq_true rfl) d_Mo_restart_140 ⟨hX, hF⟩
              · have hlt := gm_lt c65 gm_c100 (by omega) (by omega)
                refine lv_aload_n hx hb d_Mo_restart_68 rfl (lv_at hl 2 rfl) ?_
                refine lv_iload_n hx hb d_Mo_restart_69 rfl (lv_at hl 3 rfl) ?_
                refine lv_iload hx hb d_Mo_restart_70 (lv_at hl 0 rfl) ?_
                obtain ⟨cdo15, mko15, f1o15, f2o15, f3o15, f4o15, f5o15, f6o15, f7o15, hf_0, hf_1, hf_2, hf_3, hf_4, hf_5, hf_6, hf_7, hk2o15, hk3o15, hk4o15, -, -⟩ := id hX
                refine gw_calli hS (va_runV (As := [.int (nI q), .int (nI k61)]) (rest := []) ⟨hx, hb, hml, hown, hts⟩ (m_numberOf l G M10 B lm sm E jb sz dr hX q k61  (by omega) (by omega) (by omega) (by omega)) (cwV 2 hts (gw_gv mw275 mw276 mw277 mw228 mw274) rfl rfl rfl (by decide +kernel) ⟨Nat.le_of_ble_eq_true rfl, Nat.le_of_ble_eq_true rfl⟩) (gw_pv hE hB hS hW rfl hf_0) rfl rfl hl.1 rfl (lv_room (Nat.le_of_ble_eq_true rfl)) d_Mo_restart_72 ⟨Nat.le_of_ble_eq_true rfl, Nat.le_of_ble_eq_true rfl⟩) (fun r16 M17 H locs hw18 hW hS => ?_)
                obtain ⟨hp_20, hX, hfr19⟩ := hw18
                have hF21 : gw_fg (gw_out [100, 101, 102, 103, 104, 105, 106, 107]) M M17 := gw_fg.tr hF (gw_fg.wk hfr19 (by decide))
                clear hfr19
                refine lv_istore (lv' := [(5, .int r16), (4, .int (nI k61)), (3, .int c61_3), (0, .ref (B 0)), (1, .int (nI q)), (2, .int p)]) hx hb d_Mo_restart_75 hl (by decide) rfl (fun ls hl => ?_)
                refine lv_aload_n hx hb d_Mo_restart_77 rfl (lv_at hl 3 rfl) ?_
                obtain ⟨cdo22, mko22, f1o22, f2o22, f3o22, f4o22, f5o22, f6o22, f7o22, hf_0, hf_1, hf_2, hf_3, hf_4, hf_5, hf_6, hf_7, hk2o22, hk3o22, hk4o22, -, -⟩ := id hX
                refine gw_get (ci := 5) (fs := [.int cdo22, .int (nI lm), .int sm, .int E, .ref (B 1), .ref (B 2), .int (nI sz), .ref (B 3), .ref (B 4), .ref (B 5), .ref (B 6), .int (nI jb), .int mko22, .ref (B 7), .int (nI dr)]) hx hb hts in_Mo hown hE.K hW hf_0 rfl 10 (by decide) (hts _ mw273) (fun _ h9 => h9) rfl d_Mo_restart_78 ?_
                refine lv_bipush (v := 100) hx hb d_Mo_restart_81 (by decide) ?_
                refine lv_iload_n hx hb d_Mo_restart_83 rfl (lv_at hl 4 rfl) ?_
                refine lv_imul hx hb d_Mo_restart_84 ?_
                refine lv_iload hx hb d_Mo_restart_85 (lv_at hl 1 rfl) ?_
                refine lv_iadd hx hb d_Mo_restart_87 ?_
                refine lv_iconst (v := 1) hx hb d_Mo_restart_88 (by decide) ?_
                refine lv_isub hx hb d_Mo_restart_89 ?_
                refine gw_iald (i := ((100 * (nI q)) + (nI k61)) - 1) hx hb hE.K hW 0 hf_6 rfl (gm_mi (by omega) (by omega) (by omega)) d_Mo_restart_90 ?_
                refine lv_iload_n hx hb d_Mo_restart_91 rfl (lv_at hl 5 rfl) ?_
                refine lv_icmp_le (tgt := 133) hx hb d_Mo_restart_92 (by decide) (fun c92 => ?_) (fun c92 => ?_)
                · refine lv_iinc (v := (nI k61) + 1) (lv' := [(4, .int ((nI k61) + 1)), (5, .int r16), (3, .int c61_3), (0, .ref (B 0)), (1, .int (nI q)), (2, .int p)]) hx hb d_Mo_restart_133 hl (k := 1) rfl rfl (by decide) rfl (fun ls hl => ?_)
                  refine lv_goto (tgt := 61) hx hb d_Mo_restart_136 (by decide) ?_
                  rw [nI_1] at hl
                  apply ih61 (ls := ls) (k61 := k61 + 1) (H := H) (locs := locs) (M10 := M17) (c61_3 := c61_3) <;> first | exact lv_sub hl [0, 2, 3, 4, 5] rfl | exact hX | exact hW | exact hS | exact hF21 | omega | assumption
                · refine lv_aload_n hx hb d_Mo_restart_95 rfl (lv_at hl 3 rfl) ?_
                  refine lv_iload hx hb d_Mo_restart_96 (lv_at hl 0 rfl) ?_
                  refine gw_calli hS (va_runV (As := [.int r16]) (rest := []) ⟨hx, hb, hml, hown, hts⟩ (m_what l G M17 B lm sm E jb sz dr hX r16  hp_20) (cwV 1 hts (gw_gv mw255 mw256 mw257 mw228 mw254) rfl rfl rfl (by decide +kernel) ⟨Nat.le_of_ble_eq_true rfl, Nat.le_of_ble_eq_true rfl⟩) (gw_pv hE hB hS hW rfl hf_0) rfl rfl hl.1 rfl (lv_room (Nat.le_of_ble_eq_true rfl)) d_Mo_restart_98 ⟨Nat.le_of_ble_eq_true rfl, Nat.le_of_ble_eq_true rfl⟩) (fun r23 M24 H locs hw25 hW hS => ?_)
                  obtain ⟨hX, hfr26⟩ := hw25
                  have hF27 : gw_fg (gw_out [100, 101, 102, 103, 104, 105, 106, 107]) M M24 := gw_fg.tr hF21 (gw_fg.wk hfr26 (by decide))
                  clear hfr26
                  refine lv_iconst (v := 3) hx hb d_Mo_restart_101 (by decide) ?_
                  refine lv_icmp_ne (tgt := 133) hx hb d_Mo_restart_102 (by decide) (fun c102 => ?_) (fun c102 => ?_)
                  · refine lv_iinc (v := (nI k61) + 1) (lv' := [(4, .int ((nI k61) + 1)), (5, .int r16), (3, .int c61_3), (0, .ref (B 0)), (1, .int (nI q)), (2, .int p)]) hx hb d_Mo_restart_133 hl (k := 1) rfl rfl (by decide) rfl (fun ls hl => ?_)
                    refine lv_goto (tgt := 61) hx hb d_Mo_restart_136 (by decide) ?_
                    rw [nI_1] at hl
                    apply ih61 (ls := ls) (k61 := k61 + 1) (H := H) (locs := locs) (M10 := M24) (c61_3 := c61_3) <;> first | exact lv_sub hl [0, 2, 3, 4, 5] rfl | exact hX | exact hW | exact hS | exact hF27 | omega | assumption
                  · refine lv_aload_n hx hb d_Mo_restart_105 rfl (lv_at hl 3 rfl) ?_
                    refine lv_iload hx hb d_Mo_restart_106 (lv_at hl 0 rfl) ?_
                    obtain ⟨cdo28, mko28, f1o28, f2o28, f3o28, f4o28, f5o28, f6o28, f7o28, hf_0, hf_1, hf_2, hf_3, hf_4, hf_5, hf_6, hf_7, hk2o28, hk3o28, hk4o28, -, -⟩ := id hX
                    refine gw_calli hS (va_runV (As := [.int r16]) (rest := []) ⟨hx, hb, hml, hown, hts⟩ (m_owner l G M24 B lm sm E jb sz dr hX r16  hp_20) (cwV 1 hts (gw_gv mw225 mw226 mw227 mw228 mw224) rfl rfl rfl (by decide +kernel) ⟨Nat.le_of_ble_eq_true rfl, Nat.le_of_ble_eq_true rfl⟩) (gw_pv hE hB hS hW rfl hf_0) rfl rfl hl.1 rfl (lv_room (Nat.le_of_ble_eq_true rfl)) d_Mo_restart_108 ⟨Nat.le_of_ble_eq_true rfl, Nat.le_of_ble_eq_true rfl⟩) (fun r29 M30 H locs hw31 hW hS => ?_)
                    obtain ⟨hX, hfr32⟩ := hw31
                    have hF33 : gw_fg (gw_out [100, 101, 102, 103, 104, 105, 106, 107]) M M30 := gw_fg.tr hF27 (gw_fg.wk hfr32 (by decide))
                    clear hfr32
                    refine lv_iload_n hx hb d_Mo_restart_111 rfl (lv_at hl 4 rfl) ?_
                    refine lv_icmp_eq (tgt := 118) hx hb d_Mo_restart_112 (by decide) (fun c112 => ?_) (fun c112 => ?_)
                    · refine lv_aload_n hx hb d_Mo_restart_118 rfl (lv_at hl 3 rfl) ?_
                      refine lv_iload hx hb d_Mo_restart_119 (lv_at hl 0 rfl) ?_
                      refine lv_iconst (v := 2) hx hb d_Mo_restart_121 (by decide) ?_
                      obtain ⟨cdo34, mko34, f1o34, f2o34, f3o34, f4o34, f5o34, f6o34, f7o34, hf_0, hf_1, hf_2, hf_3, hf_4, hf_5, hf_6, hf_7, hk2o34, hk3o34, hk4o34, -, -⟩ := id hX
                      refine gw_callv hS (va_runV (As := [.int r16, .int 2]) (rest := []) ⟨hx, hb, hml, hown, hts⟩ (m_become l G M30 B lm sm E jb sz dr hX r16 2  hp_20) (cwV 2 hts (gw_gv mw240 mw241 mw242 mw228 mw239) rfl rfl rfl (by decide +kernel) ⟨Nat.le_of_ble_eq_true rfl, Nat.le_of_ble_eq_true rfl⟩) (gw_pv hE hB hS hW rfl hf_0) rfl rfl hl.1 rfl (lv_room (Nat.le_of_ble_eq_true rfl)) d_Mo_restart_122 ⟨Nat.le_of_ble_eq_true rfl, Nat.le_of_ble_eq_true rfl⟩) (fun M36 H locs hw37 hW hS => ?_)
                      obtain ⟨hX, hfr38⟩ := hw37
                      have hF39 : gw_fg (gw_out [100, 101, 102, 103, 104, 105, 106, 107]) M M36 := gw_fg.tr hF33 (gw_fg.wk hfr38 (by decide))
                      clear hfr38
                      refine lv_aload_n hx hb d_Mo_restart_125 rfl (lv_at hl 3 rfl) ?_
                      refine lv_iload_n hx hb d_Mo_restart_126 rfl (lv_at hl 4 rfl) ?_
                      obtain ⟨cdo40, mko40, f1o40, f2o40, f3o40, f4o40, f5o40, f6o40, f7o40, hf_0, hf_1, hf_2, hf_3, hf_4, hf_5, hf_6, hf_7, hk2o40, hk3o40, hk4o40, -, -⟩ := id hX
                      refine gw_put (ci := 5) (fs := [.int cdo40, .int (nI lm), .int sm, .int E, .ref (B 1), .ref (B 2), .int (nI sz), .ref (B 3), .ref (B 4), .ref (B 5), .ref (B 6), .int (nI jb), .int mko40, .ref (B 7), .int (nI dr)]) (v := .int (nI q)) (ty := .int) hx hb hts in_Mo t_Mo t_Mo_ok n_Mo hown hE.K hW hS hf_0 rfl 12 (by decide) (hts _ mw282) (fun _ h9 => h9) rfl (by decide +kernel) rfl rfl (Nat.le_of_ble_eq_true rfl) d_Mo_restart_127 (fun H locs hW hS => ?_)
                      have hXn : gm_X G B lm sm E jb sz dr (gw_up M36 (B 0) 100 (.inr (5, [.int cdo40, .int (nI lm), .int sm, .int E, .ref (B 1), .ref (B 2), .int (nI sz), .ref (B 3), .ref (B 4), .ref (B 5), .ref (B 6), .int (nI jb), .int (nI q), .ref (B 7), .int (nI dr)]))) := hX.up100 hf_0 (by omega)
                      have hF41 : gw_fg (gw_out [100, 101, 102, 103, 104, 105, 106, 107]) M (gw_up M36 (B 0) 100 (.inr (5, [.int cdo40, .int (nI lm), .int sm, .int E, .ref (B 1), .ref (B 2), .int (nI sz), .ref (B 3), .ref (B 4), .ref (B 5), .ref (B 6), .int (nI jb), .int (nI q), .ref (B 7), .int (nI dr)]))) := gw_fg.up hF39 hf_0 (show ¬ ((gw_out [100, 101, 102, 103, 104, 105, 106, 107]) 100) by decide) (show ¬ ((gw_out [100, 101, 102, 103, 104, 105, 106, 107]) 100) by decide)
                      obtain ⟨M42, eM42⟩ : ∃ z, z = gw_up M36 (B 0) 100 (.inr (5, [.int cdo40, .int (nI lm), .int sm, .int E, .ref (B 1), .ref (B 2), .int (nI sz), .ref (B 3), .ref (B 4), .ref (B 5), .ref (B 6), .int (nI jb), .int (nI q), .ref (B 7), .int (nI dr)])) := ⟨_, rfl⟩
                      replace hW : gw_P G.1 vwCl G.2.2.2 M42 H := by rw [eM42]; exact hW
                      have hf_1 : M42 (B 1) = some (101, .inl (G.2.1 0, 10000, .inl f1o40)) := by rw [eM42]; exact gw_keep hf_1 hf_0 (by decide)
                      have hf_2 : M42 (B 2) = some (102, .inl (G.2.1 0, 300, .inl f2o40)) := by rw [eM42]; exact gw_keep hf_2 hf_0 (by decide)
                      have hf_3 : M42 (B 3) = some (103, .inl (G.2.1 0, 10240, .inl f3o40)) := by rw [eM42]; exact gw_keep hf_3 hf_0 (by decide)
                      have hf_4 : M42 (B 4) = some (104, .inl (G.2.1 0, 41, .inl f4o40)) := by rw [eM42]; exact gw_keep hf_4 hf_0 (by decide)
                      have hf_5 : M42 (B 5) = some (105, .inl (G.2.1 0, 41, .inl f5o40)) := by rw [eM42]; exact gw_keep hf_5 hf_0 (by decide)
                      have hf_6 : M42 (B 6) = some (106, .inl (G.2.1 0, 4100, .inl f6o40)) := by rw [eM42]; exact gw_keep hf_6 hf_0 (by decide)
                      have hf_7 : M42 (B 7) = some (107, .inl (G.2.1 0, 2048, .inl f7o40)) := by rw [eM42]; exact gw_keep hf_7 hf_0 (by decide)
                      have hf_0 : M42 (B 0) = some (100, .inr (5, [.int cdo40, .int (nI lm), .int sm, .int E, .ref (B 1), .ref (B 2), .int (nI sz), .ref (B 3), .ref (B 4), .ref (B 5), .ref (B 6), .int (nI jb), .int (nI q), .ref (B 7), .int (nI dr)])) := by rw [eM42]; exact gw_up_self _ _ _ _
                      rw [← eM42] at hF41
                      rw [← eM42] at hXn
                      replace hX := hXn
                      clear hXn
                      refine lv_iinc (v := c61_3 + 1) (lv' := [(3, .int (c61_3 + 1)), (5, .int r16), (4, .int (nI k61)), (0, .ref (B 0)), (1, .int (nI q)), (2, .int p)]) hx hb d_Mo_restart_130 hl (k := 2) rfl rfl (by decide) rfl (fun ls hl => ?_)
                      refine lv_iinc (v := (nI k61) + 1) (lv' := [(4, .int ((nI k61) + 1)), (3, .int (c61_3 + 1)), (5, .int r16), (0, .ref (B 0)), (1, .int (nI q)), (2, .int p)]) hx hb d_Mo_restart_133 hl (k := 2) rfl rfl (by decide) rfl (fun ls hl => ?_)
                      refine lv_goto (tgt := 61) hx hb d_Mo_restart_136 (by decide) ?_
                      rw [nI_1] at hl
                      apply ih61 (ls := ls) (k61 := k61 + 1) (H := H) (locs := locs) (M10 := M42) (c61_3 := c61_3 + 1) <;> first | exact lv_sub hl [0, 1, 3, 4, 5] rfl | exact hX | exact hW | exact hS | exact hF41 | omega | assumption
                    · refine lv_goto (tgt := 133) hx hb d_Mo_restart_115 (by decide) ?_
                      refine lv_iinc (v := (nI k61) + 1) (lv' := [(4, .int ((nI k61) + 1)), (5, .int r16), (3, .int c61_3), (0, .ref (B 0)), (1, .int (nI q)), (2, .int p)]) hx hb d_Mo_restart_133 hl (k := 1) rfl rfl (by decide) rfl (fun ls hl => ?_)
                      refine lv_goto (tgt := 61) hx hb d_Mo_restart_136 (by decide) ?_
                      rw [nI_1] at hl
                      apply ih61 (ls := ls) (k61 := k61 + 1) (H := H) (locs := locs) (M10 := M30) (c61_3 := c61_3) <;> first | exact lv_sub hl [0, 2, 3, 4, 5] rfl | exact hX | exact hW | exact hS | exact hF33 | omega | assumption
          · refine lv_iconst (v := -1) hx hb d_Mo_restart_54 (by decide) ?_
            exact gw_iret hx hb hr hlocks hS hW (Nat.le_of_ble_eq_true rfl) (Nat.le_of_ble_eq_true rfl) d_Mo_restart_55 ⟨hX, hF13⟩
      · refine lv_aload_n hx hb d_Mo_restart_29 rfl (lv_at hl 0 rfl) ?_
        refine gw_get (ci := 5) (fs := [.int cdo14, .int (nI lm), .int sm, .int E, .ref (B 1), .ref (B 2), .int (nI sz), .ref (B 3), .ref (B 4), .ref (B 5), .ref (B 6), .int (nI jb), .int mko14, .ref (B 7), .int (nI dr)]) hx hb hts in_Mo hown hE.K hW hf_0 rfl 12 (by decide) (hts _ mw282) (fun _ h9 => h9) rfl d_Mo_restart_30 ?_
        refine lv_iload_n hx hb d_Mo_restart_33 rfl (lv_at hl 1 rfl) ?_
        refine lv_icmp_ne (tgt := 54) hx hb d_Mo_restart_34 (by decide) (fun c34 => ?_) (fun c34 => ?_)
        · refine lv_iconst (v := -1) hx hb d_Mo_restart_54 (by decide) ?_
          exact gw_iret hx hb hr hlocks hS hW (Nat.le_of_ble_eq_true rfl) (Nat.le_of_ble_eq_true rfl) d_Mo_restart_55 ⟨hX, hF13⟩
        · refine lv_iload_n hx hb d_Mo_restart_37 rfl (lv_at hl 2 rfl) ?_
          refine lv_iconst (v := 1) hx hb d_Mo_restart_38 (by decide) ?_
          refine lv_icmp_lt (tgt := 54) hx hb d_Mo_restart_39 (by decide) (fun c39 => ?_) (fun c39 => ?_)
          · refine lv_iconst (v := -1) hx hb d_Mo_restart_54 (by decide) ?_
            exact gw_iret hx hb hr hlocks hS hW (Nat.le_of_ble_eq_true rfl) (Nat.le_of_ble_eq_true rfl) d_Mo_restart_55 ⟨hX, hF13⟩
          · refine lv_iload_n hx hb d_Mo_restart_42 rfl (lv_at hl 2 rfl) ?_
            refine lv_aload_n hx hb d_Mo_restart_43 rfl (lv_at hl 0 rfl) ?_
            refine gw_get (ci := 5) (fs := [.int cdo14, .int (nI lm), .int sm, .int E, .ref (B 1), .ref (B 2), .int (nI sz), .ref (B 3), .ref (B 4), .ref (B 5), .ref (B 6), .int (nI jb), .int mko14, .ref (B 7), .int (nI dr)]) hx hb hts in_Mo hown hE.K hW hf_0 rfl 9 (by decide) (hts _ mw283) (fun _ h9 => h9) rfl d_Mo_restart_44 ?_
            refine lv_iload_n hx hb d_Mo_restart_47 rfl (lv_at hl 1 rfl) ?_
            refine gw_iald (i := nI q) hx hb hE.K hW 0 hf_5 rfl (vp_in_nI (by omega) (by omega)) d_Mo_restart_48 ?_
            refine lv_iconst (v := 1) hx hb d_Mo_restart_49 (by decide) ?_
            refine lv_iadd hx hb d_Mo_restart_50 ?_
            refine lv_icmp_le (tgt := 56) hx hb d_Mo_restart_51 (by decide) (fun c51 => ?_) (fun c51 => ?_)
            · refine lv_iconst (v := 0) hx hb d_Mo_restart_56 (by decide) ?_
              refine lv_istore_n (lv' := [(3, .int 0), (0, .ref (B 0)), (1, .int (nI q)), (2, .int p)]) hx hb d_Mo_restart_57 rfl hl (by decide) rfl (fun ls hl => ?_)
              refine lv_iconst (v := 1) hx hb d_Mo_restart_58 (by decide) ?_
              refine lv_istore (lv' := [(4, .int 1), (3, .int 0), (0, .ref (B 0)), (1, .int (nI q)), (2, .int p)]) hx hb d_Mo_restart_59 hl (by decide) rfl (fun ls hl => ?_)
              obtain ⟨k61, ek61⟩ : ∃ z : Nat, z = 1 := ⟨_, rfl⟩
              obtain ⟨c61_3, ec61_3⟩ : ∃ z : Int32, z = 0 := ⟨_, rfl⟩
              replace hl : lv_has ls 6 [(4, .int (nI k61)), (3, .int c61_3), (0, .ref (B 0)), (1, .int (nI q)), (2, .int p)] := by subst ek61; subst ec61_3; exact lv_sub hl [0, 1, 2, 3, 4] rfl
              have hk61 : 1 ≤ k61 ∧ k61 ≤ 100 := by omega
              clear ek61 ec61_3
              clear hf_0 hf_1 hf_2 hf_3 hf_4 hf_5 hf_6 hf_7
              try clear eM10
              have hF := hF13
              clear hF13
              obtain ⟨n61, hn61⟩ : ∃ z : Nat, 100 - k61 < z := ⟨_, Nat.lt_succ_self _⟩
              induction n61 generalizing k61 ls H locs M10 c61_3 with
              | zero => exact absurd hn61 (Nat.not_lt_zero _)
              | succ n61 ih61 =>
                refine lv_iload hx hb d_Mo_restart_61 (lv_at hl 0 rfl) ?_
                refine lv_bipush (v := 100) hx hb d_Mo_restart_63 (by decide) ?_
                refine lv_icmp_ge (tgt := 139) hx hb d_Mo_restart_65 (by decide) (fun c65 => ?_) (fun c65 => ?_)
                · refine lv_iload_n hx hb d_Mo_restart_139 rfl (lv_at hl 1 rfl) ?_
                  exact gw_iret hx hb hr hlocks hS hW (Nat.le_of_ble_eq_true rfl) (Nat.le_of_ble_eq_true rfl) d_Mo_restart_140 ⟨hX, hF⟩
                · have hlt := gm_lt c65 gm_c100 (by omega) (by omega)
                  refine lv_aload_n hx hb d_Mo_restart_68 rfl (lv_at hl 2 rfl) ?_
                  refine lv_iload_n hx hb d_Mo_restart_69 rfl (lv_at hl 3 rfl) ?_
                  refine lv_iload hx hb d_Mo_restart_70 (lv_at hl 0 rfl) ?_
                  obtain ⟨cdo43, mko43, f1o43, f2o43, f3o43, f4o43, f5o43, f6o43, f7o43, hf_0, hf_1, hf_2, hf_3, hf_4, hf_5, hf_6, hf_7, hk2o43, hk3o43, hk4o43, -, -⟩ := id hX
                  refine gw_calli hS (va_runV (As := [.int (nI q), .int (nI k61)]) (rest := []) ⟨hx, hb, hml, hown, hts⟩ (m_numberOf l G M10 B lm sm E jb sz dr hX q k61  (by omega) (by omega) (by omega) (by omega)) (cwV 2 hts (gw_gv mw275 mw276 mw277 mw228 mw274) rfl rfl rfl (by decide +kernel) ⟨Nat.le_of_ble_eq_true rfl, Nat.le_of_ble_eq_true rfl⟩) (gw_pv hE hB hS hW rfl hf_0) rfl rfl hl.1 rfl (lv_room (Nat.le_of_ble_eq_true rfl)) d_Mo_restart_72 ⟨Nat.le_of_ble_eq_true rfl, Nat.le_of_ble_eq_true rfl⟩) (fun r44 M45 H locs hw46 hW hS => ?_)
                  obtain ⟨hp_48, hX, hfr47⟩ := hw46
                  have hF49 : gw_fg (gw_out [100, 101, 102, 103, 104, 105, 106, 107]) M M45 := gw_fg.tr hF (gw_fg.wk hfr47 (by decide))
                  clear hfr47
                  refine lv_istore (lv' := [(5, .int r44), (4, .int (nI k61)), (3, .int c61_3), (0, .ref (B 0)), (1, .int (nI q)), (2, .int p)]) hx hb d_Mo_restart_75 hl (by decide) rfl (fun ls hl => ?_)
                  refine lv_aload_n hx hb d_Mo_restart_77 rfl (lv_at hl 3 rfl) ?_
                  obtain ⟨cdo50, mko50, f1o50, f2o50, f3o50, f4o50, f5o50, f6o50, f7o50, hf_0, hf_1, hf_2, hf_3, hf_4, hf_5, hf_6, hf_7, hk2o50, hk3o50, hk4o50, -, -⟩ := id hX
                  refine gw_get (ci := 5) (fs := [.int cdo50, .int (nI lm), .int sm, .int E, .ref (B 1), .ref (B 2), .int (nI sz), .ref (B 3), .ref (B 4), .ref (B 5), .ref (B 6), .int (nI jb), .int mko50, .ref (B 7), .int (nI dr)]) hx hb hts in_Mo hown hE.K hW hf_0 rfl 10 (by decide) (hts _ mw273) (fun _ h9 => h9) rfl d_Mo_restart_78 ?_
                  refine lv_bipush (v := 100) hx hb d_Mo_restart_81 (by decide) ?_
                  refine lv_iload_n hx hb d_Mo_restart_83 rfl (lv_at hl 4 rfl) ?_
                  refine lv_imul hx hb d_Mo_restart_84 ?_
                  refine lv_iload hx hb d_Mo_restart_85 (lv_at hl 1 rfl) ?_
                  refine lv_iadd hx hb d_Mo_restart_87 ?_
                  refine lv_iconst (v := 1) hx hb d_Mo_restart_88 (by decide) ?_
                  refine lv_isub hx hb d_Mo_restart_89 ?_
                  refine gw_iald (i := ((100 * (nI q)) + (nI k61)) - 1) hx hb hE.K hW 0 hf_6 rfl (gm_mi (by omega) (by omega) (by omega)) d_Mo_restart_90 ?_
                  refine lv_iload_n hx hb d_Mo_restart_91 rfl (lv_at hl 5 rfl) ?_
                  refine lv_icmp_le (tgt := 133) hx hb d_Mo_restart_92 (by decide) (fun c92 => ?_) (fun c92 => ?_)
                  · refine lv_iinc (v := (nI k61) + 1) (lv' := [(4, .int ((nI k61) + 1)), (5, .int r44), (3, .int c61_3), (0, .ref (B 0)), (1, .int (nI q)), (2, .int p)]) hx hb d_Mo_restart_133 hl (k := 1) rfl rfl (by decide) rfl (fun ls hl => ?_)
                    refine lv_goto (tgt := 61) hx hb d_Mo_restart_136 (by decide) ?_
                    rw [nI_1] at hl
                    apply ih61 (ls := ls) (k61 := k61 + 1) (H := H) (locs := locs) (M10 := M45) (c61_3 := c61_3) <;> first | exact lv_sub hl [0, 2, 3, 4, 5] rfl | exact hX | exact hW | exact hS | exact hF49 | omega | assumption
                  · refine lv_aload_n hx hb d_Mo_restart_95 rfl (lv_at hl 3 rfl) ?_
                    refine lv_iload hx hb d_Mo_restart_96 (lv_at hl 0 rfl) ?_
                    refine gw_calli hS (va_runV (As := [.int r44]) (rest := []) ⟨hx, hb, hml, hown, hts⟩ (m_what l G M45 B lm sm E jb sz dr hX r44  hp_48) (cwV 1 hts (gw_gv mw255 mw256 mw257 mw228 mw254) rfl rfl rfl (by decide +kernel) ⟨Nat.le_of_ble_eq_true rfl, Nat.le_of_ble_eq_true rfl⟩) (gw_pv hE hB hS hW rfl hf_0) rfl rfl hl.1 rfl (lv_room (Nat.le_of_ble_eq_true rfl)) d_Mo_restart_98 ⟨Nat.le_of_ble_eq_true rfl, Nat.le_of_ble_eq_true rfl⟩) (fun r51 M52 H locs hw53 hW hS => ?_)
                    obtain ⟨hX, hfr54⟩ := hw53
                    have hF55 : gw_fg (gw_out [100, 101, 102, 103, 104, 105, 106, 107]) M M52 := gw_fg.tr hF49 (gw_fg.wk hfr54 (by decide))
                    clear hfr54
                    refine lv_iconst (v := 3) hx hb d_Mo_restart_101 (by decide) ?_
                    refine lv_icmp_ne (tgt := 133) hx hb d_Mo_restart_102 (by decide) (fun c102 => ?_) (fun c102 => ?_)
                    · refine lv_iinc (v := (nI k61) + 1) (lv' := [(4, .int ((nI k61) + 1)), (5, .int r44), (3, .int c61_3), (0, .ref (B 0)), (1, .int (nI q)), (2, .int p)]) hx hb d_Mo_restart_133 hl (k := 1) rfl rfl (by decide) rfl (fun ls hl => ?_)
                      refine lv_goto (tgt := 61) hx hb d_Mo_restart_136 (by decide) ?_
                      rw [nI_1] at hl
                      apply ih61 (ls := ls) (k61 := k61 + 1) (H := H) (locs := locs) (M10 := M52) (c61_3 := c61_3) <;> first | exact lv_sub hl [0, 2, 3, 4, 5] rfl | exact hX | exact hW | exact hS | exact hF55 | omega | assumption
                    · refine lv_aload_n hx hb d_Mo_restart_105 rfl (lv_at hl 3 rfl) ?_
                      refine lv_iload hx hb d_Mo_restart_106 (lv_at hl 0 rfl) ?_
                      obtain ⟨cdo56, mko56, f1o56, f2o56, f3o56, f4o56, f5o56, f6o56, f7o56, hf_0, hf_1, hf_2, hf_3, hf_4, hf_5, hf_6, hf_7, hk2o56, hk3o56, hk4o56, -, -⟩ := id hX
                      refine gw_calli hS (va_runV (As := [.int r44]) (rest := []) ⟨hx, hb, hml, hown, hts⟩ (m_owner l G M52 B lm sm E jb sz dr hX r44  hp_48) (cwV 1 hts (gw_gv mw225 mw226 mw227 mw228 mw224) rfl rfl rfl (by decide +kernel) ⟨Nat.le_of_ble_eq_true rfl, Nat.le_of_ble_eq_true rfl⟩) (gw_pv hE hB hS hW rfl hf_0) rfl rfl hl.1 rfl (lv_room (Nat.le_of_ble_eq_true rfl)) d_Mo_restart_108 ⟨Nat.le_of_ble_eq_true rfl, Nat.le_of_ble_eq_true rfl⟩) (fun r57 M58 H locs hw59 hW hS => ?_)
                      obtain ⟨hX, hfr60⟩ := hw59
                      have hF61 : gw_fg (gw_out [100, 101, 102, 103, 104, 105, 106, 107]) M M58 := gw_fg.tr hF55 (gw_fg.wk hfr60 (by decide))
                      clear hfr60
                      refine lv_iload_n hx hb d_Mo_restart_111 rfl (lv_at hl 4 rfl) ?_
                      refine lv_icmp_eq (tgt := 118) hx hb d_Mo_restart_112 (by decide) (fun c112 => ?_) (fun c112 => ?_)
                      · refine lv_aload_n hx hb d_Mo_restart_118 rfl (lv_at hl 3 rfl) ?_
                        refine lv_iload hx hb d_Mo_restart_119 (lv_at hl 0 rfl) ?_
                        refine lv_iconst (v := 2) hx hb d_Mo_restart_121 (by decide) ?_
                        obtain ⟨cdo62, mko62, f1o62, f2o62, f3o62, f4o62, f5o62, f6o62, f7o62, hf_0, hf_1, hf_2, hf_3, hf_4, hf_5, hf_6, hf_7, hk2o62, hk3o62, hk4o62, -, -⟩ := id hX
                        refine gw_callv hS (va_runV (As := [.int r44, .int 2]) (rest := []) ⟨hx, hb, hml, hown, hts⟩ (m_become l G M58 B lm sm E jb sz dr hX r44 2  hp_48) (cwV 2 hts (gw_gv mw240 mw241 mw242 mw228 mw239) rfl rfl rfl (by decide +kernel) ⟨Nat.le_of_ble_eq_true rfl, Nat.le_of_ble_eq_true rfl⟩) (gw_pv hE hB hS hW rfl hf_0) rfl rfl hl.1 rfl (lv_room (Nat.le_of_ble_eq_true rfl)) d_Mo_restart_122 ⟨Nat.le_of_ble_eq_true rfl, Nat.le_of_ble_eq_true rfl⟩) (fun M64 H locs hw65 hW hS => ?_)
                        obtain ⟨hX, hfr66⟩ := hw65
                        have hF67 : gw_fg (gw_out [100, 101, 102, 103, 104, 105, 106, 107]) M M64 := gw_fg.tr hF61 (gw_fg.wk hfr66 (by decide))
                        clear hfr66
                        refine lv_aload_n hx hb d_Mo_restart_125 rfl (lv_at hl 3 rfl) ?_
                        refine lv_iload_n hx hb d_Mo_restart_126 rfl (lv_at hl 4 rfl) ?_
                        obtain ⟨cdo68, mko68, f1o68, f2o68, f3o68, f4o68, f5o68, f6o68, f7o68, hf_0, hf_1, hf_2, hf_3, hf_4, hf_5, hf_6, hf_7, hk2o68, hk3o68, hk4o68, -, -⟩ := id hX
                        refine gw_put (ci := 5) (fs := [.int cdo68, .int (nI lm), .int sm, .int E, .ref (B 1), .ref (B 2), .int (nI sz), .ref (B 3), .ref (B 4), .ref (B 5), .ref (B 6), .int (nI jb), .int mko68, .ref (B 7), .int (nI dr)]) (v := .int (nI q)) (ty := .int) hx hb hts in_Mo t_Mo t_Mo_ok n_Mo hown hE.K hW hS hf_0 rfl 12 (by decide) (hts _ mw282) (fun _ h9 => h9) rfl (by decide +kernel) rfl rfl (Nat.le_of_ble_eq_true rfl) d_Mo_restart_127 (fun H locs hW hS => ?_)
                        have hXn : gm_X G B lm sm E jb sz dr (gw_up M64 (B 0) 100 (.inr (5, [.int cdo68, .int (nI lm), .int sm, .int E, .ref (B 1), .ref (B 2), .int (nI sz), .ref (B 3), .ref (B 4), .ref (B 5), .ref (B 6), .int (nI jb), .int (nI q), .ref (B 7), .int (nI dr)]))) := hX.up100 hf_0 (by omega)
                        have hF69 : gw_fg (gw_out [100, 101, 102, 103, 104, 105, 106, 107]) M (gw_up M64 (B 0) 100 (.inr (5, [.int cdo68, .int (nI lm), .int sm, .int E, .ref (B 1), .ref (B 2), .int (nI sz), .ref (B 3), .ref (B 4), .ref (B 5), .ref (B 6), .int (nI jb), .int (nI q), .ref (B 7), .int (nI dr)]))) := gw_fg.up hF67 hf_0 (show ¬ ((gw_out [100, 101, 102, 103, 104, 105, 106, 107]) 100) by decide) (show ¬ ((gw_out [100, 101, 102, 103, 104, 105, 106, 107]) 100) by decide)
                        obtain ⟨M70, eM70⟩ : ∃ z, z = gw_up M64 (B 0) 100 (.inr (5, [.int cdo68, .int (nI lm), .int sm, .int E, .ref (B 1), .ref (B 2), .int (nI sz), .ref (B 3), .ref (B 4), .ref (B 5), .ref (B 6), .int (nI jb), .int (nI q), .ref (B 7), .int (nI dr)])) := ⟨_, rfl⟩
                        replace hW : gw_P G.1 vwCl G.2.2.2 M70 H := by rw [eM70]; exact hW
                        have hf_1 : M70 (B 1) = some (101, .inl (G.2.1 0, 10000, .inl f1o68)) := by rw [eM70]; exact gw_keep hf_1 hf_0 (by decide)
                        have hf_2 : M70 (B 2) = some (102, .inl (G.2.1 0, 300, .inl f2o68)) := by rw [eM70]; exact gw_keep hf_2 hf_0 (by decide)
                        have hf_3 : M70 (B 3) = some (103, .inl (G.2.1 0, 10240, .inl f3o68)) := by rw [eM70]; exact gw_keep hf_3 hf_0 (by decide)
                        have hf_4 : M70 (B 4) = some (104, .inl (G.2.1 0, 41, .inl f4o68)) := by rw [eM70]; exact gw_keep hf_4 hf_0 (by decide)
                        have hf_5 : M70 (B 5) = some (105, .inl (G.2.1 0, 41, .inl f5o68)) := by rw [eM70]; exact gw_keep hf_5 hf_0 (by decide)
                        have hf_6 : M70 (B 6) = some (106, .inl (G.2.1 0, 4100, .inl f6o68)) := by rw [eM70]; exact gw_keep hf_6 hf_0 (by decide)
                        have hf_7 : M70 (B 7) = some (107, .inl (G.2.1 0, 2048, .inl f7o68)) := by rw [eM70]; exact gw_keep hf_7 hf_0 (by decide)
                        have hf_0 : M70 (B 0) = some (100, .inr (5, [.int cdo68, .int (nI lm), .int sm, .int E, .ref (B 1), .ref (B 2), .int (nI sz), .ref (B 3), .ref (B 4), .ref (B 5), .ref (B 6), .int (nI jb), .int (nI q), .ref (B 7), .int (nI dr)])) := by rw [eM70]; exact gw_up_self _ _ _ _
                        rw [← eM70] at hF69
                        rw [← eM70] at hXn
                        replace hX := hXn
                        clear hXn
                        refine lv_iinc (v := c61_3 + 1) (lv' := [(3, .int (c61_3 + 1)), (5, .int r44), (4, .int (nI k61)), (0, .ref (B 0)), (1, .int (nI q)), (2, .int p)]) hx hb d_Mo_restart_130 hl (k := 2) rfl rfl (by decide) rfl (fun ls hl => ?_)
                        refine lv_iinc (v := (nI k61) + 1) (lv' := [(4, .int ((nI k61) + 1)), (3, .int (c61_3 + 1)), (5, .int r44), (0, .ref (B 0)), (1, .int (nI q)), (2, .int p)]) hx hb d_Mo_restart_133 hl (k := 2) rfl rfl (by decide) rfl (fun ls hl => ?_)
                        refine lv_goto (tgt := 61) hx hb d_Mo_restart_136 (by decide) ?_
                        rw [nI_1] at hl
                        apply ih61 (ls := ls) (k61 := k61 + 1) (H := H) (locs := locs) (M10 := M70) (c61_3 := c61_3 + 1) <;> first | exact lv_sub hl [0, 1, 3, 4, 5] rfl | exact hX | exact hW | exact hS | exact hF69 | omega | assumption
                      · refine lv_goto (tgt := 133) hx hb d_Mo_restart_115 (by decide) ?_
                        refine lv_iinc (v := (nI k61) + 1) (lv' := [(4, .int ((nI k61) + 1)), (5, .int r44), (3, .int c61_3), (0, .ref (B 0)), (1, .int (nI q)), (2, .int p)]) hx hb d_Mo_restart_133 hl (k := 1) rfl rfl (by decide) rfl (fun ls hl => ?_)
                        refine lv_goto (tgt := 61) hx hb d_Mo_restart_136 (by decide) ?_
                        rw [nI_1] at hl
                        apply ih61 (ls := ls) (k61 := k61 + 1) (H := H) (locs := locs) (M10 := M58) (c61_3 := c61_3) <;> first | exact lv_sub hl [0, 2, 3, 4, 5] rfl | exact hX | exact hW | exact hS | exact hF61 | omega | assumption
            · refine lv_iconst (v := -1) hx hb d_Mo_restart_54 (by decide) ?_
              exact gw_iret hx hb hr hlocks hS hW (Nat.le_of_ble_eq_true rfl) (Nat.le_of_ble_eq_true rfl) d_Mo_restart_55 ⟨hX, hF13⟩
    · exact absurd c17 (by decide)
  · refine lv_iconst (v := 1) hx hb d_Mo_restart_9 (by decide) ?_
    refine lv_goto (tgt := 14) hx hb d_Mo_restart_10 (by decide) ?_
    obtain ⟨cdo71, mko71, f1o71, f2o71, f3o71, f4o71, f5o71, f6o71, f7o71, hf_0, hf_1, hf_2, hf_3, hf_4, hf_5, hf_6, hf_7, hk2o71, hk3o71, hk4o71, -, -⟩ := id hX
    refine gw_calli hS (va_runV (As := [.int 1]) (rest := []) ⟨hx, hb, hml, hown, hts⟩ (m_fails l G M3 B lm sm E jb sz dr hX 1  rfl) (cwV 1 hts (gw_gv mw270 mw271 mw272 mw228 mw269) rfl rfl rfl (by decide +kernel) ⟨Nat.le_of_ble_eq_true rfl, Nat.le_of_ble_eq_true rfl⟩) (gw_pv hE hB hS hW rfl hf_0) rfl rfl hl.1 rfl (lv_room (Nat.le_of_ble_eq_true rfl)) d_Mo_restart_14 ⟨Nat.le_of_ble_eq_true rfl, Nat.le_of_ble_eq_true rfl⟩) (fun r72 M73 H locs hw74 hW hS => ?_)
    obtain ⟨rfl, hX, hfr75⟩ := hw74
    have hF76 : gw_fg (gw_out [100, 101, 102, 103, 104, 105, 106, 107]) M M73 := gw_fg.tr hF7 (gw_fg.wk hfr75 (by decide))
    clear hfr75
    refine lv_if_eq (tgt := 22) hx hb d_Mo_restart_17 (by decide) (fun c17 => ?_) (fun c17 => ?_)
    · exact absurd c17 (by decide)
    · refine lv_iconst (v := 0) hx hb d_Mo_restart_20 (by decide) ?_
      exact gw_iret hx hb hr hlocks hS hW (Nat.le_of_ble_eq_true rfl) (Nat.le_of_ble_eq_true rfl) d_Mo_restart_21 ⟨hX, hF76⟩
