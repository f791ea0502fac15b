set_option maxHeartbeats 4000000 in
set_option maxRecDepth 100000 in
theorem m_enter (l : Launch) (G : gw_G) (M : gw_M) (B : Nat → Nat) (lm : Nat) (sm E : Int32) (jb sz dr : Nat) (hX : gm_X G B lm sm E jb sz dr M) (k : Int32) (hk : gm_k k) (hsz : sz ≤ lm) (hdr : dr + sz ≤ 600) : Met l y_Mo_enter [.code y_Mo_enter b_Mo_enter 6 none] ({ frames := 2, cells := 0, slots := 0, locals := 46 }) (gw_Pc G M [.ref (B 0), .int k]) (gw_Qv G (fun M2 => ∃ sz2 : Nat, ∃ dr2 : Nat, sz2 ≤ lm ∧ dr2 + sz2 ≤ dr + sz + 1 ∧ gm_X G B lm sm E jb sz2 dr2 M2 ∧ gw_fg (gw_out [100, 101, 102, 103, 104, 105, 106, 107]) M M2)) 0 0 (gw_A G) := by
  refine gw_start (by decide) (Nat.le_of_ble_eq_true rfl) (fun p9 e9 s m b9 mt9 c9 hx hb hr hml hown hlocks hin hE hB hW ls hl => ?_)
  have hts := hE.ts ([.ref (B 0), .int k] : List Value).toArray
  have hl : lv_has ls 6 [(0, .ref (B 0)), (1, .int k)] := hl
  have hown : s.vm.findClass "GenerationsModel" = some m.cls := hown
  have hj9 := hX.jb40
  have hm9 := hX.lm255
  refine gw_gen (I := fun z => gm_X G B lm sm E jb sz dr z) (P := gw_out [100, 101, 102, 103, 104, 105, 106, 107]) hX hW (fun H locs Mw hW hS hX hF => ?_)
  have hX : gm_X G B lm sm E jb sz dr Mw := hX
  refine lv_iconst (v := 0) hx hb d_Mo_enter_0 (by decide) ?_
  refine lv_istore_n (lv' := [(2, .int 0), (0, .ref (B 0)), (1, .int k)]) hx hb d_Mo_enter_1 rfl hl (by decide) rfl (fun ls hl => ?_)
  refine lv_iconst (v := 0) hx hb d_Mo_enter_2 (by decide) ?_
  refine lv_istore_n (lv' := [(3, .int 0), (2, .int 0), (0, .ref (B 0)), (1, .int k)]) hx hb d_Mo_enter_3 rfl hl (by decide) rfl (fun ls hl => ?_)
  obtain ⟨k4, ek4⟩ : ∃ z : Nat, z = 0 := ⟨_, rfl⟩
  obtain ⟨p4_2, ep4_2⟩ : ∃ z : Nat, z = 0 := ⟨_, rfl⟩
  replace hl : lv_has ls 6 [(3, .int (nI k4)), (2, .int (nI p4_2)), (0, .ref (B 0)), (1, .int k)] := by subst ek4; subst ep4_2; exact lv_sub hl [0, 1, 2, 3] rfl
  have hk4 : k4 ≤ sz ∧ p4_2 ≤ k4 := by omega
  clear ek4 ep4_2
  obtain ⟨n4, hn4⟩ : ∃ z : Nat, sz - k4 < z := ⟨_, Nat.lt_succ_self _⟩
  induction n4 generalizing k4 ls H locs Mw p4_2 with
  | zero => exact absurd hn4 (Nat.not_lt_zero _)
  | succ n4 ih4 =>
    refine lv_iload_n hx hb d_Mo_enter_4 rfl (lv_at hl 0 rfl) ?_
    refine lv_aload_n hx hb d_Mo_enter_5 rfl (lv_at hl 2 rfl) ?_
    obtain ⟨cdo1, mko1, f1o1, f2o1, f3o1, f4o1, f5o1, f6o1, f7o1, hf_0, hf_1, hf_2, hf_3, hf_4, hf_5, hf_6, hf_7, hk2o1, hk3o1, hk4o1, -, -⟩ := id hX
    refine gw_get (ci := 5) (fs := [.int cdo1, .int (nI lm), .int sm, .int E, .ref (B 1), .ref (B 2), .int (nI sz), .ref (B 3), .ref (B 4), .ref (B 5), .ref (B 6), .int (nI jb), .int mko1, .ref (B 7), .int (nI dr)]) hx hb hts in_Mo hown hE.K hW hf_0 rfl 6 (by decide) (hts _ mw237) (fun _ h9 => h9) rfl d_Mo_enter_6 ?_
    refine lv_icmp_ge (tgt := 39) hx hb d_Mo_enter_9 (by decide) (fun c9 => ?_) (fun c9 => ?_)
    · refine lv_aload_n hx hb d_Mo_enter_39 rfl (lv_at hl 2 rfl) ?_
      refine gw_get (ci := 5) (fs := [.int cdo1, .int (nI lm), .int sm, .int E, .ref (B 1), .ref (B 2), .int (nI sz), .ref (B 3), .ref (B 4), .ref (B 5), .ref (B 6), .int (nI jb), .int mko1, .ref (B 7), .int (nI dr)]) hx hb hts in_Mo hown hE.K hW hf_0 rfl 6 (by decide) (hts _ mw237) (fun _ h9 => h9) rfl d_Mo_enter_40 ?_
      refine lv_istore_n (lv' := [(3, .int (nI sz)), (2, .int (nI p4_2)), (0, .ref (B 0)), (1, .int k)]) hx hb d_Mo_enter_43 rfl hl (by decide) rfl (fun ls hl => ?_)
      obtain ⟨k44, ek44⟩ : ∃ z : Nat, z = sz := ⟨_, rfl⟩
      replace hl : lv_has ls 6 [(3, .int (nI k44)), (2, .int (nI p4_2)), (0, .ref (B 0)), (1, .int k)] := by subst ek44; exact lv_sub hl [0, 1, 2, 3] rfl
      have hk44 : k44 ≤ sz := by omega
      clear ek44
      clear hf_0 hf_1 hf_2 hf_3 hf_4 hf_5 hf_6 hf_7
      obtain ⟨n44, hn44⟩ : ∃ z : Nat, k44 < z := ⟨_, Nat.lt_succ_self _⟩
      induction n44 generalizing k44 ls H locs Mw with
      | zero => exact absurd hn44 (Nat.not_lt_zero _)
      | succ n44 ih44 =>
        refine lv_iload_n hx hb d_Mo_enter_44 rfl (lv_at hl 0 rfl) ?_
        refine lv_iload_n hx hb d_Mo_enter_45 rfl (lv_at hl 1 rfl) ?_
        refine lv_icmp_le (tgt := 69) hx hb d_Mo_enter_46 (by decide) (fun c46 => ?_) (fun c46 => ?_)
        · refine lv_aload_n hx hb d_Mo_enter_69 rfl (lv_at hl 2 rfl) ?_
          obtain ⟨cdo2, mko2, f1o2, f2o2, f3o2, f4o2, f5o2, f6o2, f7o2, hf_0, hf_1, hf_2, hf_3, hf_4, hf_5, hf_6, hf_7, hk2o2, hk3o2, hk4o2, -, -⟩ := id hX
          refine gw_get (ci := 5) (fs := [.int cdo2, .int (nI lm), .int sm, .int E, .ref (B 1), .ref (B 2), .int (nI sz), .ref (B 3), .ref (B 4), .ref (B 5), .ref (B 6), .int (nI jb), .int mko2, .ref (B 7), .int (nI dr)]) hx hb hts in_Mo hown hE.K hW hf_0 rfl 5 (by decide) (hts _ mw238) (fun _ h9 => h9) rfl d_Mo_enter_70 ?_
          refine lv_iload_n hx hb d_Mo_enter_73 rfl (lv_at hl 1 rfl) ?_
          refine lv_iload_n hx hb d_Mo_enter_74 rfl (lv_at hl 3 rfl) ?_
          refine gw_iast (i := nI p4_2) (x := k) hx hb hE.K hW hS 0 hf_2 rfl (vp_in_nI (by omega) (by omega)) d_Mo_enter_75 (fun H locs hW hS => ?_)
          have hXn : gm_X G B lm sm E jb sz dr (gw_up Mw (B 2) 102 (.inl (G.2.1 0, 300, .inl (upd f2o2 (nI p4_2 : Int32).toNatClampNeg k)))) := hX.up102 hf_2 (gm_upd hk2o2 hk)
          have hF3 : gw_fg (gw_out [100, 101, 102, 103, 104, 105, 106, 107]) M (gw_up Mw (B 2) 102 (.inl (G.2.1 0, 300, .inl (upd f2o2 (nI p4_2 : Int32).toNatClampNeg k)))) := gw_fg.up hF hf_2 (show ¬ ((gw_out [100, 101, 102, 103, 104, 105, 106, 107]) 102) by decide) (show ¬ ((gw_out [100, 101, 102, 103, 104, 105, 106, 107]) 102) by decide)
          obtain ⟨M4, eM4⟩ : ∃ z, z = gw_up Mw (B 2) 102 (.inl (G.2.1 0, 300, .inl (upd f2o2 (nI p4_2 : Int32).toNatClampNeg k))) := ⟨_, rfl⟩
          replace hW : gw_P G.1 vwCl G.2.2.2 M4 H := by rw [eM4]; exact hW
          have hf_0 : M4 (B 0) = some (100, .inr (5, [.int cdo2, .int (nI lm), .int sm, .int E, .ref (B 1), .ref (B 2), .int (nI sz), .ref (B 3), .ref (B 4), .ref (B 5), .ref (B 6), .int (nI jb), .int mko2, .ref (B 7), .int (nI dr)])) := by rw [eM4]; exact gw_keep hf_0 hf_2 (by decide)
          have hf_1 : M4 (B 1) = some (101, .inl (G.2.1 0, 10000, .inl f1o2)) := by rw [eM4]; exact gw_keep hf_1 hf_2 (by decide)
          have hf_3 : M4 (B 3) = some (103, .inl (G.2.1 0, 10240, .inl f3o2)) := by rw [eM4]; exact gw_keep hf_3 hf_2 (by decide)
          have hf_4 : M4 (B 4) = some (104, .inl (G.2.1 0, 41, .inl f4o2)) := by rw [eM4]; exact gw_keep hf_4 hf_2 (by decide)
          have hf_5 : M4 (B 5) = some (105, .inl (G.2.1 0, 41, .inl f5o2)) := by rw [eM4]; exact gw_keep hf_5 hf_2 (by decide)
          have hf_6 : M4 (B 6) = some (106, .inl (G.2.1 0, 4100, .inl f6o2)) := by rw [eM4]; exact gw_keep hf_6 hf_2 (by decide)
          have hf_7 : M4 (B 7) = some (107, .inl (G.2.1 0, 2048, .inl f7o2)) := by rw [eM4]; exact gw_keep hf_7 hf_2 (by decide)
          have hf_2 : M4 (B 2) = some (102, .inl (G.2.1 0, 300, .inl (upd f2o2 (nI p4_2 : Int32).toNatClampNeg k))) := by rw [eM4]; exact gw_up_self _ _ _ _
          rw [← eM4] at hF3
          rw [← eM4] at hXn
          replace hX := hXn
          clear hXn
          have hks5 : ∀ i, gm_k ((upd f2o2 (nI p4_2 : Int32).toNatClampNeg k) i) := gm_upd hk2o2 hk
          refine lv_aload_n hx hb d_Mo_enter_76 rfl (lv_at hl 2 rfl) ?_
          refine lv_dup hx hb d_Mo_enter_77 rfl ?_
          refine gw_get (ci := 5) (fs := [.int cdo2, .int (nI lm), .int sm, .int E, .ref (B 1), .ref (B 2), .int (nI sz), .ref (B 3), .ref (B 4), .ref (B 5), .ref (B 6), .int (nI jb), .int mko2, .ref (B 7), .int (nI dr)]) hx hb hts in_Mo hown hE.K hW hf_0 rfl 6 (by decide) (hts _ mw237) (fun _ h9 => h9) rfl d_Mo_enter_78 ?_
          refine lv_iconst (v := 1) hx hb d_Mo_enter_81 (by decide) ?_
          refine lv_iadd hx hb d_Mo_enter_82 ?_
          refine W.eq (g2 := F0 m 83 ls [.int (nI (sz + 1)), .ref (B 0)]) (by rw [nI_1]) ?_
          refine gw_put (ci := 5) (fs := [.int cdo2, .int (nI lm), .int sm, .int E, .ref (B 1), .ref (B 2), .int (nI sz), .ref (B 3), .ref (B 4), .ref (B 5), .ref (B 6), .int (nI jb), .int mko2, .ref (B 7), .int (nI dr)]) (v := .int (nI (sz + 1))) (ty := .int) hx hb hts in_Mo t_Mo t_Mo_ok n_Mo hown hE.K hW hS hf_0 rfl 6 (by decide) (hts _ mw237) (fun _ h9 => h9) rfl (by decide +kernel) rfl rfl (Nat.le_of_ble_eq_true rfl) d_Mo_enter_83 (fun H locs hW hS => ?_)
          have hXn : gm_X G B lm sm E jb (sz + 1) dr (gw_up M4 (B 0) 100 (.inr (5, [.int cdo2, .int (nI lm), .int sm, .int E, .ref (B 1), .ref (B 2), .int (nI (sz + 1)), .ref (B 3), .ref (B 4), .ref (B 5), .ref (B 6), .int (nI jb), .int mko2, .ref (B 7), .int (nI dr)]))) := hX.up100 hf_0 (by omega)
          have hF6 : gw_fg (gw_out [100, 101, 102, 103, 104, 105, 106, 107]) M (gw_up M4 (B 0) 100 (.inr (5, [.int cdo2, .int (nI lm), .int sm, .int E, .ref (B 1), .ref (B 2), .int (nI (sz + 1)), .ref (B 3), .ref (B 4), .ref (B 5), .ref (B 6), .int (nI jb), .int mko2, .ref (B 7), .int (nI dr)]))) := gw_fg.up hF3 hf_0 (show ¬ ((gw_out [100, 101, 102, 103, 104, 105, 106, 107]) 100) by decide) (show ¬ ((gw_out [100, 101, 102, 103, 104, 105, 106, 107]) 100) by decide)
          obtain ⟨M7, eM7⟩ : ∃ z, z = gw_up M4 (B 0) 100 (.inr (5, [.int cdo2, .int (nI lm), .int sm, .int E, .ref (B 1), .ref (B 2), .int (nI (sz + 1)), .ref (B 3), .ref (B 4), .ref (B 5), .ref (B 6), .int (nI jb), .int mko2, .ref (B 7), .int (nI dr)])) := ⟨_, rfl⟩
          replace hW : gw_P G.1 vwCl G.2.2.2 M7 H := by rw [eM7]; exact hW
          have hf_1 : M7 (B 1) = some (101, .inl (G.2.1 0, 10000, .inl f1o2)) := by rw [eM7]; exact gw_keep hf_1 hf_0 (by decide)
          have hf_3 : M7 (B 3) = some (103, .inl (G.2.1 0, 10240, .inl f3o2)) := by rw [eM7]; exact gw_keep hf_3 hf_0 (by decide)
          have hf_4 : M7 (B 4) = some (104, .inl (G.2.1 0, 41, .inl f4o2)) := by rw [eM7]; exact gw_keep hf_4 hf_0 (by decide)
          have hf_5 : M7 (B 5) = some (105, .inl (G.2.1 0, 41, .inl f5o2)) := by rw [eM7]; exact gw_keep hf_5 hf_0 (by decide)
          have hf_6 : M7 (B 6) = some (106, .inl (G.2.1 0, 4100, .inl f6o2)) := by rw [eM7]; exact gw_keep hf_6 hf_0 (by decide)
          have hf_7 : M7 (B 7) = some (107, .inl (G.2.1 0, 2048, .inl f7o2)) := by rw [eM7]; exact gw_keep hf_7 hf_0 (by decide)
          have hf_2 : M7 (B 2) = some (102, .inl (G.2.1 0, 300, .inl (upd f2o2 (nI p4_2 : Int32).toNatClampNeg k))) := by rw [eM7]; exact gw_keep hf_2 hf_0 (by decide)
          have hf_0 : M7 (B 0) = some (100, .inr (5, [.int cdo2, .int (nI lm), .int sm, .int E, .ref (B 1), .ref (B 2), .int (nI (sz + 1)), .ref (B 3), .ref (B 4), .ref (B 5), .ref (B 6), .int (nI jb), .int mko2, .ref (B 7), .int (nI dr)])) := by rw [eM7]; exact gw_up_self _ _ _ _
          rw [← eM7] at hF6
          rw [← eM7] at hXn
          replace hX := hXn
          clear hXn
          refine lv_aload_n hx hb d_Mo_enter_86 rfl (lv_at hl 2 rfl) ?_
          refine lv_iload_n hx hb d_Mo_enter_87 rfl (lv_at hl 3 rfl) ?_
          refine lv_iconst (v := 1) hx hb d_Mo_enter_88 (by decide) ?_
          refine gw_callv hS (va_runV (As := [.int k, .int 1]) (rest := []) ⟨hx, hb, hml, hown, hts⟩ (m_become l G M7 B lm sm E jb (sz + 1) dr hX k 1  hk) (cwV 2 hts (gw_gv mw240 mw241 mw242 mw228 mw239) rfl rfl rfl (by decide +kernel) ⟨Nat.le_of_ble_eq_true rfl, Nat.le_of_ble_eq_true rfl⟩) (gw_pv hE hB hS hW rfl hf_0) rfl rfl hl.1 rfl (lv_room (Nat.le_of_ble_eq_true rfl)) d_Mo_enter_89 ⟨Nat.le_of_ble_eq_true rfl, Nat.le_of_ble_eq_true rfl⟩) (fun M9 H locs hw10 hW hS => ?_)
          obtain ⟨hX, hfr11⟩ := hw10
          have hF12 : gw_fg (gw_out [100, 101, 102, 103, 104, 105, 106, 107]) M M9 := gw_fg.tr hF6 (gw_fg.wk hfr11 (by decide))
          clear hfr11
          refine lv_aload_n hx hb d_Mo_enter_92 rfl (lv_at hl 2 rfl) ?_
          obtain ⟨cdo13, mko13, f1o13, f2o13, f3o13, f4o13, f5o13, f6o13, f7o13, hf_0, hf_1, hf_2, hf_3, hf_4, hf_5, hf_6, hf_7, hk2o13, hk3o13, hk4o13, -, -⟩ := id hX
          refine gw_get (ci := 5) (fs := [.int cdo13, .int (nI lm), .int sm, .int E, .ref (B 1), .ref (B 2), .int (nI (sz + 1)), .ref (B 3), .ref (B 4), .ref (B 5), .ref (B 6), .int (nI jb), .int mko13, .ref (B 7), .int (nI dr)]) hx hb hts in_Mo hown hE.K hW hf_0 rfl 6 (by decide) (hts _ mw237) (fun _ h9 => h9) rfl d_Mo_enter_93 ?_
          refine lv_aload_n hx hb d_Mo_enter_96 rfl (lv_at hl 2 rfl) ?_
          refine gw_get (ci := 5) (fs := [.int cdo13, .int (nI lm), .int sm, .int E, .ref (B 1), .ref (B 2), .int (nI (sz + 1)), .ref (B 3), .ref (B 4), .ref (B 5), .ref (B 6), .int (nI jb), .int mko13, .ref (B 7), .int (nI dr)]) hx hb hts in_Mo hown hE.K hW hf_0 rfl 1 (by decide) (hts _ mw243) (fun _ h9 => h9) rfl d_Mo_enter_97 ?_
          refine lv_icmp_gt (tgt := 104) hx hb d_Mo_enter_100 (by decide) (fun c100 => ?_) (fun c100 => ?_)
          · have hgt := (nI_ltI (by omega) (by omega)).mp c100
            refine lv_aload_n hx hb d_Mo_enter_104 rfl (lv_at hl 2 rfl) ?_
            refine gw_get (ci := 5) (fs := [.int cdo13, .int (nI lm), .int sm, .int E, .ref (B 1), .ref (B 2), .int (nI (sz + 1)), .ref (B 3), .ref (B 4), .ref (B 5), .ref (B 6), .int (nI jb), .int mko13, .ref (B 7), .int (nI dr)]) hx hb hts in_Mo hown hE.K hW hf_0 rfl 3 (by decide) (hts _ mw244) (fun _ h9 => h9) rfl d_Mo_enter_105 ?_
            refine lv_if_eq (tgt := 120) hx hb d_Mo_enter_108 (by decide) (fun c108 => ?_) (fun c108 => ?_)
            · refine lv_aload_n hx hb d_Mo_enter_120 rfl (lv_at hl 2 rfl) ?_
              refine gw_get (ci := 5) (fs := [.int cdo13, .int (nI lm), .int sm, .int E, .ref (B 1), .ref (B 2), .int (nI (sz + 1)), .ref (B 3), .ref (B 4), .ref (B 5), .ref (B 6), .int (nI jb), .int mko13, .ref (B 7), .int (nI dr)]) hx hb hts in_Mo hown hE.K hW hf_0 rfl 6 (by decide) (hts _ mw237) (fun _ h9 => h9) rfl d_Mo_enter_121 ?_
              refine lv_aload_n hx hb d_Mo_enter_124 rfl (lv_at hl 2 rfl) ?_
              refine gw_get (ci := 5) (fs := [.int cdo13, .int (nI lm), .int sm, .int E, .ref (B 1), .ref (B 2), .int (nI (sz + 1)), .ref (B 3), .ref (B 4), .ref (B 5), .ref (B 6), .int (nI jb), .int mko13, .ref (B 7), .int (nI dr)]) hx hb hts in_Mo hown hE.K hW hf_0 rfl 1 (by decide) (hts _ mw243) (fun _ h9 => h9) rfl d_Mo_enter_125 ?_
              refine lv_isub hx hb d_Mo_enter_128 ?_
              obtain ⟨go, hg1, hg2, hg3, hgo⟩ : ∃ z : Nat, 1 ≤ z ∧ z ≤ sz + 1 ∧ sz + 1 - z ≤ lm ∧ (nI (sz + 1)) - (nI lm) = nI z := ⟨sz + 1 - lm, by omega, by omega, by omega, by rw [pk_sub (by omega)]⟩
              refine W.eq (g2 := F0 m 129 ls [.int (nI go)]) (by rw [hgo]) ?_
              refine lv_istore_n (lv' := [(3, .int (nI go)), (2, .int (nI p4_2)), (0, .ref (B 0)), (1, .int k)]) hx hb d_Mo_enter_129 rfl hl (by decide) rfl (fun ls hl => ?_)
              refine lv_iconst (v := 0) hx hb d_Mo_enter_130 (by decide) ?_
              refine lv_istore (lv' := [(4, .int 0), (3, .int (nI go)), (2, .int (nI p4_2)), (0, .ref (B 0)), (1, .int k)]) hx hb d_Mo_enter_131 hl (by decide) rfl (fun ls hl => ?_)
              obtain ⟨k133, ek133⟩ : ∃ z : Nat, z = 0 := ⟨_, rfl⟩
              replace hl : lv_has ls 6 [(4, .int (nI k133)), (3, .int (nI go)), (2, .int (nI p4_2)), (0, .ref (B 0)), (1, .int k)] := by subst ek133; exact lv_sub hl [0, 1, 2, 3, 4] rfl
              obtain ⟨w133_dr, ew133_dr⟩ : ∃ z : Nat, z = dr := ⟨_, rfl⟩
              replace hX : gm_X G B lm sm E jb (sz + 1) w133_dr M9 := by rw [ew133_dr]; exact hX
              have hk133 : k133 ≤ go ∧ w133_dr = dr + k133 := by omega
              clear ek133 ew133_dr
              clear hf_0 hf_1 hf_2 hf_3 hf_4 hf_5 hf_6 hf_7
              try clear eM9
              have hF := hF12
              clear hF12
              obtain ⟨n133, hn133⟩ : ∃ z : Nat, go - k133 < z := ⟨_, Nat.lt_succ_self _⟩
              induction n133 generalizing k133 ls H locs M9 w133_dr with
              | zero => exact absurd hn133 (Nat.not_lt_zero _)
              | succ n133 ih133 =>
                refine lv_iload hx hb d_Mo_enter_133 (lv_at hl 0 rfl) ?_
                refine lv_iload_n hx hb d_Mo_enter_135 rfl (lv_at hl 1 rfl) ?_
                refine lv_icmp_ge (tgt := 200) hx hb d_Mo_enter_136 (by decide) (fun c136 => ?_) (fun c136 => ?_)
                · have hge := (nI_leI (by omega) (by omega)).mp c136
                  refine lv_iload_n hx hb d_Mo_enter_200 rfl (lv_at hl 1 rfl) ?_
                  refine lv_istore (lv' := [(4, .int (nI go)), (3, .int (nI go)), (2, .int (nI p4_2)), (0, .ref (B 0)), (1, .int k)]) hx hb d_Mo_enter_201 hl (by decide) rfl (fun ls hl => ?_)
                  obtain ⟨k203, ek203⟩ : ∃ z : Nat, z = go := ⟨_, rfl⟩
                  replace hl : lv_has ls 6 [(4, .int (nI k203)), (3, .int (nI go)), (2, .int (nI p4_2)), (0, .ref (B 0)), (1, .int k)] := by subst ek203; exact lv_sub hl [0, 1, 2, 3, 4] rfl
                  have hk203 : go ≤ k203 ∧ k203 ≤ sz + 1 := by omega
                  clear ek203
                  try clear eM9
                  obtain ⟨n203, hn203⟩ : ∃ z : Nat, sz + 1 - k203 < z := ⟨_, Nat.lt_succ_self _⟩
                  induction n203 generalizing k203 ls H locs M9 with
                  | zero => exact absurd hn203 (Nat.not_lt_zero _)
                  | succ n203 ih203 =>
                    refine lv_iload hx hb d_Mo_enter_203 (lv_at hl 0 rfl) ?_
                    refine lv_aload_n hx hb d_Mo_enter_205 rfl (lv_at hl 3 rfl) ?_
                    obtain ⟨cdo14, mko14, f1o14, f2o14, f3o14, f4o14, f5o14, f6o14, f7o14, hf_0, hf_1, hf_2, hf_3, hf_4, hf_5, hf_6, hf_7, hk2o14, hk3o14, hk4o14, -, -⟩ := id hX
                    refine gw_get (ci := 5) (fs := [.int cdo14, .int (nI lm), .int sm, .int E, .ref (B 1), .ref (B 2), .int (nI (sz + 1)), .ref (B 3), .ref (B 4), .ref (B 5), .ref (B 6), .int (nI jb), .int mko14, .ref (B 7), .int (nI w133_dr)]) hx hb hts in_Mo hown hE.K hW hf_0 rfl 6 (by decide) (hts _ mw237) (fun _ h9 => h9) rfl d_Mo_enter_206 ?_
                    refine lv_icmp_ge (tgt := 234) hx hb d_Mo_enter_209 (by decide) (fun c209 => ?_) (fun c209 => ?_)
                    · refine lv_aload_n hx hb d_Mo_enter_234 rfl (lv_at hl 3 rfl) ?_
                      refine lv_dup hx hb d_Mo_enter_235 rfl ?_
                      refine gw_get (ci := 5) (fs := [.int cdo14, .int (nI lm), .int sm, .int E, .ref (B 1), .ref (B 2), .int (nI (sz + 1)), .ref (B 3), .ref (B 4), .ref (B 5), .ref (B 6), .int (nI jb), .int mko14, .ref (B 7), .int (nI w133_dr)]) hx hb hts in_Mo hown hE.K hW hf_0 rfl 6 (by decide) (hts _ mw237) (fun _ h9 => h9) rfl d_Mo_enter_236 ?_
                      refine lv_iload_n hx hb d_Mo_enter_239 rfl (lv_at hl 1 rfl) ?_
                      refine lv_isub hx hb d_Mo_enter_240 ?_
                      refine W.eq (g2 := F0 m 241 ls [.int (nI (sz + 1 - go)), .ref (B 0)]) (by rw [pk_sub (by omega)]) ?_
                      refine gw_put (ci := 5) (fs := [.int cdo14, .int (nI lm), .int sm, .int E, .ref (B 1), .ref (B 2), .int (nI (sz + 1)), .ref (B 3), .ref (B 4), .ref (B 5), .ref (B 6), .int (nI jb), .int mko14, .ref (B 7), .int (nI w133_dr)]) (v := .int (nI (sz + 1 - go))) (ty := .int) hx hb hts in_Mo t_Mo t_Mo_ok n_Mo hown hE.K hW hS hf_0 rfl 6 (by decide) (hts _ mw237) (fun _ h9 => h9) rfl (by decide +kernel) rfl rfl (Nat.le_of_ble_eq_true rfl) d_Mo_enter_241 (fun H locs hW hS => ?_)
                      have hXn : gm_X G B lm sm E jb (sz + 1 - go) w133_dr (gw_up M9 (B 0) 100 (.inr (5, [.int cdo14, .int (nI lm), .int sm, .int E, .ref (B 1), .ref (B 2), .int (nI (sz + 1 - go)), .ref (B 3), .ref (B 4), .ref (B 5), .ref (B 6), .int (nI jb), .int mko14, .ref (B 7), .int (nI w133_dr)]))) := hX.up100 hf_0 (by omega)
                      have hF15 : gw_fg (gw_out [100, 101, 102, 103, 104, 105, 106, 107]) M (gw_up M9 (B 0) 100 (.inr (5, [.int cdo14, .int (nI lm), .int sm, .int E, .ref (B 1), .ref (B 2), .int (nI (sz + 1 - go)), .ref (B 3), .ref (B 4), .ref (B 5), .ref (B 6), .int (nI jb), .int mko14, .ref (B 7), .int (nI w133_dr)]))) := gw_fg.up hF hf_0 (show ¬ ((gw_out [100, 101, 102, 103, 104, 105, 106, 107]) 100) by decide) (show ¬ ((gw_out [100, 101, 102, 103, 104, 105, 106, 107]) 100) by decide)
                      obtain ⟨M16, eM16⟩ : ∃ z, z = gw_up M9 (B 0) 100 (.inr (5, [.int cdo14, .int (nI lm), .int sm, .int E, .ref (B 1), .ref (B 2), .int (nI (sz + 1 - go)), .ref (B 3), .ref (B 4), .ref (B 5), .ref (B 6), .int (nI jb), .int mko14, .ref (B 7), .int (nI w133_dr)])) := ⟨_, rfl⟩
                      replace hW : gw_P G.1 vwCl G.2.2.2 M16 H := by rw [eM16]; exact hW
                      have hf_1 : M16 (B 1) = some (101, .inl (G.2.1 0, 10000, .inl f1o14)) := by rw [eM16]; exact gw_keep hf_1 hf_0 (by decide)
                      have hf_2 : M16 (B 2) = some (102, .inl (G.2.1 0, 300, .inl f2o14)) := by rw [eM16]; exact gw_keep hf_2 hf_0 (by decide)
                      have hf_3 : M16 (B 3) = some (103, .inl (G.2.1 0, 10240, .inl f3o14)) := by rw [eM16]; exact gw_keep hf_3 hf_0 (by decide)
                      have hf_4 : M16 (B 4) = some (104, .inl (G.2.1 0, 41, .inl f4o14)) := by rw [eM16]; exact gw_keep hf_4 hf_0 (by decide)
                      have hf_5 : M16 (B 5) = some (105, .inl (G.2.1 0, 41, .inl f5o14)) := by rw [eM16]; exact gw_keep hf_5 hf_0 (by decide)
                      have hf_6 : M16 (B 6) = some (106, .inl (G.2.1 0, 4100, .inl f6o14)) := by rw [eM16]; exact gw_keep hf_6 hf_0 (by decide)
                      have hf_7 : M16 (B 7) = some (107, .inl (G.2.1 0, 2048, .inl f7o14)) := by rw [eM16]; exact gw_keep hf_7 hf_0 (by decide)
                      have hf_0 : M16 (B 0) = some (100, .inr (5, [.int cdo14, .int (nI lm), .int sm, .int E, .ref (B 1), .ref (B 2), .int (nI (sz + 1 - go)), .ref (B 3), .ref (B 4), .ref (B 5), .ref (B 6), .int (nI jb), .int mko14, .ref (B 7), .int (nI w133_dr)])) := by rw [eM16]; exact gw_up_self _ _ _ _
                      rw [← eM16] at hF15
                      rw [← eM16] at hXn
                      replace hX := hXn
                      clear hXn
                      exact gw_vret hx hb hr hlocks hS hW (Nat.le_of_ble_eq_true rfl) (Nat.le_of_ble_eq_true rfl) d_Mo_enter_244 ⟨sz + 1 - go, w133_dr, (by omega), (by omega), hX, hF15⟩
                    · have hlt4 := gx_ltN c209 (by omega) (by omega)
                      refine lv_aload_n hx hb d_Mo_enter_212 rfl (lv_at hl 3 rfl) ?_
                      refine gw_get (ci := 5) (fs := [.int cdo14, .int (nI lm), .int sm, .int E, .ref (B 1), .ref (B 2), .int (nI (sz + 1)), .ref (B 3), .ref (B 4), .ref (B 5), .ref (B 6), .int (nI jb), .int mko14, .ref (B 7), .int (nI w133_dr)]) hx hb hts in_Mo hown hE.K hW hf_0 rfl 5 (by decide) (hts _ mw238) (fun _ h9 => h9) rfl d_Mo_enter_213 ?_
                      refine lv_iload hx hb d_Mo_enter_216 (lv_at hl 0 rfl) ?_
                      refine lv_iload_n hx hb d_Mo_enter_218 rfl (lv_at hl 1 rfl) ?_
                      refine lv_isub hx hb d_Mo_enter_219 ?_
                      refine lv_aload_n hx hb d_Mo_enter_220 rfl (lv_at hl 3 rfl) ?_
                      refine gw_get (ci := 5) (fs := [.int cdo14, .int (nI lm), .int sm, .int E, .ref (B 1), .ref (B 2), .int (nI (sz + 1)), .ref (B 3), .ref (B 4), .ref (B 5), .ref (B 6), .int (nI jb), .int mko14, .ref (B 7), .int (nI w133_dr)]) hx hb hts in_Mo hown hE.K hW hf_0 rfl 5 (by decide) (hts _ mw238) (fun _ h9 => h9) rfl d_Mo_enter_221 ?_
                      refine lv_iload hx hb d_Mo_enter_224 (lv_at hl 0 rfl) ?_
                      refine gw_iald (i := nI k203) hx hb hE.K hW 0 hf_2 rfl (vp_in_nI (by omega) (by omega)) d_Mo_enter_226 ?_
                      obtain ⟨v17, ev17⟩ : ∃ z : Int32, z = f2o14 (nI k203 : Int32).toNatClampNeg := ⟨_, rfl⟩
                      have hv17 : gm_k v17 := by rw [ev17]; exact hk2o14 _
                      refine W.eq (g2 := F0 m 227 ls [.int v17, .int ((nI k203) - (nI go)), .ref (B 2)]) (by rw [ev17]) ?_
                      refine gw_iast (i := (nI k203) - (nI go)) (x := v17) hx hb hE.K hW hS 0 hf_2 rfl (by rw [pk_sub (by omega)]; exact vp_in_nI (by omega) (by omega)) d_Mo_enter_227 (fun H locs hW hS => ?_)
                      have hXn : gm_X G B lm sm E jb (sz + 1) w133_dr (gw_up M9 (B 2) 102 (.inl (G.2.1 0, 300, .inl (upd f2o14 ((nI k203) - (nI go) : Int32).toNatClampNeg v17)))) := hX.up102 hf_2 (gm_upd hk2o14 hv17)
                      have hF18 : gw_fg (gw_out [100, 101, 102, 103, 104, 105, 106, 107]) M (gw_up M9 (B 2) 102 (.inl (G.2.1 0, 300, .inl (upd f2o14 ((nI k203) - (nI go) : Int32).toNatClampNeg v17)))) := gw_fg.up hF hf_2 (show ¬ ((gw_out [100, 101, 102, 103, 104, 105, 106, 107]) 102) by decide) (show ¬ ((gw_out [100, 101, 102, 103, 104, 105, 106, 107]) 102) by decide)
                      obtain ⟨M19, eM19⟩ : ∃ z, z = gw_up M9 (B 2) 102 (.inl (G.2.1 0, 300, .inl (upd f2o14 ((nI k203) - (nI go) : Int32).toNatClampNeg v17))) := ⟨_, rfl⟩
                      replace hW : gw_P G.1 vwCl G.2.2.2 M19 H := by rw [eM19]; exact hW
                      have hf_0 : M19 (B 0) = some (100, .inr (5, [.int cdo14, .int (nI lm), .int sm, .int E, .ref (B 1), .ref (B 2), .int (nI (sz + 1)), .ref (B 3), .ref (B 4), .ref (B 5), .ref (B 6), .int (nI jb), .int mko14, .ref (B 7), .int (nI w133_dr)])) := by rw [eM19]; exact gw_keep hf_0 hf_2 (by decide)
                      have hf_1 : M19 (B 1) = some (101, .inl (G.2.1 0, 10000, .inl f1o14)) := by rw [eM19]; exact gw_keep hf_1 hf_2 (by decide)
                      have hf_3 : M19 (B 3) = some (103, .inl (G.2.1 0, 10240, .inl f3o14)) := by rw [eM19]; exact gw_keep hf_3 hf_2 (by decide)
                      have hf_4 : M19 (B 4) = some (104, .inl (G.2.1 0, 41, .inl f4o14)) := by rw [eM19]; exact gw_keep hf_4 hf_2 (by decide)
                      have hf_5 : M19 (B 5) = some (105, .inl (G.2.1 0, 41, .inl f5o14)) := by rw [eM19]; exact gw_keep hf_5 hf_2 (by decide)
                      have hf_6 : M19 (B 6) = some (106, .inl (G.2.1 0, 4100, .inl f6o14)) := by rw [eM19]; exact gw_keep hf_6 hf_2 (by decide)
                      have hf_7 : M19 (B 7) = some (107, .inl (G.2.1 0, 2048, .inl f7o14)) := by rw [eM19]; exact gw_keep hf_7 hf_2 (by decide)
                      have hf_2 : M19 (B 2) = some (102, .inl (G.2.1 0, 300, .inl (upd f2o14 ((nI k203) - (nI go) : Int32).toNatClampNeg v17))) := by rw [eM19]; exact gw_up_self _ _ _ _
                      rw [← eM19] at hF18
                      rw [← eM19] at hXn
                      replace hX := hXn
                      clear hXn
                      have hks20 : ∀ i, gm_k ((upd f2o14 ((nI k203) - (nI go) : Int32).toNatClampNeg v17) i) := gm_upd hk2o14 hv17
                      refine lv_iinc (v := (nI k203) + 1) (lv' := [(4, .int ((nI k203) + 1)), (3, .int (nI go)), (2, .int (nI p4_2)), (0, .ref (B 0)), (1, .int k)]) hx hb d_Mo_enter_228 hl (k := 0) rfl rfl (by decide) rfl (fun ls hl => ?_)
                      refine lv_goto (tgt := 203) hx hb d_Mo_enter_231 (by decide) ?_
                      rw [nI_1] at hl
                      apply ih203 (ls := ls) (k203 := k203 + 1) (H := H) (locs := locs) (M9 := M19) <;> first | exact lv_sub hl [0, 1, 2, 3, 4] rfl | exact hX | exact hW | exact hS | exact hF18 | omega | assumption
                · have hlt3 := gx_ltN c136 (by omega) (by omega)
                  refine lv_aload_n hx hb d_Mo_enter_139 rfl (lv_at hl 3 rfl) ?_
                  obtain ⟨cdo21, mko21, f1o21, f2o21, f3o21, f4o21, f5o21, f6o21, f7o21, hf_0, hf_1, hf_2, hf_3, hf_4, hf_5, hf_6, hf_7, hk2o21, hk3o21, hk4o21, -, -⟩ := id hX
                  refine gw_get (ci := 5) (fs := [.int cdo21, .int (nI lm), .int sm, .int E, .ref (B 1), .ref (B 2), .int (nI (sz + 1)), .ref (B 3), .ref (B 4), .ref (B 5), .ref (B 6), .int (nI jb), .int mko21, .ref (B 7), .int (nI w133_dr)]) hx hb hts in_Mo hown hE.K hW hf_0 rfl 5 (by decide) (hts _ mw238) (fun _ h9 => h9) rfl d_Mo_enter_140 ?_
                  refine lv_iload hx hb d_Mo_enter_143 (lv_at hl 0 rfl) ?_
                  refine gw_iald (i := nI k133) hx hb hE.K hW 0 hf_2 rfl (vp_in_nI (by omega) (by omega)) d_Mo_enter_145 ?_
                  obtain ⟨v22, ev22⟩ : ∃ z : Int32, z = f2o21 (nI k133 : Int32).toNatClampNeg := ⟨_, rfl⟩
                  have hv22 : gm_k v22 := by rw [ev22]; exact hk2o21 _
                  refine W.eq (g2 := F0 m 146 ls [.int v22]) (by rw [ev22]) ?_
                  refine lv_istore (lv' := [(5, .int v22), (4, .int (nI k133)), (3, .int (nI go)), (2, .int (nI p4_2)), (0, .ref (B 0)), (1, .int k)]) hx hb d_Mo_enter_146 hl (by decide) rfl (fun ls hl => ?_)
                  refine lv_aload_n hx hb d_Mo_enter_148 rfl (lv_at hl 4 rfl) ?_
                  refine gw_get (ci := 5) (fs := [.int cdo21, .int (nI lm), .int sm, .int E, .ref (B 1), .ref (B 2), .int (nI (sz + 1)), .ref (B 3), .ref (B 4), .ref (B 5), .ref (B 6), .int (nI jb), .int mko21, .ref (B 7), .int (nI w133_dr)]) hx hb hts in_Mo hown hE.K hW hf_0 rfl 2 (by decide) (hts _ mw245) (fun _ h9 => h9) rfl d_Mo_enter_149 ?_
                  refine lv_if_eq (tgt := 166) hx hb d_Mo_enter_152 (by decide) (fun c152 => ?_) (fun c152 => ?_)
                  · refine lv_aload_n hx hb d_Mo_enter_166 rfl (lv_at hl 4 rfl) ?_
                    refine lv_iload hx hb d_Mo_enter_167 (lv_at hl 0 rfl) ?_
                    refine lv_iconst (v := 4) hx hb d_Mo_enter_169 (by decide) ?_
                    refine gw_callv hS (va_runV (As := [.int v22, .int 4]) (rest := []) ⟨hx, hb, hml, hown, hts⟩ (m_become l G M9 B lm sm E jb (sz + 1) w133_dr hX v22 4  hv22) (cwV 2 hts (gw_gv mw240 mw241 mw242 mw228 mw239) rfl rfl rfl (by decide +kernel) ⟨Nat.le_of_ble_eq_true rfl, Nat.le_of_ble_eq_true rfl⟩) (gw_pv hE hB hS hW rfl hf_0) rfl rfl hl.1 rfl (lv_room (Nat.le_of_ble_eq_true rfl)) d_Mo_enter_170 ⟨Nat.le_of_ble_eq_true rfl, Nat.le_of_ble_eq_true rfl⟩) (fun M24 H locs hw25 hW hS => ?_)
                    obtain ⟨hX, hfr26⟩ := hw25
                    have hF27 : gw_fg (gw_out [100, 101, 102, 103, 104, 105, 106, 107]) M M24 := gw_fg.tr hF (gw_fg.wk hfr26 (by decide))
                    clear hfr26
                    refine lv_aload_n hx hb d_Mo_enter_173 rfl (lv_at hl 4 rfl) ?_
                    obtain ⟨cdo28, mko28, f1o28, f2o28, f3o28, f4o28, f5o28, f6o28, f7o28, hf_0, hf_1, hf_2, hf_3, hf_4, hf_5, hf_6, hf_7, hk2o28, hk3o28, hk4o28, -, -⟩ := id hX
                    refine gw_get (ci := 5) (fs := [.int cdo28, .int (nI lm), .int sm, .int E, .ref (B 1), .ref (B 2), .int (nI (sz + 1)), .ref (B 3), .ref (B 4), .ref (B 5), .ref (B 6), .int (nI jb), .int mko28, .ref (B 7), .int (nI w133_dr)]) hx hb hts in_Mo hown hE.K hW hf_0 rfl 13 (by decide) (hts _ mw246) (fun _ h9 => h9) rfl d_Mo_enter_174 ?_
                    refine lv_aload_n hx hb d_Mo_enter_177 rfl (lv_at hl 4 rfl) ?_
                    refine gw_get (ci := 5) (fs := [.int cdo28, .int (nI lm), .int sm, .int E, .ref (B 1), .ref (B 2), .int (nI (sz + 1)), .ref (B 3), .ref (B 4), .ref (B 5), .ref (B 6), .int (nI jb), .int mko28, .ref (B 7), .int (nI w133_dr)]) hx hb hts in_Mo hown hE.K hW hf_0 rfl 14 (by decide) (hts _ mw247) (fun _ h9 => h9) rfl d_Mo_enter_178 ?_
                    refine lv_iload hx hb d_Mo_enter_181 (lv_at hl 0 rfl) ?_
                    refine gw_iast (i := nI w133_dr) (x := v22) hx hb hE.K hW hS 0 hf_7 rfl (vp_in_nI (by omega) (by omega)) d_Mo_enter_183 (fun H locs hW hS => ?_)
                    have hXn : gm_X G B lm sm E jb (sz + 1) w133_dr (gw_up M24 (B 7) 107 (.inl (G.2.1 0, 2048, .inl (upd f7o28 (nI w133_dr : Int32).toNatClampNeg v22)))) := hX.up107 hf_7
                    have hF29 : gw_fg (gw_out [100, 101, 102, 103, 104, 105, 106, 107]) M (gw_up M24 (B 7) 107 (.inl (G.2.1 0, 2048, .inl (upd f7o28 (nI w133_dr : Int32).toNatClampNeg v22)))) := gw_fg.up hF27 hf_7 (show ¬ ((gw_out [100, 101, 102, 103, 104, 105, 106, 107]) 107) by decide) (show ¬ ((gw_out [100, 101, 102, 103, 104, 105, 106, 107]) 107) by decide)
                    obtain ⟨M30, eM30⟩ : ∃ z, z = gw_up M24 (B 7) 107 (.inl (G.2.1 0, 2048, .inl (upd f7o28 (nI w133_dr : Int32).toNatClampNeg v22))) := ⟨_, rfl⟩
                    replace hW : gw_P G.1 vwCl G.2.2.2 M30 H := by rw [eM30]; exact hW
                    have hf_0 : M30 (B 0) = some (100, .inr (5, [.int cdo28, .int (nI lm), .int sm, .int E, .ref (B 1), .ref (B 2), .int (nI (sz + 1)), .ref (B 3), .ref (B 4), .ref (B 5), .ref (B 6), .int (nI jb), .int mko28, .ref (B 7), .int (nI w133_dr)])) := by rw [eM30]; exact gw_keep hf_0 hf_7 (by decide)
                    have hf_1 : M30 (B 1) = some (101, .inl (G.2.1 0, 10000, .inl f1o28)) := by rw [eM30]; exact gw_keep hf_1 hf_7 (by decide)
                    have hf_2 : M30 (B 2) = some (102, .inl (G.2.1 0, 300, .inl f2o28)) := by rw [eM30]; exact gw_keep hf_2 hf_7 (by decide)
                    have hf_3 : M30 (B 3) = some (103, .inl (G.2.1 0, 10240, .inl f3o28)) := by rw [eM30]; exact gw_keep hf_3 hf_7 (by decide)
                    have hf_4 : M30 (B 4) = some (104, .inl (G.2.1 0, 41, .inl f4o28)) := by rw [eM30]; exact gw_keep hf_4 hf_7 (by decide)
                    have hf_5 : M30 (B 5) = some (105, .inl (G.2.1 0, 41, .inl f5o28)) := by rw [eM30]; exact gw_keep hf_5 hf_7 (by decide)
                    have hf_6 : M30 (B 6) = some (106, .inl (G.2.1 0, 4100, .inl f6o28)) := by rw [eM30]; exact gw_keep hf_6 hf_7 (by decide)
                    have hf_7 : M30 (B 7) = some (107, .inl (G.2.1 0, 2048, .inl (upd f7o28 (nI w133_dr : Int32).toNatClampNeg v22))) := by rw [eM30]; exact gw_up_self _ _ _ _
                    rw [← eM30] at hF29
                    rw [← eM30] at hXn
                    replace hX := hXn
                    clear hXn
                    refine lv_aload_n hx hb d_Mo_enter_184 rfl (lv_at hl 4 rfl) ?_
                    refine lv_dup hx hb d_Mo_enter_185 rfl ?_
                    refine gw_get (ci := 5) (fs := [.int cdo28, .int (nI lm), .int sm, .int E, .ref (B 1), .ref (B 2), .int (nI (sz + 1)), .ref (B 3), .ref (B 4), .ref (B 5), .ref (B 6), .int (nI jb), .int mko28, .ref (B 7), .int (nI w133_dr)]) hx hb hts in_Mo hown hE.K hW hf_0 rfl 14 (by decide) (hts _ mw247) (fun _ h9 => h9) rfl d_Mo_enter_186 ?_
                    refine lv_iconst (v := 1) hx hb d_Mo_enter_189 (by decide) ?_
                    refine lv_iadd hx hb d_Mo_enter_190 ?_
                    refine W.eq (g2 := F0 m 191 ls [.int (nI (w133_dr + 1)), .ref (B 0)]) (by rw [nI_1]) ?_
                    refine gw_put (ci := 5) (fs := [.int cdo28, .int (nI lm), .int sm, .int E, .ref (B 1), .ref (B 2), .int (nI (sz + 1)), .ref (B 3), .ref (B 4), .ref (B 5), .ref (B 6), .int (nI jb), .int mko28, .ref (B 7), .int (nI w133_dr)]) (v := .int (nI (w133_dr + 1))) (ty := .int) hx hb hts in_Mo t_Mo t_Mo_ok n_Mo hown hE.K hW hS hf_0 rfl 14 (by decide) (hts _ mw247) (fun _ h9 => h9) rfl (by decide +kernel) rfl rfl (Nat.le_of_ble_eq_true rfl) d_Mo_enter_191 (fun H locs hW hS => ?_)
                    have hXn : gm_X G B lm sm E jb (sz + 1) (w133_dr + 1) (gw_up M30 (B 0) 100 (.inr (5, [.int cdo28, .int (nI lm), .int sm, .int E, .ref (B 1), .ref (B 2), .int (nI (sz + 1)), .ref (B 3), .ref (B 4), .ref (B 5), .ref (B 6), .int (nI jb), .int mko28, .ref (B 7), .int (nI (w133_dr + 1))]))) := hX.up100 hf_0 (by omega)
                    have hF31 : gw_fg (gw_out [100, 101, 102, 103, 104, 105, 106, 107]) M (gw_up M30 (B 0) 100 (.inr (5, [.int cdo28, .int (nI lm), .int sm, .int E, .ref (B 1), .ref (B 2), .int (nI (sz + 1)), .ref (B 3), .ref (B 4), .ref (B 5), .ref (B 6), .int (nI jb), .int mko28, .ref (B 7), .int (nI (w133_dr + 1))]))) := gw_fg.up hF29 hf_0 (show ¬ ((gw_out [100, 101, 102, 103, 104, 105, 106, 107]) 100) by decide) (show ¬ ((gw_out [100, 101, 102, 103, 104, 105, 106, 107]) 100) by decide)
                    obtain ⟨M32, eM32⟩ : ∃ z, z = gw_up M30 (B 0) 100 (.inr (5, [.int cdo28, .int (nI lm), .int sm, .int E, .ref (B 1), .ref (B 2), .int (nI (sz + 1)), .ref (B 3), .ref (B 4), .ref (B 5), .ref (B 6), .int (nI jb), .int mko28, .ref (B 7), .int (nI (w133_dr + 1))])) := ⟨_, rfl⟩
                    replace hW : gw_P G.1 vwCl G.2.2.2 M32 H := by rw [eM32]; exact hW
                    have hf_1 : M32 (B 1) = some (101, .inl (G.2.1 0, 10000, .inl f1o28)) := by rw [eM32]; exact gw_keep hf_1 hf_0 (by decide)
                    have hf_2 : M32 (B 2) = some (102, .inl (G.2.1 0, 300, .inl f2o28)) := by rw [eM32]; exact gw_keep hf_2 hf_0 (by decide)
                    have hf_3 : M32 (B 3) = some (103, .inl (G.2.1 0, 10240, .inl f3o28)) := by rw [eM32]; exact gw_keep hf_3 hf_0 (by decide)
                    have hf_4 : M32 (B 4) = some (104, .inl (G.2.1 0, 41, .inl f4o28)) := by rw [eM32]; exact gw_keep hf_4 hf_0 (by decide)
                    have hf_5 : M32 (B 5) = some (105, .inl (G.2.1 0, 41, .inl f5o28)) := by rw [eM32]; exact gw_keep hf_5 hf_0 (by decide)
                    have hf_6 : M32 (B 6) = some (106, .inl (G.2.1 0, 4100, .inl f6o28)) := by rw [eM32]; exact gw_keep hf_6 hf_0 (by decide)
                    have hf_7 : M32 (B 7) = some (107, .inl (G.2.1 0, 2048, .inl (upd f7o28 (nI w133_dr : Int32).toNatClampNeg v22))) := by rw [eM32]; exact gw_keep hf_7 hf_0 (by decide)
                    have hf_0 : M32 (B 0) = some (100, .inr (5, [.int cdo28, .int (nI lm), .int sm, .int E, .ref (B 1), .ref (B 2), .int (nI (sz + 1)), .ref (B 3), .ref (B 4), .ref (B 5), .ref (B 6), .int (nI jb), .int mko28, .ref (B 7), .int (nI (w133_dr + 1))])) := by rw [eM32]; exact gw_up_self _ _ _ _
                    rw [← eM32] at hF31
                    rw [← eM32] at hXn
                    replace hX := hXn
                    clear hXn
                    refine lv_iinc (v := (nI k133) + 1) (lv' := [(4, .int ((nI k133) + 1)), (5, .int v22), (3, .int (nI go)), (2, .int (nI p4_2)), (0, .ref (B 0)), (1, .int k)]) hx hb d_Mo_enter_194 hl (k := 1) rfl rfl (by decide) rfl (fun ls hl => ?_)
                    refine lv_goto (tgt := 133) hx hb d_Mo_enter_197 (by decide) ?_
                    rw [nI_1] at hl
                    apply ih133 (ls := ls) (k133 := k133 + 1) (H := H) (locs := locs) (M9 := M32) (w133_dr := w133_dr + 1) <;> first | exact lv_sub hl [0, 2, 3, 4, 5] rfl | exact hX | exact hW | exact hS | exact hF31 | omega | assumption
                  · refine lv_aload_n hx hb d_Mo_enter_155 rfl (lv_at hl 4 rfl) ?_
                    refine gw_get (ci := 5) (fs := [.int cdo21, .int (nI lm), .int sm, .int E, .ref (B 1), .ref (B 2), .int (nI (sz + 1)), .ref (B 3), .ref (B 4), .ref (B 5), .ref (B 6), .int (nI jb), .int mko21, .ref (B 7), .int (nI w133_dr)]) hx hb hts in_Mo hown hE.K hW hf_0 rfl 4 (by decide) (hts _ mw223) (fun _ h9 => h9) rfl d_Mo_enter_156 ?_
                    refine lv_iload hx hb d_Mo_enter_159 (lv_at hl 0 rfl) ?_
                    refine lv_iconst (v := 0) hx hb d_Mo_enter_161 (by decide) ?_
                    refine gw_iast (i := v22) (x := 0) hx hb hE.K hW hS 0 hf_1 rfl (gm_in hv22) d_Mo_enter_162 (fun H locs hW hS => ?_)
                    have hXn : gm_X G B lm sm E jb (sz + 1) w133_dr (gw_up M9 (B 1) 101 (.inl (G.2.1 0, 10000, .inl (upd f1o21 (v22 : Int32).toNatClampNeg 0)))) := hX.up101 hf_1
                    have hF33 : gw_fg (gw_out [100, 101, 102, 103, 104, 105, 106, 107]) M (gw_up M9 (B 1) 101 (.inl (G.2.1 0, 10000, .inl (upd f1o21 (v22 : Int32).toNatClampNeg 0)))) := gw_fg.up hF hf_1 (show ¬ ((gw_out [100, 101, 102, 103, 104, 105, 106, 107]) 101) by decide) (show ¬ ((gw_out [100, 101, 102, 103, 104, 105, 106, 107]) 101) by decide)
                    obtain ⟨M34, eM34⟩ : ∃ z, z = gw_up M9 (B 1) 101 (.inl (G.2.1 0, 10000, .inl (upd f1o21 (v22 : Int32).toNatClampNeg 0))) := ⟨_, rfl⟩
                    replace hW : gw_P G.1 vwCl G.2.2.2 M34 H := by rw [eM34]; exact hW
                    have hf_0 : M34 (B 0) = some (100, .inr (5, [.int cdo21, .int (nI lm), .int sm, .int E, .ref (B 1), .ref (B 2), .int (nI (sz + 1)), .ref (B 3), .ref (B 4), .ref (B 5), .ref (B 6), .int (nI jb), .int mko21, .ref (B 7), .int (nI w133_dr)])) := by rw [eM34]; exact gw_keep hf_0 hf_1 (by decide)
                    have hf_2 : M34 (B 2) = some (102, .inl (G.2.1 0, 300, .inl f2o21)) := by rw [eM34]; exact gw_keep hf_2 hf_1 (by decide)
                    have hf_3 : M34 (B 3) = some (103, .inl (G.2.1 0, 10240, .inl f3o21)) := by rw [eM34]; exact gw_keep hf_3 hf_1 (by decide)
                    have hf_4 : M34 (B 4) = some (104, .inl (G.2.1 0, 41, .inl f4o21)) := by rw [eM34]; exact gw_keep hf_4 hf_1 (by decide)
                    have hf_5 : M34 (B 5) = some (105, .inl (G.2.1 0, 41, .inl f5o21)) := by rw [eM34]; exact gw_keep hf_5 hf_1 (by decide)
                    have hf_6 : M34 (B 6) = some (106, .inl (G.2.1 0, 4100, .inl f6o21)) := by rw [eM34]; exact gw_keep hf_6 hf_1 (by decide)
                    have hf_7 : M34 (B 7) = some (107, .inl (G.2.1 0, 2048, .inl f7o21)) := by rw [eM34]; exact gw_keep hf_7 hf_1 (by decide)
                    have hf_1 : M34 (B 1) = some (101, .inl (G.2.1 0, 10000, .inl (upd f1o21 (v22 : Int32).toNatClampNeg 0))) := by rw [eM34]; exact gw_up_self _ _ _ _
                    rw [← eM34] at hF33
                    rw [← eM34] at hXn
                    replace hX := hXn
                    clear hXn
                    refine lv_goto (tgt := 173) hx hb d_Mo_enter_163 (by decide) ?_
                    refine lv_aload_n hx hb d_Mo_enter_173 rfl (lv_at hl 4 rfl) ?_
                    refine gw_get (ci := 5) (fs := [.int cdo21, .int (nI lm), .int sm, .int E, .ref (B 1), .ref (B 2), .int (nI (sz + 1)), .ref (B 3), .ref (B 4), .ref (B 5), .ref (B 6), .int (nI jb), .int mko21, .ref (B 7), .int (nI w133_dr)]) hx hb hts in_Mo hown hE.K hW hf_0 rfl 13 (by decide) (hts _ mw246) (fun _ h9 => h9) rfl d_Mo_enter_174 ?_
                    refine lv_aload_n hx hb d_Mo_enter_177 rfl (lv_at hl 4 rfl) ?_
                    refine gw_get (ci := 5) (fs := [.int cdo21, .int (nI lm), .int sm, .int E, .ref (B 1), .ref (B 2), .int (nI (sz + 1)), .ref (B 3), .ref (B 4), .ref (B 5), .ref (B 6), .int (nI jb), .int mko21, .ref (B 7), .int (nI w133_dr)]) hx hb hts in_Mo hown hE.K hW hf_0 rfl 14 (by decide) (hts _ mw247) (fun _ h9 => h9) rfl d_Mo_enter_178 ?_
                    refine lv_iload hx hb d_Mo_enter_181 (lv_at hl 0 rfl) ?_
                    refine gw_iast (i := nI w133_dr) (x := v22) hx hb hE.K hW hS 0 hf_7 rfl (vp_in_nI (by omega) (by omega)) d_Mo_enter_183 (fun H locs hW hS => ?_)
                    have hXn : gm_X G B lm sm E jb (sz + 1) w133_dr (gw_up M34 (B 7) 107 (.inl (G.2.1 0, 2048, .inl (upd f7o21 (nI w133_dr : Int32).toNatClampNeg v22)))) := hX.up107 hf_7
                    have hF35 : gw_fg (gw_out [100, 101, 102, 103, 104, 105, 106, 107]) M (gw_up M34 (B 7) 107 (.inl (G.2.1 0, 2048, .inl (upd f7o21 (nI w133_dr : Int32).toNatClampNeg v22)))) := gw_fg.up hF33 hf_7 (show ¬ ((gw_out [100, 101, 102, 103, 104, 105, 106, 107]) 107) by decide) (show ¬ ((gw_out [100, 101, 102, 103, 104, 105, 106, 107]) 107) by decide)
                    obtain ⟨M36, eM36⟩ : ∃ z, z = gw_up M34 (B 7) 107 (.inl (G.2.1 0, 2048, .inl (upd f7o21 (nI w133_dr : Int32).toNatClampNeg v22))) := ⟨_, rfl⟩
                    replace hW : gw_P G.1 vwCl G.2.2.2 M36 H := by rw [eM36]; exact hW
                    have hf_0 : M36 (B 0) = some (100, .inr (5, [.int cdo21, .int (nI lm), .int sm, .int E, .ref (B 1), .ref (B 2), .int (nI (sz + 1)), .ref (B 3), .ref (B 4), .ref (B 5), .ref (B 6), .int (nI jb), .int mko21, .ref (B 7), .int (nI w133_dr)])) := by rw [eM36]; exact gw_keep hf_0 hf_7 (by decide)
                    have hf_2 : M36 (B 2) = some (102, .inl (G.2.1 0, 300, .inl f2o21)) := by rw [eM36]; exact gw_keep hf_2 hf_7 (by decide)
                    have hf_3 : M36 (B 3) = some (103, .inl (G.2.1 0, 10240, .inl f3o21)) := by rw [eM36]; exact gw_keep hf_3 hf_7 (by decide)
                    have hf_4 : M36 (B 4) = some (104, .inl (G.2.1 0, 41, .inl f4o21)) := by rw [eM36]; exact gw_keep hf_4 hf_7 (by decide)
                    have hf_5 : M36 (B 5) = some (105, .inl (G.2.1 0, 41, .inl f5o21)) := by rw [eM36]; exact gw_keep hf_5 hf_7 (by decide)
                    have hf_6 : M36 (B 6) = some (106, .inl (G.2.1 0, 4100, .inl f6o21)) := by rw [eM36]; exact gw_keep hf_6 hf_7 (by decide)
                    have hf_1 : M36 (B 1) = some (101, .inl (G.2.1 0, 10000, .inl (upd f1o21 (v22 : Int32).toNatClampNeg 0))) := by rw [eM36]; exact gw_keep hf_1 hf_7 (by decide)
                    have hf_7 : M36 (B 7) = some (107, .inl (G.2.1 0, 2048, .inl (upd f7o21 (nI w133_dr : Int32).toNatClampNeg v22))) := by rw [eM36]; exact gw_up_self _ _ _ _
                    rw [← eM36] at hF35
                    rw [← eM36] at hXn
                    replace hX := hXn
                    clear hXn
                    refine lv_aload_n hx hb d_Mo_enter_184 rfl (lv_at hl 4 rfl) ?_
                    refine lv_dup hx hb d_Mo_enter_185 rfl ?_
                    refine gw_get (ci := 5) (fs := [.int cdo21, .int (nI lm), .int sm, .int E, .ref (B 1), .ref (B 2), .int (nI (sz + 1)), .ref (B 3), .ref (B 4), .ref (B 5), .ref (B 6), .int (nI jb), .int mko21, .ref (B 7), .int (nI w133_dr)]) hx hb hts in_Mo hown hE.K hW hf_0 rfl 14 (by decide) (hts _ mw247) (fun _ h9 => h9) rfl d_Mo_enter_186 ?_
                    refine lv_iconst (v := 1) hx hb d_Mo_enter_189 (by decide) ?_
                    refine lv_iadd hx hb d_Mo_enter_190 ?_
                    refine W.eq (g2 := F0 m 191 ls [.int (nI (w133_dr + 1)), .ref (B 0)]) (by rw [nI_1]) ?_
                    refine gw_put (ci := 5) (fs := [.int cdo21, .int (nI lm), .int sm, .int E, .ref (B 1), .ref (B 2), .int (nI (sz + 1)), .ref (B 3), .ref (B 4), .ref (B 5), .ref (B 6), .int (nI jb), .int mko21, .ref (B 7), .int (nI w133_dr)]) (v := .int (nI (w133_dr + 1))) (ty := .int) hx hb hts in_Mo t_Mo t_Mo_ok n_Mo hown hE.K hW hS hf_0 rfl 14 (by decide) (hts _ mw247) (fun _ h9 => h9) rfl (by decide +kernel) rfl rfl (Nat.le_of_ble_eq_true rfl) d_Mo_enter_191 (fun H locs hW hS => ?_)
                    have hXn : gm_X G B lm sm E jb (sz + 1) (w133_dr + 1) (gw_up M36 (B 0) 100 (.inr (5, [.int cdo21, .int (nI lm), .int sm, .int E, .ref (B 1), .ref (B 2), .int (nI (sz + 1)), .ref (B 3), .ref (B 4), .ref (B 5), .ref (B 6), .int (nI jb), .int mko21, .ref (B 7), .int (nI (w133_dr + 1))]))) := hX.up100 hf_0 (by omega)
                    have hF37 : gw_fg (gw_out [100, 101, 102, 103, 104, 105, 106, 107]) M (gw_up M36 (B 0) 100 (.inr (5, [.int cdo21, .int (nI lm), .int sm, .int E, .ref (B 1), .ref (B 2), .int (nI (sz + 1)), .ref (B 3), .ref (B 4), .ref (B 5), .ref (B 6), .int (nI jb), .int mko21, .ref (B 7), .int (nI (w133_dr + 1))]))) := gw_fg.up hF35 hf_0 (show ¬ ((gw_out [100, 101, 102, 103, 104, 105, 106, 107]) 100) by decide) (show ¬ ((gw_out [100, 101, 102, 103, 104, 105, 106, 107]) 100) by decide)
                    obtain ⟨M38, eM38⟩ : ∃ z, z = gw_up M36 (B 0) 100 (.inr (5, [.int cdo21, .int (nI lm), .int sm, .int E, .ref (B 1), .ref (B 2), .int (nI (sz + 1)), .ref (B 3), .ref (B 4), .ref (B 5), .ref (B 6), .int (nI jb), .int mko21, .ref (B 7), .int (nI (w133_dr + 1))])) := ⟨_, rfl⟩
                    replace hW : gw_P G.1 vwCl G.2.2.2 M38 H := by rw [eM38]; exact hW
                    have hf_2 : M38 (B 2) = some (102, .inl (G.2.1 0, 300, .inl f2o21)) := by rw [eM38]; exact gw_keep hf_2 hf_0 (by decide)
                    have hf_3 : M38 (B 3) = some (103, .inl (G.2.1 0, 10240, .inl f3o21)) := by rw [eM38]; exact gw_keep hf_3 hf_0 (by decide)
                    have hf_4 : M38 (B 4) = some (104, .inl (G.2.1 0, 41, .inl f4o21)) := by rw [eM38]; exact gw_keep hf_4 hf_0 (by decide)
                    have hf_5 : M38 (B 5) = some (105, .inl (G.2.1 0, 41, .inl f5o21)) := by rw [eM38]; exact gw_keep hf_5 hf_0 (by decide)
                    have hf_6 : M38 (B 6) = some (106, .inl (G.2.1 0, 4100, .inl f6o21)) := by rw [eM38]; exact gw_keep hf_6 hf_0 (by decide)
                    have hf_1 : M38 (B 1) = some (101, .inl (G.2.1 0, 10000, .inl (upd f1o21 (v22 : Int32).toNatClampNeg 0))) := by rw [eM38]; exact gw_keep hf_1 hf_0 (by decide)
                    have hf_7 : M38 (B 7) = some (107, .inl (G.2.1 0, 2048, .inl (upd f7o21 (nI w133_dr : Int32).toNatClampNeg v22))) := by rw [eM38]; exact gw_keep hf_7 hf_0 (by decide)
                    have hf_0 : M38 (B 0) = some (100, .inr (5, [.int cdo21, .int (nI lm), .int sm, .int E, .ref (B 1), .ref (B 2), .int (nI (sz + 1)), .ref (B 3), .ref (B 4), .ref (B 5), .ref (B 6), .int (nI jb), .int mko21, .ref (B 7), .int (nI (w133_dr + 1))])) := by rw [eM38]; exact gw_up_self _ _ _ _
                    rw [← eM38] at hF37
                    rw [← eM38] at hXn
                    replace hX := hXn
                    clear hXn
                    refine lv_iinc (v := (nI k133) + 1) (lv' := [(4, .int ((nI k133) + 1)), (5, .int v22), (3, .int (nI go)), (2, .int (nI p4_2)), (0, .ref (B 0)), (1, .int k)]) hx hb d_Mo_enter_194 hl (k := 1) rfl rfl (by decide) rfl (fun ls hl => ?_)
                    refine lv_goto (tgt := 133) hx hb d_Mo_enter_197 (by decide) ?_
                    rw [nI_1] at hl
                    apply ih133 (ls := ls) (k133 := k133 + 1) (H := H) (locs := locs) (M9 := M38) (w133_dr := w133_dr + 1) <;> first | exact lv_sub hl [0, 2, 3, 4, 5] rfl | exact hX | exact hW | exact hS | exact hF37 | omega | assumption
            · refine lv_aload_n hx hb d_Mo_enter_111 rfl (lv_at hl 2 rfl) ?_
              refine gw_get (ci := 5) (fs := [.int cdo13, .int (nI lm), .int sm, .int E, .ref (B 1), .ref (B 2), .int (nI (sz + 1)), .ref (B 3), .ref (B 4), .ref (B 5), .ref (B 6), .int (nI jb), .int mko13, .ref (B 7), .int (nI dr)]) hx hb hts in_Mo hown hE.K hW hf_0 rfl 6 (by decide) (hts _ mw237) (fun _ h9 => h9) rfl d_Mo_enter_112 ?_
              refine lv_iconst (v := 1) hx hb d_Mo_enter_115 (by decide) ?_
              refine lv_isub hx hb d_Mo_enter_116 ?_
              refine lv_goto (tgt := 129) hx hb d_Mo_enter_117 (by decide) ?_
              obtain ⟨go, hg1, hg2, hg3, hgo⟩ : ∃ z : Nat, 1 ≤ z ∧ z ≤ sz + 1 ∧ sz + 1 - z ≤ lm ∧ (nI (sz + 1)) - 1 = nI z := ⟨sz, by omega, by omega, by omega, by rw [nI_pred]⟩
              refine W.eq (g2 := F0 m 129 ls [.int (nI go)]) (by rw [hgo]) ?_
              refine lv_istore_n (lv' := [(3, .int (nI go)), (2, .int (nI p4_2)), (0, .ref (B 0)), (1, .int k)]) hx hb d_Mo_enter_129 rfl hl (by decide) rfl (fun ls hl => ?_)
              refine lv_iconst (v := 0) hx hb d_Mo_enter_130 (by decide) ?_
              refine lv_istore (lv' := [(4, .int 0), (3, .int (nI go)), (2, .int (nI p4_2)), (0, .ref (B 0)), (1, .int k)]) hx hb d_Mo_enter_131 hl (by decide) rfl (fun ls hl => ?_)
              obtain ⟨k133, ek133⟩ : ∃ z : Nat, z = 0 := ⟨_, rfl⟩
              replace hl : lv_has ls 6 [(4, .int (nI k133)), (3, .int (nI go)), (2, .int (nI p4_2)), (0, .ref (B 0)), (1, .int k)] := by subst ek133; exact lv_sub hl [0, 1, 2, 3, 4] rfl
              obtain ⟨w133_dr, ew133_dr⟩ : ∃ z : Nat, z = dr := ⟨_, rfl⟩
              replace hX : gm_X G B lm sm E jb (sz + 1) w133_dr M9 := by rw [ew133_dr]; exact hX
              have hk133 : k133 ≤ go ∧ w133_dr = dr + k133 := by omega
              clear ek133 ew133_dr
              clear hf_0 hf_1 hf_2 hf_3 hf_4 hf_5 hf_6 hf_7
              try clear eM9
              have hF := hF12
              clear hF12
              obtain ⟨n133, hn133⟩ : ∃ z : Nat, go - k133 < z := ⟨_, Nat.lt_succ_self _⟩
              induction n133 generalizing k133 ls H locs M9 w133_dr with
              | zero => exact absurd hn133 (Nat.not_lt_zero _)
              | succ n133 ih133 =>
                refine lv_iload hx hb d_Mo_enter_133 (lv_at hl 0 rfl) ?_
                refine lv_iload_n hx hb d_Mo_enter_135 rfl (lv_at hl 1 rfl) ?_
                refine lv_icmp_ge (tgt := 200) hx hb d_Mo_enter_136 (by decide) (fun c136 => ?_) (fun c136 => ?_)
                · have hge := (nI_leI (by omega) (by omega)).mp c136
                  refine lv_iload_n hx hb d_Mo_enter_200 rfl (lv_at hl 1 rfl) ?_
                  refine lv_istore (lv' := [(4, .int (nI go)), (3, .int (nI go)), (2, .int (nI p4_2)), (0, .ref (B 0)), (1, .int k)]) hx hb d_Mo_enter_201 hl (by decide) rfl (fun ls hl => ?_)
                  obtain ⟨k203, ek203⟩ : ∃ z : Nat, z = go := ⟨_, rfl⟩
                  replace hl : lv_has ls 6 [(4, .int (nI k203)), (3, .int (nI go)), (2, .int (nI p4_2)), (0, .ref (B 0)), (1, .int k)] := by subst ek203; exact lv_sub hl [0, 1, 2, 3, 4] rfl
                  have hk203 : go ≤ k203 ∧ k203 ≤ sz + 1 := by omega
                  clear ek203
                  try clear eM9
                  obtain ⟨n203, hn203⟩ : ∃ z : Nat, sz + 1 - k203 < z := ⟨_, Nat.lt_succ_self _⟩
                  induction n203 generalizing k203 ls H locs M9 with
                  | zero => exact absurd hn203 (Nat.not_lt_zero _)
                  | succ n203 ih203 =>
                    refine lv_iload hx hb d_Mo_enter_203 (lv_at hl 0 rfl) ?_
                    refine lv_aload_n hx hb d_Mo_enter_205 rfl (lv_at hl 3 rfl) ?_
                    obtain ⟨cdo39, mko39, f1o39, f2o39, f3o39, f4o39, f5o39, f6o39, f7o39, hf_0, hf_1, hf_2, hf_3, hf_4, hf_5, hf_6, hf_7, hk2o39, hk3o39, hk4o39, -, -⟩ := id hX
                    refine gw_get (ci := 5) (fs := [.int cdo39, .int (nI lm), .int sm, .int E, .ref (B 1), .ref (B 2), .int (nI (sz + 1)), .ref (B 3), .ref (B 4), .ref (B 5), .ref (B 6), .int (nI jb), .int mko39, .ref (B 7), .int (nI w133_dr)]) hx hb hts in_Mo hown hE.K hW hf_0 rfl 6 (by decide) (hts _ mw237) (fun _ h9 => h9) rfl d_Mo_enter_206 ?_
                    refine lv_icmp_ge (tgt := 234) hx hb d_Mo_enter_209 (by decide) (fun c209 => ?_) (fun c209 => ?_)
                    · refine lv_aload_n hx hb d_Mo_enter_234 rfl (lv_at hl 3 rfl) ?_
                      refine lv_dup hx hb d_Mo_enter_235 rfl ?_
                      refine gw_get (ci := 5) (fs := [.int cdo39, .int (nI lm), .int sm, .int E, .ref (B 1), .ref (B 2), .int (nI (sz + 1)), .ref (B 3), .ref (B 4), .ref (B 5), .ref (B 6), .int (nI jb), .int mko39, .ref (B 7), .int (nI w133_dr)]) hx hb hts in_Mo hown hE.K hW hf_0 rfl 6 (by decide) (hts _ mw237) (fun _ h9 => h9) rfl d_Mo_enter_236 ?_
                      refine lv_iload_n hx hb d_Mo_enter_239 rfl (lv_at hl 1 rfl) ?_
                      refine lv_isub hx hb d_Mo_enter_240 ?_
                      refine W.eq (g2 := F0 m 241 ls [.int (nI (sz + 1 - go)), .ref (B 0)]) (by rw [pk_sub (by omega)]) ?_
                      refine gw_put (ci := 5) (fs := [.int cdo39, .int (nI lm), .int sm, .int E, .ref (B 1), .ref (B 2), .int (nI (sz + 1)), .ref (B 3), .ref (B 4), .ref (B 5), .ref (B 6), .int (nI jb), .int mko39, .ref (B 7), .int (nI w133_dr)]) (v := .int (nI (sz + 1 - go))) (ty := .int) hx hb hts in_Mo t_Mo t_Mo_ok n_Mo hown hE.K hW hS hf_0 rfl 6 (by decide) (hts _ mw237) (fun _ h9 => h9) rfl (by decide +kernel) rfl rfl (Nat.le_of_ble_eq_true rfl) d_Mo_enter_241 (fun H locs hW hS => ?_)
                      have hXn : gm_X G B lm sm E jb (sz + 1 - go) w133_dr (gw_up M9 (B 0) 100 (.inr (5, [.int cdo39, .int (nI lm), .int sm, .int E, .ref (B 1), .ref (B 2), .int (nI (sz + 1 - go)), .ref (B 3), .ref (B 4), .ref (B 5), .ref (B 6), .int (nI jb), .int mko39, .ref (B 7), .int (nI w133_dr)]))) := hX.up100 hf_0 (by omega)
                      have hF40 : gw_fg (gw_out [100, 101, 102, 103, 104, 105, 106, 107]) M (gw_up M9 (B 0) 100 (.inr (5, [.int cdo39, .int (nI lm), .int sm, .int E, .ref (B 1), .ref (B 2), .int (nI (sz + 1 - go)), .ref (B 3), .ref (B 4), .ref (B 5), .ref (B 6), .int (nI jb), .int mko39, .ref (B 7), .int (nI w133_dr)]))) := gw_fg.up hF hf_0 (show ¬ ((gw_out [100, 101, 102, 103, 104, 105, 106, 107]) 100) by decide) (show ¬ ((gw_out [100, 101, 102, 103, 104, 105, 106, 107]) 100) by decide)
                      obtain ⟨M41, eM41⟩ : ∃ z, z = gw_up M9 (B 0) 100 (.inr (5, [.int cdo39, .int (nI lm), .int sm, .int E, .ref (B 1), .ref (B 2), .int (nI (sz + 1 - go)), .ref (B 3), .ref (B 4), .ref (B 5), .ref (B 6), .int (nI jb), .int mko39, .ref (B 7), .int (nI w133_dr)])) := ⟨_, rfl⟩
                      replace hW : gw_P G.1 vwCl G.2.2.2 M41 H := by rw [eM41]; exact hW
                      have hf_1 : M41 (B 1) = some (101, .inl (G.2.1 0, 10000, .inl f1o39)) := by rw [eM41]; exact gw_keep hf_1 hf_0 (by decide)
                      have hf_2 : M41 (B 2) = some (102, .inl (G.2.1 0, 300, .inl f2o39)) := by rw [eM41]; exact gw_keep hf_2 hf_0 (by decide)
                      have hf_3 : M41 (B 3) = some (103, .inl (G.2.1 0, 10240, .inl f3o39)) := by rw [eM41]; exact gw_keep hf_3 hf_0 (by decide)
                      have hf_4 : M41 (B 4) = some (104, .inl (G.2.1 0, 41, .inl f4o39)) := by rw [eM41]; exact gw_keep hf_4 hf_0 (by decide)
                      have hf_5 : M41 (B 5) = some (105, .inl (G.2.1 0, 41, .inl f5o39)) := by rw [eM41]; exact gw_keep hf_5 hf_0 (by decide)
                      have hf_6 : M41 (B 6) = some (106, .inl (G.2.1 0, 4100, .inl f6o39)) := by rw [eM41]; exact gw_keep hf_6 hf_0 (by decide)
                      have hf_7 : M41 (B 7) = some (107, .inl (G.2.1 0, 2048, .inl f7o39)) := by rw [eM41]; exact gw_keep hf_7 hf_0 (by decide)
                      have hf_0 : M41 (B 0) = some (100, .inr (5, [.int cdo39, .int (nI lm), .int sm, .int E, .ref (B 1), .ref (B 2), .int (nI (sz + 1 - go)), .ref (B 3), .ref (B 4), .ref (B 5), .ref (B 6), .int (nI jb), .int mko39, .ref (B 7), .int (nI w133_dr)])) := by rw [eM41]; exact gw_up_self _ _ _ _
                      rw [← eM41] at hF40
                      rw [← eM41] at hXn
                      replace hX := hXn
                      clear hXn
                      exact gw_vret hx hb hr hlocks hS hW (Nat.le_of_ble_eq_true rfl) (Nat.le_of_ble_eq_true rfl) d_Mo_enter_244 ⟨sz + 1 - go, w133_dr, (by omega), (by omega), hX, hF40⟩
                    · have hlt4 := gx_ltN c209 (by omega) (by omega)
                      refine lv_aload_n hx hb d_Mo_enter_212 rfl (lv_at hl 3 rfl) ?_
                      refine gw_get (ci := 5) (fs := [.int cdo39, .int (nI lm), .int sm, .int E, .ref (B 1), .ref (B 2), .int (nI (sz + 1)), .ref (B 3), .ref (B 4), .ref (B 5), .ref (B 6), .int (nI jb), .int mko39, .ref (B 7), .int (nI w133_dr)]) hx hb hts in_Mo hown hE.K hW hf_0 rfl 5 (by decide) (hts _ mw238) (fun _ h9 => h9) rfl d_Mo_enter_213 ?_
                      refine lv_iload hx hb d_Mo_enter_216 (lv_at hl 0 rfl) ?_
                      refine lv_iload_n hx hb d_Mo_enter_218 rfl (lv_at hl 1 rfl) ?_
                      refine lv_isub hx hb d_Mo_enter_219 ?_
                      refine lv_aload_n hx hb d_Mo_enter_220 rfl (lv_at hl 3 rfl) ?_
                      refine gw_get (ci := 5) (fs := [.int cdo39, .int (nI lm), .int sm, .int E, .ref (B 1), .ref (B 2), .int (nI (sz + 1)), .ref (B 3), .ref (B 4), .ref (B 5), .ref (B 6), .int (nI jb), .int mko39, .ref (B 7), .int (nI w133_dr)]) hx hb hts in_Mo hown hE.K hW hf_0 rfl 5 (by decide) (hts _ mw238) (fun _ h9 => h9) rfl d_Mo_enter_221 ?_
                      refine lv_iload hx hb d_Mo_enter_224 (lv_at hl 0 rfl) ?_
                      refine gw_iald (i := nI k203) hx hb hE.K hW 0 hf_2 rfl (vp_in_nI (by omega) (by omega)) d_Mo_enter_226 ?_
                      obtain ⟨v42, ev42⟩ : ∃ z : Int32, z = f2o39 (nI k203 : Int32).toNatClampNeg := ⟨_, rfl⟩
                      have hv42 : gm_k v42 := by rw [ev42]; exact hk2o39 _
                      refine W.eq (g2 := F0 m 227 ls [.int v42, .int ((nI k203) - (nI go)), .ref (B 2)]) (by rw [ev42]) ?_
                      refine gw_iast (i := (nI k203) - (nI go)) (x := v42) hx hb hE.K hW hS 0 hf_2 rfl (by rw [pk_sub (by omega)]; exact vp_in_nI (by omega) (by omega)) d_Mo_enter_227 (fun H locs hW hS => ?_)
                      have hXn : gm_X G B lm sm E jb (sz + 1) w133_dr (gw_up M9 (B 2) 102 (.inl (G.2.1 0, 300, .inl (upd f2o39 ((nI k203) - (nI go) : Int32).toNatClampNeg v42)))) := hX.up102 hf_2 (gm_upd hk2o39 hv42)
                      have hF43 : gw_fg (gw_out [100, 101, 102, 103, 104, 105, 106, 107]) M (gw_up M9 (B 2) 102 (.inl (G.2.1 0, 300, .inl (upd f2o39 ((nI k203) - (nI go) : Int32).toNatClampNeg v42)))) := gw_fg.up hF hf_2 (show ¬ ((gw_out [100, 101, 102, 103, 104, 105, 106, 107]) 102) by decide) (show ¬ ((gw_out [100, 101, 102, 103, 104, 105, 106, 107]) 102) by decide)
                      obtain ⟨M44, eM44⟩ : ∃ z, z = gw_up M9 (B 2) 102 (.inl (G.2.1 0, 300, .inl (upd f2o39 ((nI k203) - (nI go) : Int32).toNatClampNeg v42))) := ⟨_, rfl⟩
                      replace hW : gw_P G.1 vwCl G.2.2.2 M44 H := by rw [eM44]; exact hW
                      have hf_0 : M44 (B 0) = some (100, .inr (5, [.int cdo39, .int (nI lm), .int sm, .int E, .ref (B 1), .ref (B 2), .int (nI (sz + 1)), .ref (B 3), .ref (B 4), .ref (B 5), .ref (B 6), .int (nI jb), .int mko39, .ref (B 7), .int (nI w133_dr)])) := by rw [eM44]; exact gw_keep hf_0 hf_2 (by decide)
                      have hf_1 : M44 (B 1) = some (101, .inl (G.2.1 0, 10000, .inl f1o39)) := by rw [eM44]; exact gw_keep hf_1 hf_2 (by decide)
                      have hf_3 : M44 (B 3) = some (103, .inl (G.2.1 0, 10240, .inl f3o39)) := by rw [eM44]; exact gw_keep hf_3 hf_2 (by decide)
                      have hf_4 : M44 (B 4) = some (104, .inl (G.2.1 0, 41, .inl f4o39)) := by rw [eM44]; exact gw_keep hf_4 hf_2 (by decide)
                      have hf_5 : M44 (B 5) = some (105, .inl (G.2.1 0, 41, .inl f5o39)) := by rw [eM44]; exact gw_keep hf_5 hf_2 (by decide)
                      have hf_6 : M44 (B 6) = some (106, .inl (G.2.1 0, 4100, .inl f6o39)) := by rw [eM44]; exact gw_keep hf_6 hf_2 (by decide)
                      have hf_7 : M44 (B 7) = some (107, .inl (G.2.1 0, 2048, .inl f7o39)) := by rw [eM44]; exact gw_keep hf_7 hf_2 (by decide)
                      have hf_2 : M44 (B 2) = some (102, .inl (G.2.1 0, 300, .inl (upd f2o39 ((nI k203) - (nI go) : Int32).toNatClampNeg v42))) := by rw [eM44]; exact gw_up_self _ _ _ _
                      rw [← eM44] at hF43
                      rw [← eM44] at hXn
                      replace hX := hXn
                      clear hXn
                      have hks45 : ∀ i, gm_k ((upd f2o39 ((nI k203) - (nI go) : Int32).toNatClampNeg v42) i) := gm_upd hk2o39 hv42
                      refine lv_iinc (v := (nI k203) + 1) (lv' := [(4, .int ((nI k203) + 1)), (3, .int (nI go)), (2, .int (nI p4_2)), (0, .ref (B 0)), (1, .int k)]) hx hb d_Mo_enter_228 hl (k := 0) rfl rfl (by decide) rfl (fun ls hl => ?_)
                      refine lv_goto (tgt := 203) hx hb d_Mo_enter_231 (by decide) ?_
                      rw [nI_1] at hl
                      apply ih203 (ls := ls) (k203 := k203 + 1) (H := H) (locs := locs) (M9 := M44) <;> first | exact lv_sub hl [0, 1, 2, 3, 4] rfl | exact hX | exact hW | exact hS | exact hF43 | omega | assumption
                · have hlt3 := gx_ltN c136 (by omega) (by omega)
                  refine lv_aload_n hx hb d_Mo_enter_139 rfl (lv_at hl 3 rfl) ?_
                  obtain ⟨cdo46, mko46, f1o46, f2o46, f3o46, f4o46, f5o46, f6o46, f7o46, hf_0, hf_1, hf_2, hf_3, hf_4, hf_5, hf_6, hf_7, hk2o46, hk3o46, hk4o46, -, -⟩ := id hX
                  refine gw_get (ci := 5) (fs := [.int cdo46, .int (nI lm), .int sm, .int E, .ref (B 1), .ref (B 2), .int (nI (sz + 1)), .ref (B 3), .ref (B 4), .ref (B 5), .ref (B 6), .int (nI jb), .int mko46, .ref (B 7), .int (nI w133_dr)]) hx hb hts in_Mo hown hE.K hW hf_0 rfl 5 (by decide) (hts _ mw238) (fun _ h9 => h9) rfl d_Mo_enter_140 ?_
                  refine lv_iload hx hb d_Mo_enter_143 (lv_at hl 0 rfl) ?_
                  refine gw_iald (i := nI k133) hx hb hE.K hW 0 hf_2 rfl (vp_in_nI (by omega) (by omega)) d_Mo_enter_145 ?_
                  obtain ⟨v47, ev47⟩ : ∃ z : Int32, z = f2o46 (nI k133 : Int32).toNatClampNeg := ⟨_, rfl⟩
                  have hv47 : gm_k v47 := by rw [ev47]; exact hk2o46 _
                  refine W.eq (g2 := F0 m 146 ls [.int v47]) (by rw [ev47]) ?_
                  refine lv_istore (lv' := [(5, .int v47), (4, .int (nI k133)), (3, .int (nI go)), (2, .int (nI p4_2)), (0, .ref (B 0)), (1, .int k)]) hx hb d_Mo_enter_146 hl (by decide) rfl (fun ls hl => ?_)
                  refine lv_aload_n hx hb d_Mo_enter_148 rfl (lv_at hl 4 rfl) ?_
                  refine gw_get (ci := 5) (fs := [.int cdo46, .int (nI lm), .int sm, .int E, .ref (B 1), .ref (B 2), .int (nI (sz + 1)), .ref (B 3), .ref (B 4), .ref (B 5), .ref (B 6), .int (nI jb), .int mko46, .ref (B 7), .int (nI w133_dr)]) hx hb hts in_Mo hown hE.K hW hf_0 rfl 2 (by decide) (hts _ mw245) (fun _ h9 => h9) rfl d_Mo_enter_149 ?_
                  refine lv_if_eq (tgt := 166) hx hb d_Mo_enter_152 (by decide) (fun c152 => ?_) (fun c152 => ?_)
                  · refine lv_aload_n hx hb d_Mo_enter_166 rfl (lv_at hl 4 rfl) ?_
                    refine lv_iload hx hb d_Mo_enter_167 (lv_at hl 0 rfl) ?_
                    refine lv_iconst (v := 4) hx hb d_Mo_enter_169 (by decide) ?_
                    refine gw_callv hS (va_runV (As := [.int v47, .int 4]) (rest := []) ⟨hx, hb, hml, hown, hts⟩ (m_become l G M9 B lm sm E jb (sz + 1) w133_dr hX v47 4  hv47) (cwV 2 hts (gw_gv mw240 mw241 mw242 mw228 mw239) rfl rfl rfl (by decide +kernel) ⟨Nat.le_of_ble_eq_true rfl, Nat.le_of_ble_eq_true rfl⟩) (gw_pv hE hB hS hW rfl hf_0) rfl rfl hl.1 rfl (lv_room (Nat.le_of_ble_eq_true rfl)) d_Mo_enter_170 ⟨Nat.le_of_ble_eq_true rfl, Nat.le_of_ble_eq_true rfl⟩) (fun M49 H locs hw50 hW hS => ?_)
                    obtain ⟨hX, hfr51⟩ := hw50
                    have hF52 : gw_fg (gw_out [100, 101, 102, 103, 104, 105, 106, 107]) M M49 := gw_fg.tr hF (gw_fg.wk hfr51 (by decide))
                    clear hfr51
                    refine lv_aload_n hx hb d_Mo_enter_173 rfl (lv_at hl 4 rfl) ?_
                    obtain ⟨cdo53, mko53, f1o53, f2o53, f3o53, f4o53, f5o53, f6o53, f7o53, hf_0, hf_1, hf_2, hf_3, hf_4, hf_5, hf_6, hf_7, hk2o53, hk3o53, hk4o53, -, -⟩ := id hX
                    refine gw_get (ci := 5) (fs := [.int cdo53, .int (nI lm), .int sm, .int E, .ref (B 1), .ref (B 2), .int (nI (sz + 1)), .ref (B 3), .ref (B 4), .ref (B 5), .ref (B 6), .int (nI jb), .int mko53, .ref (B 7), .int (nI w133_dr)]) hx hb hts in_Mo hown hE.K hW hf_0 rfl 13 (by decide) (hts _ mw246) (fun _ h9 => h9) rfl d_Mo_enter_174 ?_
                    refine lv_aload_n hx hb d_Mo_enter_177 rfl (lv_at hl 4 rfl) ?_
                    refine gw_get (ci := 5) (fs := [.int cdo53, .int (nI lm), .int sm, .int E, .ref (B 1), .ref (B 2), .int (nI (sz + 1)), .ref (B 3), .ref (B 4), .ref (B 5), .ref (B 6), .int (nI jb), .int mko53, .ref (B 7), .int (nI w133_dr)]) hx hb hts in_Mo hown hE.K hW hf_0 rfl 14 (by decide) (hts _ mw247) (fun _ h9 => h9) rfl d_Mo_enter_178 ?_
                    refine lv_iload hx hb d_Mo_enter_181 (lv_at hl 0 rfl) ?_
                    refine gw_iast (i := nI w133_dr) (x := v47) hx hb hE.K hW hS 0 hf_7 rfl (vp_in_nI (by omega) (by omega)) d_Mo_enter_183 (fun H locs hW hS => ?_)
                    have hXn : gm_X G B lm sm E jb (sz + 1) w133_dr (gw_up M49 (B 7) 107 (.inl (G.2.1 0, 2048, .inl (upd f7o53 (nI w133_dr : Int32).toNatClampNeg v47)))) := hX.up107 hf_7
                    have hF54 : gw_fg (gw_out [100, 101, 102, 103, 104, 105, 106, 107]) M (gw_up M49 (B 7) 107 (.inl (G.2.1 0, 2048, .inl (upd f7o53 (nI w133_dr : Int32).toNatClampNeg v47)))) := gw_fg.up hF52 hf_7 (show ¬ ((gw_out [100, 101, 102, 103, 104, 105, 106, 107]) 107) by decide) (show ¬ ((gw_out [100, 101, 102, 103, 104, 105, 106, 107]) 107) by decide)
                    obtain ⟨M55, eM55⟩ : ∃ z, z = gw_up M49 (B 7) 107 (.inl (G.2.1 0, 2048, .inl (upd f7o53 (nI w133_dr : Int32).toNatClampNeg v47))) := ⟨_, rfl⟩
                    replace hW : gw_P G.1 vwCl G.2.2.2 M55 H := by rw [eM55]; exact hW
                    have hf_0 : M55 (B 0) = some (100, .inr (5, [.int cdo53, .int (nI lm), .int sm, .int E, .ref (B 1), .ref (B 2), .int (nI (sz + 1)), .ref (B 3), .ref (B 4), .ref (B 5), .ref (B 6), .int (nI jb), .int mko53, .ref (B 7), .int (nI w133_dr)])) := by rw [eM55]; exact gw_keep hf_0 hf_7 (by decide)
                    have hf_1 : M55 (B 1) = some (101, .inl (G.2.1 0, 10000, .inl f1o53)) := by rw [eM55]; exact gw_keep hf_1 hf_7 (by decide)
                    have hf_2 : M55 (B 2) = some (102, .inl (G.2.1 0, 300, .inl f2o53)) := by rw [eM55]; exact gw_keep hf_2 hf_7 (by decide)
                    have hf_3 : M55 (B 3) = some (103, .inl (G.2.1 0, 10240, .inl f3o53)) := by rw [eM55]; exact gw_keep hf_3 hf_7 (by decide)
                    have hf_4 : M55 (B 4) = some (104, .inl (G.2.1 0, 41, .inl f4o53)) := by rw [eM55]; exact gw_keep hf_4 hf_7 (by decide)
                    have hf_5 : M55 (B 5) = some (105, .inl (G.2.1 0, 41, .inl f5o53)) := by rw [eM55]; exact gw_keep hf_5 hf_7 (by decide)
                    have hf_6 : M55 (B 6) = some (106, .inl (G.2.1 0, 4100, .inl f6o53)) := by rw [eM55]; exact gw_keep hf_6 hf_7 (by decide)
                    have hf_7 : M55 (B 7) = some (107, .inl (G.2.1 0, 2048, .inl (upd f7o53 (nI w133_dr : Int32).toNatClampNeg v47))) := by rw [eM55]; exact gw_up_self _ _ _ _
                    rw [← eM55] at hF54
                    rw [← eM55] at hXn
                    replace hX := hXn
                    clear hXn
                    refine lv_aload_n hx hb d_Mo_enter_184 rfl (lv_at hl 4 rfl) ?_
                    refine lv_dup hx hb d_Mo_enter_185 rfl ?_
                    refine gw_get (ci := 5) (fs := [.int cdo53, .int (nI lm), .int sm, .int E, .ref (B 1), .ref (B 2), .int (nI (sz + 1)), .ref (B 3), .ref (B 4), .ref (B 5), .ref (B 6), .int (nI jb), .int mko53, .ref (B 7), .int (nI w133_dr)]) hx hb hts in_Mo hown hE.K hW hf_0 rfl 14 (by decide) (hts _ mw247) (fun _ h9 => h9) rfl d_Mo_enter_186 ?_
                    refine lv_iconst (v := 1) hx hb d_Mo_enter_189 (by decide) ?_
                    refine lv_iadd hx hb d_Mo_enter_190 ?_
                    refine W.eq (g2 := F0 m 191 ls [.int (nI (w133_dr + 1)), .ref (B 0)]) (by rw [nI_1]) ?_
                    refine gw_put (ci := 5) (fs := [.int cdo53, .int (nI lm), .int sm, .int E, .ref (B 1), .ref (B 2), .int (nI (sz + 1)), .ref (B 3), .ref (B 4), .ref (B 5), .ref (B 6), .int (nI jb), .int mko53, .ref (B 7), .int (nI w133_dr)]) (v := .int (nI (w133_dr + 1))) (ty := .int) hx hb hts in_Mo t_Mo t_Mo_ok n_Mo hown hE.K hW hS hf_0 rfl 14 (by decide) (hts _ mw247) (fun _ h9 => h9) rfl (by decide +kernel) rfl rfl (Nat.le_of_ble_eq_true rfl) d_Mo_enter_191 (fun H locs hW hS => ?_)
                    have hXn : gm_X G B lm sm E jb (sz + 1) (w133_dr + 1) (gw_up M55 (B 0) 100 (.inr (5, [.int cdo53, .int (nI lm), .int sm, .int E, .ref (B 1), .ref (B 2), .int (nI (sz + 1)), .ref (B 3), .ref (B 4), .ref (B 5), .ref (B 6), .int (nI jb), .int mko53, .ref (B 7), .int (nI (w133_dr + 1))]))) := hX.up100 hf_0 (by omega)
                    have hF56 : gw_fg (gw_out [100, 101, 102, 103, 104, 105, 106, 107]) M (gw_up M55 (B 0) 100 (.inr (5, [.int cdo53, .int (nI lm), .int sm, .int E, .ref (B 1), .ref (B 2), .int (nI (sz + 1)), .ref (B 3), .ref (B 4), .ref (B 5), .ref (B 6), .int (nI jb), .int mko53, .ref (B 7), .int (nI (w133_dr + 1))]))) := gw_fg.up hF54 hf_0 (show ¬ ((gw_out [100, 101, 102, 103, 104, 105, 106, 107]) 100) by decide) (show ¬ ((gw_out [100, 101, 102, 103, 104, 105, 106, 107]) 100) by decide)
                    obtain ⟨M57, eM57⟩ : ∃ z, z = gw_up M55 (B 0) 100 (.inr (5, [.int cdo53, .int (nI lm), .int sm, .int E, .ref (B 1), .ref (B 2), .int (nI (sz + 1)), .ref (B 3), .ref (B 4), .ref (B 5), .ref (B 6), .int (nI jb), .int mko53, .ref (B 7), .int (nI (w133_dr + 1))])) := ⟨_, rfl⟩
                    replace hW : gw_P G.1 vwCl G.2.2.2 M57 H := by rw [eM57]; exact hW
                    have hf_1 : M57 (B 1) = some (101, .inl (G.2.1 0, 10000, .inl f1o53)) := by rw [eM57]; exact gw_keep hf_1 hf_0 (by decide)
                    have hf_2 : M57 (B 2) = some (102, .inl (G.2.1 0, 300, .inl f2o53)) := by rw [eM57]; exact gw_keep hf_2 hf_0 (by decide)
                    have hf_3 : M57 (B 3) = some (103, .inl (G.2.1 0, 10240, .inl f3o53)) := by rw [eM57]; exact gw_keep hf_3 hf_0 (by decide)
                    have hf_4 : M57 (B 4) = some (104, .inl (G.2.1 0, 41, .inl f4o53)) := by rw [eM57]; exact gw_keep hf_4 hf_0 (by decide)
                    have hf_5 : M57 (B 5) = some (105, .inl (G.2.1 0, 41, .inl f5o53)) := by rw [eM57]; exact gw_keep hf_5 hf_0 (by decide)
                    have hf_6 : M57 (B 6) = some (106, .inl (G.2.1 0, 4100, .inl f6o53)) := by rw [eM57]; exact gw_keep hf_6 hf_0 (by decide)
                    have hf_7 : M57 (B 7) = some (107, .inl (G.2.1 0, 2048, .inl (upd f7o53 (nI w133_dr : Int32).toNatClampNeg v47))) := by rw [eM57]; exact gw_keep hf_7 hf_0 (by decide)
                    have hf_0 : M57 (B 0) = some (100, .inr (5, [.int cdo53, .int (nI lm), .int sm, .int E, .ref (B 1), .ref (B 2), .int (nI (sz + 1)), .ref (B 3), .ref (B 4), .ref (B 5), .ref (B 6), .int (nI jb), .int mko53, .ref (B 7), .int (nI (w133_dr + 1))])) := by rw [eM57]; exact gw_up_self _ _ _ _
                    rw [← eM57] at hF56
                    rw [← eM57] at hXn
                    replace hX := hXn
                    clear hXn
                    refine lv_iinc (v := (nI k133) + 1) (lv' := [(4, .int ((nI k133) + 1)), (5, .int v47), (3, .int (nI go)), (2, .int (nI p4_2)), (0, .ref (B 0)), (1, .int k)]) hx hb d_Mo_enter_194 hl (k := 1) rfl rfl (by decide) rfl (fun ls hl => ?_)
                    refine lv_goto (tgt := 133) hx hb d_Mo_enter_197 (by decide) ?_
                    rw [nI_1] at hl
                    apply ih133 (ls := ls) (k133 := k133 + 1) (H := H) (locs := locs) (M9 := M57) (w133_dr := w133_dr + 1) <;> first | exact lv_sub hl [0, 2, 3, 4, 5] rfl | exact hX | exact hW | exact hS | exact hF56 | omega | assumption
                  · refine lv_aload_n hx hb d_Mo_enter_155 rfl (lv_at hl 4 rfl) ?_
                    refine gw_get (ci := 5) (fs := [.int cdo46, .int (nI lm), .int sm, .int E, .ref (B 1), .ref (B 2), .int (nI (sz + 1)), .ref (B 3), .ref (B 4), .ref (B 5), .ref (B 6), .int (nI jb), .int mko46, .ref (B 7), .int (nI w133_dr)]) hx hb hts in_Mo hown hE.K hW hf_0 rfl 4 (by decide) (hts _ mw223) (fun _ h9 => h9) rfl d_Mo_enter_156 ?_
                    refine lv_iload hx hb d_Mo_enter_159 (lv_at hl 0 rfl) ?_
                    refine lv_iconst (v := 0) hx hb d_Mo_enter_161 (by decide) ?_
                    refine gw_iast (i := v47) (x := 0) hx hb hE.K hW hS 0 hf_1 rfl (gm_in hv47) d_Mo_enter_162 (fun H locs hW hS => ?_)
                    have hXn : gm_X G B lm sm E jb (sz + 1) w133_dr (gw_up M9 (B 1) 101 (.inl (G.2.1 0, 10000, .inl (upd f1o46 (v47 : Int32).toNatClampNeg 0)))) := hX.up101 hf_1
                    have hF58 : gw_fg (gw_out [100, 101, 102, 103, 104, 105, 106, 107]) M (gw_up M9 (B 1) 101 (.inl (G.2.1 0, 10000, .inl (upd f1o46 (v47 : Int32).toNatClampNeg 0)))) := gw_fg.up hF hf_1 (show ¬ ((gw_out [100, 101, 102, 103, 104, 105, 106, 107]) 101) by decide) (show ¬ ((gw_out [100, 101, 102, 103, 104, 105, 106, 107]) 101) by decide)
                    obtain ⟨M59, eM59⟩ : ∃ z, z = gw_up M9 (B 1) 101 (.inl (G.2.1 0, 10000, .inl (upd f1o46 (v47 : Int32).toNatClampNeg 0))) := ⟨_, rfl⟩
                    replace hW : gw_P G.1 vwCl G.2.2.2 M59 H := by rw [eM59]; exact hW
                    have hf_0 : M59 (B 0) = some (100, .inr (5, [.int cdo46, .int (nI lm), .int sm, .int E, .ref (B 1), .ref (B 2), .int (nI (sz + 1)), .ref (B 3), .ref (B 4), .ref (B 5), .ref (B 6), .int (nI jb), .int mko46, .ref (B 7), .int (nI w133_dr)])) := by rw [eM59]; exact gw_keep hf_0 hf_1 (by decide)
                    have hf_2 : M59 (B 2) = some (102, .inl (G.2.1 0, 300, .inl f2o46)) := by rw [eM59]; exact gw_keep hf_2 hf_1 (by decide)
                    have hf_3 : M59 (B 3) = some (103, .inl (G.2.1 0, 10240, .inl f3o46)) := by rw [eM59]; exact gw_keep hf_3 hf_1 (by decide)
                    have hf_4 : M59 (B 4) = some (104, .inl (G.2.1 0, 41, .inl f4o46)) := by rw [eM59]; exact gw_keep hf_4 hf_1 (by decide)
                    have hf_5 : M59 (B 5) = some (105, .inl (G.2.1 0, 41, .inl f5o46)) := by rw [eM59]; exact gw_keep hf_5 hf_1 (by decide)
                    have hf_6 : M59 (B 6) = some (106, .inl (G.2.1 0, 4100, .inl f6o46)) := by rw [eM59]; exact gw_keep hf_6 hf_1 (by decide)
                    have hf_7 : M59 (B 7) = some (107, .inl (G.2.1 0, 2048, .inl f7o46)) := by rw [eM59]; exact gw_keep hf_7 hf_1 (by decide)
                    have hf_1 : M59 (B 1) = some (101, .inl (G.2.1 0, 10000, .inl (upd f1o46 (v47 : Int32).toNatClampNeg 0))) := by rw [eM59]; exact gw_up_self _ _ _ _
                    rw [← eM59] at hF58
                    rw [← eM59] at hXn
                    replace hX := hXn
                    clear hXn
                    refine lv_goto (tgt := 173) hx hb d_Mo_enter_163 (by decide) ?_
                    refine lv_aload_n hx hb d_Mo_enter_173 rfl (lv_at hl 4 rfl) ?_
                    refine gw_get (ci := 5) (fs := [.int cdo46, .int (nI lm), .int sm, .int E, .ref (B 1), .ref (B 2), .int (nI (sz + 1)), .ref (B 3), .ref (B 4), .ref (B 5), .ref (B 6), .int (nI jb), .int mko46, .ref (B 7), .int (nI w133_dr)]) hx hb hts in_Mo hown hE.K hW hf_0 rfl 13 (by decide) (hts _ mw246) (fun _ h9 => h9) rfl d_Mo_enter_174 ?_
                    refine lv_aload_n hx hb d_Mo_enter_177 rfl (lv_at hl 4 rfl) ?_
                    refine gw_get (ci := 5) (fs := [.int cdo46, .int (nI lm), .int sm, .int E, .ref (B 1), .ref (B 2), .int (nI (sz + 1)), .ref (B 3), .ref (B 4), .ref (B 5), .ref (B 6), .int (nI jb), .int mko46, .ref (B 7), .int (nI w133_dr)]) hx hb hts in_Mo hown hE.K hW hf_0 rfl 14 (by decide) (hts _ mw247) (fun _ h9 => h9) rfl d_Mo_enter_178 ?_
                    refine lv_iload hx hb d_Mo_enter_181 (lv_at hl 0 rfl) ?_
                    refine gw_iast (i := nI w133_dr) (x := v47) hx hb hE.K hW hS 0 hf_7 rfl (vp_in_nI (by omega) (by omega)) d_Mo_enter_183 (fun H locs hW hS => ?_)
                    have hXn : gm_X G B lm sm E jb (sz + 1) w133_dr (gw_up M59 (B 7) 107 (.inl (G.2.1 0, 2048, .inl (upd f7o46 (nI w133_dr : Int32).toNatClampNeg v47)))) := hX.up107 hf_7
                    have hF60 : gw_fg (gw_out [100, 101, 102, 103, 104, 105, 106, 107]) M (gw_up M59 (B 7) 107 (.inl (G.2.1 0, 2048, .inl (upd f7o46 (nI w133_dr : Int32).toNatClampNeg v47)))) := gw_fg.up hF58 hf_7 (show ¬ ((gw_out [100, 101, 102, 103, 104, 105, 106, 107]) 107) by decide) (show ¬ ((gw_out [100, 101, 102, 103, 104, 105, 106, 107]) 107) by decide)
                    obtain ⟨M61, eM61⟩ : ∃ z, z = gw_up M59 (B 7) 107 (.inl (G.2.1 0, 2048, .inl (upd f7o46 (nI w133_dr : Int32).toNatClampNeg v47))) := ⟨_, rfl⟩
                    replace hW : gw_P G.1 vwCl G.2.2.2 M61 H := by rw [eM61]; exact hW
                    have hf_0 : M61 (B 0) = some (100, .inr (5, [.int cdo46, .int (nI lm), .int sm, .int E, .ref (B 1), .ref (B 2), .int (nI (sz + 1)), .ref (B 3), .ref (B 4), .ref (B 5), .ref (B 6), .int (nI jb), .int mko46, .ref (B 7), .int (nI w133_dr)])) := by rw [eM61]; exact gw_keep hf_0 hf_7 (by decide)
                    have hf_2 : M61 (B 2) = some (102, .inl (G.2.1 0, 300, .inl f2o46)) := by rw [eM61]; exact gw_keep hf_2 hf_7 (by decide)
                    have hf_3 : M61 (B 3) = some (103, .inl (G.2.1 0, 10240, .inl f3o46)) := by rw [eM61]; exact gw_keep hf_3 hf_7 (by decide)
                    have hf_4 : M61 (B 4) = some (104, .inl (G.2.1 0, 41, .inl f4o46)) := by rw [eM61]; exact gw_keep hf_4 hf_7 (by decide)
                    have hf_5 : M61 (B 5) = some (105, .inl (G.2.1 0, 41, .inl f5o46)) := by rw [eM61]; exact gw_keep hf_5 hf_7 (by decide)
                    have hf_6 : M61 (B 6) = some (106, .inl (G.2.1 0, 4100, .inl f6o46)) := by rw [eM61]; exact gw_keep hf_6 hf_7 (by decide)
                    have hf_1 : M61 (B 1) = some (101, .inl (G.2.1 0, 10000, .inl (upd f1o46 (v47 : Int32).toNatClampNeg 0))) := by rw [eM61]; exact gw_keep hf_1 hf_7 (by decide)
                    have hf_7 : M61 (B 7) = some (107, .inl (G.2.1 0, 2048, .inl (upd f7o46 (nI w133_dr : Int32).toNatClampNeg v47))) := by rw [eM61]; exact gw_up_self _ _ _ _
                    rw [← eM61] at hF60
                    rw [← eM61] at hXn
                    replace hX := hXn
                    clear hXn
                    refine lv_aload_n hx hb d_Mo_enter_184 rfl (lv_at hl 4 rfl) ?_
                    refine lv_dup hx hb d_Mo_enter_185 rfl ?_
                    refine gw_get (ci := 5) (fs := [.int cdo46, .int (nI lm), .int sm, .int E, .ref (B 1), .ref (B 2), .int (nI (sz + 1)), .ref (B 3), .ref (B 4), .ref (B 5), .ref (B 6), .int (nI jb), .int mko46, .ref (B 7), .int (nI w133_dr)]) hx hb hts in_Mo hown hE.K hW hf_0 rfl 14 (by decide) (hts _ mw247) (fun _ h9 => h9) rfl d_Mo_enter_186 ?_
                    refine lv_iconst (v := 1) hx hb d_Mo_enter_189 (by decide) ?_
                    refine lv_iadd hx hb d_Mo_enter_190 ?_
                    refine W.eq (g2 := F0 m 191 ls [.int (nI (w133_dr + 1)), .ref (B 0)]) (by rw [nI_1]) ?_
                    refine gw_put (ci := 5) (fs := [.int cdo46, .int (nI lm), .int sm, .int E, .ref (B 1), .ref (B 2), .int (nI (sz + 1)), .ref (B 3), .ref (B 4), .ref (B 5), .ref (B 6), .int (nI jb), .int mko46, .ref (B 7), .int (nI w133_dr)]) (v := .int (nI (w133_dr + 1))) (ty := .int) hx hb hts in_Mo t_Mo t_Mo_ok n_Mo hown hE.K hW hS hf_0 rfl 14 (by decide) (hts _ mw247) (fun _ h9 => h9) rfl (by decide +kernel) rfl rfl (Nat.le_of_ble_eq_true rfl) d_Mo_enter_191 (fun H locs hW hS => ?_)
                    have hXn : gm_X G B lm sm E jb (sz + 1) (w133_dr + 1) (gw_up M61 (B 0) 100 (.inr (5, [.int cdo46, .int (nI lm), .int sm, .int E, .ref (B 1), .ref (B 2), .int (nI (sz + 1)), .ref (B 3), .ref (B 4), .ref (B 5), .ref (B 6), .int (nI jb), .int mko46, .ref (B 7), .int (nI (w133_dr + 1))]))) := hX.up100 hf_0 (by omega)
                    have hF62 : gw_fg (gw_out [100, 101, 102, 103, 104, 105, 106, 107]) M (gw_up M61 (B 0) 100 (.inr (5, [.int cdo46, .int (nI lm), .int sm, .int E, .ref (B 1), .ref (B 2), .int (nI (sz + 1)), .ref (B 3), .ref (B 4), .ref (B 5), .ref (B 6), .int (nI jb), .int mko46, .ref (B 7), .int (nI (w133_dr + 1))]))) := gw_fg.up hF60 hf_0 (show ¬ ((gw_out [100, 101, 102, 103, 104, 105, 106, 107]) 100) by decide) (show ¬ ((gw_out [100, 101, 102, 103, 104, 105, 106, 107]) 100) by decide)
                    obtain ⟨M63, eM63⟩ : ∃ z, z = gw_up M61 (B 0) 100 (.inr (5, [.int cdo46, .int (nI lm), .int sm, .int E, .ref (B 1), .ref (B 2), .int (nI (sz + 1)), .ref (B 3), .ref (B 4), .ref (B 5), .ref (B 6), .int (nI jb), .int mko46, .ref (B 7), .int (nI (w133_dr + 1))])) := ⟨_, rfl⟩
                    replace hW : gw_P G.1 vwCl G.2.2.2 M63 H := by rw [eM63]; exact hW
                    have hf_2 : M63 (B 2) = some (102, .inl (G.2.1 0, 300, .inl f2o46)) := by rw [eM63]; exact gw_keep hf_2 hf_0 (by decide)
                    have hf_3 : M63 (B 3) = some (103, .inl (G.2.1 0, 10240, .inl f3o46)) := by rw [eM63]; exact gw_keep hf_3 hf_0 (by decide)
                    have hf_4 : M63 (B 4) = some (104, .inl (G.2.1 0, 41, .inl f4o46)) := by rw [eM63]; exact gw_keep hf_4 hf_0 (by decide)
                    have hf_5 : M63 (B 5) = some (105, .inl (G.2.1 0, 41, .inl f5o46)) := by rw [eM63]; exact gw_keep hf_5 hf_0 (by decide)
                    have hf_6 : M63 (B 6) = some (106, .inl (G.2.1 0, 4100, .inl f6o46)) := by rw [eM63]; exact gw_keep hf_6 hf_0 (by decide)
                    have hf_1 : M63 (B 1) = some (101, .inl (G.2.1 0, 10000, .inl (upd f1o46 (v47 : Int32).toNatClampNeg 0))) := by rw [eM63]; exact gw_keep hf_1 hf_0 (by decide)
                    have hf_7 : M63 (B 7) = some (107, .inl (G.2.1 0, 2048, .inl (upd f7o46 (nI w133_dr : Int32).toNatClampNeg v47))) := by rw [eM63]; exact gw_keep hf_7 hf_0 (by decide)
                    have hf_0 : M63 (B 0) = some (100, .inr (5, [.int cdo46, .int (nI lm), .int sm, .int E, .ref (B 1), .ref (B 2), .int (nI (sz + 1)), .ref (B 3), .ref (B 4), .ref (B 5), .ref (B 6), .int (nI jb), .int mko46, .ref (B 7), .int (nI (w133_dr + 1))])) := by rw [eM63]; exact gw_up_self _ _ _ _
                    rw [← eM63] at hF62
                    rw [← eM63] at hXn
                    replace hX := hXn
                    clear hXn
                    refine lv_iinc (v := (nI k133) + 1) (lv' := [(4, .int ((nI k133) + 1)), (5, .int v47), (3, .int (nI go)), (2, .int (nI p4_2)), (0, .ref (B 0)), (1, .int k)]) hx hb d_Mo_enter_194 hl (k := 1) rfl rfl (by decide) rfl (fun ls hl => ?_)
                    refine lv_goto (tgt := 133) hx hb d_Mo_enter_197 (by decide) ?_
                    rw [nI_1] at hl
                    apply ih133 (ls := ls) (k133 := k133 + 1) (H := H) (locs := locs) (M9 := M63) (w133_dr := w133_dr + 1) <;> first | exact lv_sub hl [0, 2, 3, 4, 5] rfl | exact hX | exact hW | exact hS | exact hF62 | omega | assumption
          · have hle := gx_nlt c100 (by omega) (by omega)
            exact gw_vret hx hb hr hlocks hS hW (Nat.le_of_ble_eq_true rfl) (Nat.le_of_ble_eq_true rfl) d_Mo_enter_103 ⟨sz + 1, dr, (by omega), (by omega), hX, hF12⟩
        · have hlt2 := gx_ltN c46 (by omega) (by omega)
          refine lv_aload_n hx hb d_Mo_enter_49 rfl (lv_at hl 2 rfl) ?_
          obtain ⟨cdo64, mko64, f1o64, f2o64, f3o64, f4o64, f5o64, f6o64, f7o64, hf_0, hf_1, hf_2, hf_3, hf_4, hf_5, hf_6, hf_7, hk2o64, hk3o64, hk4o64, -, -⟩ := id hX
          refine gw_get (ci := 5) (fs := [.int cdo64, .int (nI lm), .int sm, .int E, .ref (B 1), .ref (B 2), .int (nI sz), .ref (B 3), .ref (B 4), .ref (B 5), .ref (B 6), .int (nI jb), .int mko64, .ref (B 7), .int (nI dr)]) hx hb hts in_Mo hown hE.K hW hf_0 rfl 5 (by decide) (hts _ mw238) (fun _ h9 => h9) rfl d_Mo_enter_50 ?_
          refine lv_iload_n hx hb d_Mo_enter_53 rfl (lv_at hl 0 rfl) ?_
          refine lv_aload_n hx hb d_Mo_enter_54 rfl (lv_at hl 2 rfl) ?_
          refine gw_get (ci := 5) (fs := [.int cdo64, .int (nI lm), .int sm, .int E, .ref (B 1), .ref (B 2), .int (nI sz), .ref (B 3), .ref (B 4), .ref (B 5), .ref (B 6), .int (nI jb), .int mko64, .ref (B 7), .int (nI dr)]) hx hb hts in_Mo hown hE.K hW hf_0 rfl 5 (by decide) (hts _ mw238) (fun _ h9 => h9) rfl d_Mo_enter_55 ?_
          refine lv_iload_n hx hb d_Mo_enter_58 rfl (lv_at hl 0 rfl) ?_
          refine lv_iconst (v := 1) hx hb d_Mo_enter_59 (by decide) ?_
          refine lv_isub hx hb d_Mo_enter_60 ?_
          refine gw_iald (i := (nI k44) - 1) hx hb hE.K hW 0 hf_2 rfl (gx_in1 (show 1 ≤ k44 by omega) (by omega)) d_Mo_enter_61 ?_
          obtain ⟨v65, ev65⟩ : ∃ z : Int32, z = f2o64 ((nI k44) - 1 : Int32).toNatClampNeg := ⟨_, rfl⟩
          have hv65 : gm_k v65 := by rw [ev65]; exact hk2o64 _
          refine W.eq (g2 := F0 m 62 ls [.int v65, .int (nI k44), .ref (B 2)]) (by rw [ev65]) ?_
          refine gw_iast (i := nI k44) (x := v65) hx hb hE.K hW hS 0 hf_2 rfl (vp_in_nI (by omega) (by omega)) d_Mo_enter_62 (fun H locs hW hS => ?_)
          have hXn : gm_X G B lm sm E jb sz dr (gw_up Mw (B 2) 102 (.inl (G.2.1 0, 300, .inl (upd f2o64 (nI k44 : Int32).toNatClampNeg v65)))) := hX.up102 hf_2 (gm_upd hk2o64 hv65)
          have hF66 : gw_fg (gw_out [100, 101, 102, 103, 104, 105, 106, 107]) M (gw_up Mw (B 2) 102 (.inl (G.2.1 0, 300, .inl (upd f2o64 (nI k44 : Int32).toNatClampNeg v65)))) := gw_fg.up hF hf_2 (show ¬ ((gw_out [100, 101, 102, 103, 104, 105, 106, 107]) 102) by decide) (show ¬ ((gw_out [100, 101, 102, 103, 104, 105, 106, 107]) 102) by decide)
          obtain ⟨M67, eM67⟩ : ∃ z, z = gw_up Mw (B 2) 102 (.inl (G.2.1 0, 300, .inl (upd f2o64 (nI k44 : Int32).toNatClampNeg v65))) := ⟨_, rfl⟩
          replace hW : gw_P G.1 vwCl G.2.2.2 M67 H := by rw [eM67]; exact hW
          have hf_0 : M67 (B 0) = some (100, .inr (5, [.int cdo64, .int (nI lm), .int sm, .int E, .ref (B 1), .ref (B 2), .int (nI sz), .ref (B 3), .ref (B 4), .ref (B 5), .ref (B 6), .int (nI jb), .int mko64, .ref (B 7), .int (nI dr)])) := by rw [eM67]; exact gw_keep hf_0 hf_2 (by decide)
          have hf_1 : M67 (B 1) = some (101, .inl (G.2.1 0, 10000, .inl f1o64)) := by rw [eM67]; exact gw_keep hf_1 hf_2 (by decide)
          have hf_3 : M67 (B 3) = some (103, .inl (G.2.1 0, 10240, .inl f3o64)) := by rw [eM67]; exact gw_keep hf_3 hf_2 (by decide)
          have hf_4 : M67 (B 4) = some (104, .inl (G.2.1 0, 41, .inl f4o64)) := by rw [eM67]; exact gw_keep hf_4 hf_2 (by decide)
          have hf_5 : M67 (B 5) = some (105, .inl (G.2.1 0, 41, .inl f5o64)) := by rw [eM67]; exact gw_keep hf_5 hf_2 (by decide)
          have hf_6 : M67 (B 6) = some (106, .inl (G.2.1 0, 4100, .inl f6o64)) := by rw [eM67]; exact gw_keep hf_6 hf_2 (by decide)
          have hf_7 : M67 (B 7) = some (107, .inl (G.2.1 0, 2048, .inl f7o64)) := by rw [eM67]; exact gw_keep hf_7 hf_2 (by decide)
          have hf_2 : M67 (B 2) = some (102, .inl (G.2.1 0, 300, .inl (upd f2o64 (nI k44 : Int32).toNatClampNeg v65))) := by rw [eM67]; exact gw_up_self _ _ _ _
          rw [← eM67] at hF66
          rw [← eM67] at hXn
          replace hX := hXn
          clear hXn
          have hks68 : ∀ i, gm_k ((upd f2o64 (nI k44 : Int32).toNatClampNeg v65) i) := gm_upd hk2o64 hv65
          refine lv_iinc (v := (nI k44) + (-1)) (lv' := [(3, .int ((nI k44) + (-1))), (2, .int (nI p4_2)), (0, .ref (B 0)), (1, .int k)]) hx hb d_Mo_enter_63 hl (k := 0) rfl rfl (by decide) rfl (fun ls hl => ?_)
          refine lv_goto (tgt := 44) hx hb d_Mo_enter_66 (by decide) ?_
          rw [gx_dec (show 1 ≤ k44 by omega)] at hl
          apply ih44 (ls := ls) (k44 := k44 - 1) (H := H) (locs := locs) (Mw := M67) <;> first | exact lv_sub hl [0, 1, 2, 3] rfl | exact hX | exact hW | exact hS | exact hF66 | omega | assumption
    · have hlt := gx_ltN c9 (by omega) (by omega)
      refine lv_aload_n hx hb d_Mo_enter_12 rfl (lv_at hl 2 rfl) ?_
      refine gw_get (ci := 5) (fs := [.int cdo1, .int (nI lm), .int sm, .int E, .ref (B 1), .ref (B 2), .int (nI sz), .ref (B 3), .ref (B 4), .ref (B 5), .ref (B 6), .int (nI jb), .int mko1, .ref (B 7), .int (nI dr)]) hx hb hts in_Mo hown hE.K hW hf_0 rfl 5 (by decide) (hts _ mw238) (fun _ h9 => h9) rfl d_Mo_enter_13 ?_
      refine lv_iload_n hx hb d_Mo_enter_16 rfl (lv_at hl 0 rfl) ?_
      refine gw_iald (i := nI k4) hx hb hE.K hW 0 hf_2 rfl (vp_in_nI (by omega) (by omega)) d_Mo_enter_17 ?_
      obtain ⟨v69, ev69⟩ : ∃ z : Int32, z = f2o1 (nI k4 : Int32).toNatClampNeg := ⟨_, rfl⟩
      have hv69 : gm_k v69 := by rw [ev69]; exact hk2o1 _
      refine W.eq (g2 := F0 m 18 ls [.int v69]) (by rw [ev69]) ?_
      refine lv_iload_n hx hb d_Mo_enter_18 rfl (lv_at hl 3 rfl) ?_
      refine gr_calli (va_runS (As := [.int v69, .int k]) (rest := []) ⟨hx, hb, hml, hown, hts⟩ (m_isAhead l G Mw v69 k  ) (cwS 2 hts (gw_gs mw249 mw250 mw228 mw248) rfl rfl rfl (by decide +kernel) ⟨Nat.le_of_ble_eq_true rfl, Nat.le_of_ble_eq_true rfl⟩) (gw_ps hE hB hS hW) rfl rfl hl.1 rfl (lv_room (Nat.le_of_ble_eq_true rfl)) d_Mo_enter_19 ⟨Nat.le_of_ble_eq_true rfl, Nat.le_of_ble_eq_true rfl⟩) (fun r70 hw71 => ?_)
      refine lv_if_eq (tgt := 31) hx hb d_Mo_enter_22 (by decide) (fun c22 => ?_) (fun c22 => ?_)
      · refine lv_iload_n hx hb d_Mo_enter_31 rfl (lv_at hl 1 rfl) ?_
        refine lv_istore_n (lv' := [(2, .int (nI p4_2)), (3, .int (nI k4)), (0, .ref (B 0)), (1, .int k)]) hx hb d_Mo_enter_32 rfl hl (by decide) rfl (fun ls hl => ?_)
        refine lv_iinc (v := (nI k4) + 1) (lv' := [(3, .int ((nI k4) + 1)), (2, .int (nI p4_2)), (0, .ref (B 0)), (1, .int k)]) hx hb d_Mo_enter_33 hl (k := 1) rfl rfl (by decide) rfl (fun ls hl => ?_)
        refine lv_goto (tgt := 4) hx hb d_Mo_enter_36 (by decide) ?_
        rw [nI_1] at hl
        apply ih4 (ls := ls) (k4 := k4 + 1) (H := H) (locs := locs) (Mw := Mw) (p4_2 := p4_2) <;> first | exact lv_sub hl [0, 1, 2, 3] rfl | exact hX | exact hW | exact hS | exact hF | omega | assumption
      · refine lv_iload_n hx hb d_Mo_enter_25 rfl (lv_at hl 0 rfl) ?_
        refine lv_iconst (v := 1) hx hb d_Mo_enter_26 (by decide) ?_
        refine lv_iadd hx hb d_Mo_enter_27 ?_
        refine lv_goto (tgt := 32) hx hb d_Mo_enter_28 (by decide) ?_
        refine W.eq (g2 := F0 m 32 ls [.int (nI (k4 + 1))]) (by rw [nI_1]) ?_
        refine lv_istore_n (lv' := [(2, .int (nI (k4 + 1))), (3, .int (nI k4)), (0, .ref (B 0)), (1, .int k)]) hx hb d_Mo_enter_32 rfl hl (by decide) rfl (fun ls hl => ?_)
        refine lv_iinc (v := (nI k4) + 1) (lv' := [(3, .int ((nI k4) + 1)), (2, .int (nI (k4 + 1))), (0, .ref (B 0)), (1, .int k)]) hx hb d_Mo_enter_33 hl (k := 1) rfl rfl (by decide) rfl (fun ls hl => ?_)
        refine lv_goto (tgt := 4) hx hb d_Mo_enter_36 (by decide) ?_
        rw [nI_1] at hl
        apply ih4 (ls := ls) (k4 := k4 + 1) (H := H) (locs := locs) (Mw := Mw) (p4_2 := (k4 + 1)) <;> first | exact lv_sub hl [0, 1, 2, 3] rfl | exact hX | exact hW | exact hS | exact hF | omega | assumption

set_option maxHeartbeats 4000000 in
set_option maxRecDepth 100000 in
theorem m_catalogue (l : Launch) (G : gw_G) (M : gw_M) (B : Nat → Nat) (lm : Nat) (sm E : Int32) (jb sz dr : Nat) (hX : gm_X G B lm sm E jb sz dr M) (k : Int32) (hsz : sz ≤ lm) (hdr : dr + sz ≤ 600) : Met l y_Mo_catalogue [.code y_Mo_catalogue b_Mo_catalogue 2 (some .int)] ({ frames := 3, cells := 0, slots := 0, locals := 71 }) (gw_Pc G M [.ref (B 0), .int k]) (gw_Qi G (fun r M2 => ∃ sz2 : Nat, ∃ dr2 : Nat, sz2 ≤ lm ∧ dr2 + sz2 ≤ dr + sz + 1 ∧ gm_X G B lm sm E jb sz2 dr2 M2 ∧ gw_fg (gw_out [100, 101, 102, 103, 104, 105, 106, 107]) M M2)) 0 0 (gw_A G) := by
  refine gw_start (by decide) (Nat.le_of_ble_eq_true rfl) (fun p9 e9 s m b9 mt9 c9 hx hb hr hml hown hlocks hin hE hB hW ls hl => ?_)
  have hts := hE.ts ([.ref (B 0), .int k] : List Value).toArray
  have hl : lv_has ls 2 [(0, .ref (B 0)), (1, .int k)] := hl
  have hown : s.vm.findClass "GenerationsModel" = some m.cls := hown
  have hj9 := hX.jb40
  have hm9 := hX.lm255
  refine gw_gen (I := fun z => gm_X G B lm sm E jb sz dr z) (P := gw_out [100, 101, 102, 103, 104, 105, 106, 107]) hX hW (fun H locs Mw hW hS hX hF => ?_)
  have hX : gm_X G B lm sm E jb sz dr Mw := hX
  refine lv_aload_n hx hb d_Mo_catalogue_0 rfl (lv_at hl 0 rfl) ?_
  refine lv_iconst (v := 0) hx hb d_Mo_catalogue_1 (by decide) ?_
  obtain ⟨cdo1, mko1, f1o1, f2o1, f3o1, f4o1, f5o1, f6o1, f7o1, hf_0, hf_1, hf_2, hf_3, hf_4, hf_5, hf_6, hf_7, hk2o1, hk3o1, hk4o1, -, -⟩ := id hX
  refine gw_put (ci := 5) (fs := [.int cdo1, .int (nI lm), .int sm, .int E, .ref (B 1), .ref (B 2), .int (nI sz), .ref (B 3), .ref (B 4), .ref (B 5), .ref (B 6), .int (nI jb), .int mko1, .ref (B 7), .int (nI dr)]) (v := .int 0) (ty := .int) hx hb hts in_Mo t_Mo t_Mo_ok n_Mo hown hE.K hW hS hf_0 rfl 0 (by decide) (hts _ mw222) (fun _ h9 => h9) rfl (by decide +kernel) rfl rfl (Nat.le_of_ble_eq_true rfl) d_Mo_catalogue_2 (fun H locs hW hS => ?_)
  have hXn : gm_X G B lm sm E jb sz dr (gw_up Mw (B 0) 100 (.inr (5, [.int 0, .int (nI lm), .int sm, .int E, .ref (B 1), .ref (B 2), .int (nI sz), .ref (B 3), .ref (B 4), .ref (B 5), .ref (B 6), .int (nI jb), .int mko1, .ref (B 7), .int (nI dr)]))) := hX.up100 hf_0 (by omega)
  have hF2 : gw_fg (gw_out [100, 101, 102, 103, 104, 105, 106, 107]) M (gw_up Mw (B 0) 100 (.inr (5, [.int 0, .int (nI lm), .int sm, .int E, .ref (B 1), .ref (B 2), .int (nI sz), .ref (B 3), .ref (B 4), .ref (B 5), .ref (B 6), .int (nI jb), .int mko1, .ref (B 7), .int (nI dr)]))) := gw_fg.up hF hf_0 (show ¬ ((gw_out [100, 101, 102, 103, 104, 105, 106, 107]) 100) by decide) (show ¬ ((gw_out [100, 101, 102, 103, 104, 105, 106, 107]) 100) by decide)
  obtain ⟨M3, eM3⟩ : ∃ z, z = gw_up Mw (B 0) 100 (.inr (5, [.int 0, .int (nI lm), .int sm, .int E, .ref (B 1), .ref (B 2), .int (nI sz), .ref (B 3), .ref (B 4), .ref (B 5), .ref (B 6), .int (nI jb), .int mko1, .ref (B 7), .int (nI dr)])) := ⟨_, rfl⟩
  replace hW : gw_P G.1 vwCl G.2.2.2 M3 H := by rw [eM3]; exact hW
  have hf_1 : M3 (B 1) = some (101, .inl (G.2.1 0, 10000, .inl f1o1)) := by rw [eM3]; exact gw_keep hf_1 hf_0 (by decide)
  have hf_2 : M3 (B 2) = some (102, .inl (G.2.1 0, 300, .inl f2o1)) := by rw [eM3]; exact gw_keep hf_2 hf_0 (by decide)
  have hf_3 : M3 (B 3) = some (103, .inl (G.2.1 0, 10240, .inl f3o1)) := by rw [eM3]; exact gw_keep hf_3 hf_0 (by decide)
  have hf_4 : M3 (B 4) = some (104, .inl (G.2.1 0, 41, .inl f4o1)) := by rw [eM3]; exact gw_keep hf_4 hf_0 (by decide)
  have hf_5 : M3 (B 5) = some (105, .inl (G.2.1 0, 41, .inl f5o1)) := by rw [eM3]; exact gw_keep hf_5 hf_0 (by decide)
  have hf_6 : M3 (B 6) = some (106, .inl (G.2.1 0, 4100, .inl f6o1)) := by rw [eM3]; exact gw_keep hf_6 hf_0 (by decide)
  have hf_7 : M3 (B 7) = some (107, .inl (G.2.1 0, 2048, .inl f7o1)) := by rw [eM3]; exact gw_keep hf_7 hf_0 (by decide)
  have hf_0 : M3 (B 0) = some (100, .inr (5, [.int 0, .int (nI lm), .int sm, .int E, .ref (B 1), .ref (B 2), .int (nI sz), .ref (B 3), .ref (B 4), .ref (B 5), .ref (B 6), .int (nI jb), .int mko1, .ref (B 7), .int (nI dr)])) := by rw [eM3]; exact gw_up_self _ _ _ _
  rw [← eM3] at hF2
  rw [← eM3] at hXn
  replace hX := hXn
  clear hXn
  refine lv_iload_n hx hb d_Mo_catalogue_5 rfl (lv_at hl 1 rfl) ?_
  refine gr_calli (va_runS (As := [.int k]) (rest := []) ⟨hx, hb, hml, hown, hts⟩ (m_isNumber l G M3 k  ) (cwS 1 hts (gw_gs mw252 mw253 mw228 mw251) rfl rfl rfl (by decide +kernel) ⟨Nat.le_of_ble_eq_true rfl, Nat.le_of_ble_eq_true rfl⟩) (gw_ps hE hB hS hW) rfl rfl hl.1 rfl (lv_room (Nat.le_of_ble_eq_true rfl)) d_Mo_catalogue_6 ⟨Nat.le_of_ble_eq_true rfl, Nat.le_of_ble_eq_true rfl⟩) (fun r4 hw5 => ?_)
  refine lv_if_eq (tgt := 29) hx hb d_Mo_catalogue_9 (by decide) (fun c9 => ?_) (fun c9 => ?_)
  · refine lv_iconst (v := -1) hx hb d_Mo_catalogue_29 (by decide) ?_
    exact gw_iret hx hb hr hlocks hS hW (Nat.le_of_ble_eq_true rfl) (Nat.le_of_ble_eq_true rfl) d_Mo_catalogue_30 ⟨sz, dr, (by omega), (by omega), hX, hF2⟩
  · have hk : gm_k k := hw5.resolve_left c9
    refine lv_aload_n hx hb d_Mo_catalogue_12 rfl (lv_at hl 0 rfl) ?_
    refine lv_iload_n hx hb d_Mo_catalogue_13 rfl (lv_at hl 1 rfl) ?_
    refine gw_calli hS (va_runV (As := [.int k]) (rest := []) ⟨hx, hb, hml, hown, hts⟩ (m_what l G M3 B lm sm E jb sz dr hX k  hk) (cwV 1 hts (gw_gv mw255 mw256 mw257 mw228 mw254) rfl rfl rfl (by decide +kernel) ⟨Nat.le_of_ble_eq_true rfl, Nat.le_of_ble_eq_true rfl⟩) (gw_pv hE hB hS hW rfl hf_0) rfl rfl hl.1 rfl (lv_room (Nat.le_of_ble_eq_true rfl)) d_Mo_catalogue_14 ⟨Nat.le_of_ble_eq_true rfl, Nat.le_of_ble_eq_true rfl⟩) (fun r6 M7 H locs hw8 hW hS => ?_)
    obtain ⟨hX, hfr9⟩ := hw8
    have hF10 : gw_fg (gw_out [100, 101, 102, 103, 104, 105, 106, 107]) M M7 := gw_fg.tr hF2 (gw_fg.wk hfr9 (by decide))
    clear hfr9
    refine lv_if_eq (tgt := 31) hx hb d_Mo_catalogue_17 (by decide) (fun c17 => ?_) (fun c17 => ?_)
    · refine lv_aload_n hx hb d_Mo_catalogue_31 rfl (lv_at hl 0 rfl) ?_
      refine lv_iload_n hx hb d_Mo_catalogue_32 rfl (lv_at hl 1 rfl) ?_
      obtain ⟨cdo11, mko11, f1o11, f2o11, f3o11, f4o11, f5o11, f6o11, f7o11, hf_0, hf_1, hf_2, hf_3, hf_4, hf_5, hf_6, hf_7, hk2o11, hk3o11, hk4o11, -, -⟩ := id hX
      refine gw_callv hS (va_runV (As := [.int k]) (rest := []) ⟨hx, hb, hml, hown, hts⟩ (m_enter l G M7 B lm sm E jb sz dr hX k  hk hsz hdr) (cwV 1 hts (gw_gv mw259 mw260 mw261 mw228 mw258) rfl rfl rfl (by decide +kernel) ⟨Nat.le_of_ble_eq_true rfl, Nat.le_of_ble_eq_true rfl⟩) (gw_pv hE hB hS hW rfl hf_0) rfl rfl hl.1 rfl (lv_room (Nat.le_of_ble_eq_true rfl)) d_Mo_catalogue_33 ⟨Nat.le_of_ble_eq_true rfl, Nat.le_of_ble_eq_true rfl⟩) (fun M13 H locs hw14 hW hS => ?_)
      obtain ⟨sz216, dr217, hb18, hb19, hX, hfr15⟩ := hw14
      have hF20 : gw_fg (gw_out [100, 101, 102, 103, 104, 105, 106, 107]) M M13 := gw_fg.tr hF10 (gw_fg.wk hfr15 (by decide))
      clear hfr15
      refine lv_aload_n hx hb d_Mo_catalogue_36 rfl (lv_at hl 0 rfl) ?_
      obtain ⟨cdo21, mko21, f1o21, f2o21, f3o21, f4o21, f5o21, f6o21, f7o21, hf_0, hf_1, hf_2, hf_3, hf_4, hf_5, hf_6, hf_7, hk2o21, hk3o21, hk4o21, -, -⟩ := id hX
      refine gw_get (ci := 5) (fs := [.int cdo21, .int (nI lm), .int sm, .int E, .ref (B 1), .ref (B 2), .int (nI sz216), .ref (B 3), .ref (B 4), .ref (B 5), .ref (B 6), .int (nI jb), .int mko21, .ref (B 7), .int (nI dr217)]) hx hb hts in_Mo hown hE.K hW hf_0 rfl 6 (by decide) (hts _ mw237) (fun _ h9 => h9) rfl d_Mo_catalogue_37 ?_
      exact gw_iret hx hb hr hlocks hS hW (Nat.le_of_ble_eq_true rfl) (Nat.le_of_ble_eq_true rfl) d_Mo_catalogue_40 ⟨sz216, dr217, (by omega), (by omega), hX, hF20⟩
    · refine lv_aload_n hx hb d_Mo_catalogue_20 rfl (lv_at hl 0 rfl) ?_
      refine lv_iload_n hx hb d_Mo_catalogue_21 rfl (lv_at hl 1 rfl) ?_
      obtain ⟨cdo22, mko22, f1o22, f2o22, f3o22, f4o22, f5o22, f6o22, f7o22, hf_0, hf_1, hf_2, hf_3, hf_4, hf_5, hf_6, hf_7, hk2o22, hk3o22, hk4o22, -, -⟩ := id hX
      refine gw_calli hS (va_runV (As := [.int k]) (rest := []) ⟨hx, hb, hml, hown, hts⟩ (m_what l G M7 B lm sm E jb sz dr hX k  hk) (cwV 1 hts (gw_gv mw255 mw256 mw257 mw228 mw254) rfl rfl rfl (by decide +kernel) ⟨Nat.le_of_ble_eq_true rfl, Nat.le_of_ble_eq_true rfl⟩) (gw_pv hE hB hS hW rfl hf_0) rfl rfl hl.1 rfl (lv_room (Nat.le_of_ble_eq_true rfl)) d_Mo_catalogue_22 ⟨Nat.le_of_ble_eq_true rfl, Nat.le_of_ble_eq_true rfl⟩) (fun r23 M24 H locs hw25 hW hS => ?_)
      obtain ⟨hX, hfr26⟩ := hw25
      have hF27 : gw_fg (gw_out [100, 101, 102, 103, 104, 105, 106, 107]) M M24 := gw_fg.tr hF10 (gw_fg.wk hfr26 (by decide))
      clear hfr26
      refine lv_iconst (v := 4) hx hb d_Mo_catalogue_25 (by decide) ?_
      refine lv_icmp_eq (tgt := 31) hx hb d_Mo_catalogue_26 (by decide) (fun c26 => ?_) (fun c26 => ?_)
      · refine lv_aload_n hx hb d_Mo_catalogue_31 rfl (lv_at hl 0 rfl) ?_
        refine lv_iload_n hx hb d_Mo_catalogue_32 rfl (lv_at hl 1 rfl) ?_
        obtain ⟨cdo28, mko28, f1o28, f2o28, f3o28, f4o28, f5o28, f6o28, f7o28, hf_0, hf_1, hf_2, hf_3, hf_4, hf_5, hf_6, hf_7, hk2o28, hk3o28, hk4o28, -, -⟩ := id hX
        refine gw_callv hS (va_runV (As := [.int k]) (rest := []) ⟨hx, hb, hml, hown, hts⟩ (m_enter l G M24 B lm sm E jb sz dr hX k  hk hsz hdr) (cwV 1 hts (gw_gv mw259 mw260 mw261 mw228 mw258) rfl rfl rfl (by decide +kernel) ⟨Nat.le_of_ble_eq_true rfl, Nat.le_of_ble_eq_true rfl⟩) (gw_pv hE hB hS hW rfl hf_0) rfl rfl hl.1 rfl (lv_room (Nat.le_of_ble_eq_true rfl)) d_Mo_catalogue_33 ⟨Nat.le_of_ble_eq_true rfl, Nat.le_of_ble_eq_true rfl⟩) (fun M30 H locs hw31 hW hS => ?_)
        obtain ⟨sz233, dr234, hb35, hb36, hX, hfr32⟩ := hw31
        have hF37 : gw_fg (gw_out [100, 101, 102, 103, 104, 105, 106, 107]) M M30 := gw_fg.tr hF27 (gw_fg.wk hfr32 (by decide))
        clear hfr32
        refine lv_aload_n hx hb d_Mo_catalogue_36 rfl (lv_at hl 0 rfl) ?_
        obtain ⟨cdo38, mko38, f1o38, f2o38, f3o38, f4o38, f5o38, f6o38, f7o38, hf_0, hf_1, hf_2, hf_3, hf_4, hf_5, hf_6, hf_7, hk2o38, hk3o38, hk4o38, -, -⟩ := id hX
        refine gw_get (ci := 5) (fs := [.int cdo38, .int (nI lm), .int sm, .int E, .ref (B 1), .ref (B 2), .int (nI sz233), .ref (B 3), .ref (B 4), .ref (B 5), .ref (B 6), .int (nI jb), .int mko38, .ref (B 7), .int (nI dr234)]) hx hb hts in_Mo hown hE.K hW hf_0 rfl 6 (by decide) (hts _ mw237) (fun _ h9 => h9) rfl d_Mo_catalogue_37 ?_
        exact gw_iret hx hb hr hlocks hS hW (Nat.le_of_ble_eq_true rfl) (Nat.le_of_ble_eq_true rfl) d_Mo_catalogue_40 ⟨sz233, dr234, (by omega), (by omega), hX, hF37⟩
      · refine lv_iconst (v := -1) hx hb d_Mo_catalogue_29 (by decide) ?_
        exact gw_iret hx hb hr hlocks hS hW (Nat.le_of_ble_eq_true rfl) (Nat.le_of_ble_eq_true rfl) d_Mo_catalogue_30 ⟨sz, dr, (by omega), (by omega), hX, hF27⟩
