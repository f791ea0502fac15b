set_option maxHeartbeats 4000000 in
set_option maxRecDepth 100000 in
theorem s_newLength (l : Launch) (G : gw_G) (M : gw_M) (c : Nat) (h : Nat) (h1 : 1 ≤ c) (hh : h ≤ c) (hc : c ≤ 1000) : Met l y_ArraysSupport_newLength [.code y_ArraysSupport_newLength b_ArraysSupport_newLength 4 (some .int)] ({ frames := 1, cells := 0, slots := 0, locals := 14 }) (gw_Pc G M [.int (nI c), .int (nI 1), .int (nI h)]) (gr_Qi (fun r => ∃ d : Nat, 1 ≤ d ∧ d ≤ h + 1 ∧ nI (c + d) = r)) 0 0 (fun _ => False) := by
  refine gw_startR (by decide) (Nat.le_of_ble_eq_true rfl) (fun p9 e9 s m b9 mt9 c9 hx hb hr hml hown hlocks hin hE hB hW ls hl => ?_)
  have hts := hE.ts ([.int (nI c), .int (nI 1), .int (nI h)] : List Value).toArray
  have hl : lv_has ls 4 [(0, .int (nI c)), (1, .int (nI 1)), (2, .int (nI h))] := hl
  have hown : s.vm.findClass "jdk/internal/util/ArraysSupport" = some m.cls := hown
  have hS : va_S (gw_A G) s.heap s.heap [] := va_S.rf
  refine lv_iload_n hx hb d_ArraysSupport_newLength_0 rfl (lv_at hl 0 rfl) ?_
  refine lv_iload_n hx hb d_ArraysSupport_newLength_1 rfl (lv_at hl 1 rfl) ?_
  refine lv_iload_n hx hb d_ArraysSupport_newLength_2 rfl (lv_at hl 2 rfl) ?_
  refine va_mmax (x := nI 1) (y := nI h) hx hb (hml.trans hl.1.symm) hown (hts _ mw89) (hts _ mw69) (hts _ mw70) (hts _ mw71) (Nat.le_of_ble_eq_true rfl) (Nat.le_of_ble_eq_true rfl) (Nat.le_of_ble_eq_true rfl) (Nat.le_of_ble_eq_true rfl) d_ArraysSupport_newLength_3 ?_
  refine lv_iadd hx hb d_ArraysSupport_newLength_6 ?_
  obtain ⟨d, hd1, hd2, hd3⟩ := gx_mx h1 hh hc
  refine W.eq (g2 := F0 m 7 ls [.int (nI (c + d))]) (by rw [hd1]) ?_
  refine lv_istore_n (lv' := [(3, .int (nI (c + d))), (0, .int (nI c)), (1, .int (nI 1)), (2, .int (nI h))]) hx hb d_ArraysSupport_newLength_7 rfl hl (by decide) rfl (fun ls hl => ?_)
  refine lv_iconst (v := 0) hx hb d_ArraysSupport_newLength_8 (by decide) ?_
  refine lv_iload_n hx hb d_ArraysSupport_newLength_9 rfl (lv_at hl 0 rfl) ?_
  refine lv_icmp_ge (tgt := 21) hx hb d_ArraysSupport_newLength_10 (by decide) (fun c10 => ?_) (fun c10 => ?_)
  · exact absurd c10 (nI_nle (by omega) (by omega))
  · refine lv_iload_n hx hb d_ArraysSupport_newLength_13 rfl (lv_at hl 0 rfl) ?_
    refine lv_ldc (v := 2147483639) hx hb hown (hts _ mw90) d_ArraysSupport_newLength_14 ?_
    refine lv_icmp_gt (tgt := 21) hx hb d_ArraysSupport_newLength_16 (by decide) (fun c16 => ?_) (fun c16 => ?_)
    · exact absurd c16 (gx_big (by omega))
    · refine lv_iload_n hx hb d_ArraysSupport_newLength_19 rfl (lv_at hl 0 rfl) ?_
      exact gr_iret hx hb hr hlocks d_ArraysSupport_newLength_20 (⟨d, hd2, hd3, rfl⟩)

set_option maxHeartbeats 4000000 in
set_option maxRecDepth 100000 in
theorem c_copy3K (l : Launch) (G : gw_G) (M : gw_M) (a : Nat) (n : Nat) (q : Nat) (f : Nat → Option Nat) (hf_a : M a = some (7, .inl (G.2.1 1, n, .inr (.inr (.inr (.inr f)))))) (hnq : n ≤ q) (hq : q ≤ 1000) (hel : ∀ i : Nat, i < n → ∃ (y : Nat) (fs : List Value), f i = some y ∧ M y = some (9, .inr (2, fs))) : Met l y_Ars_copyOf [.code y_Ars_copyOf b_Ars_copyOf 4 (some (.array (.object "java/lang/Object")))] ({ frames := 1, cells := 1, slots := 1000, locals := 40 }) (gw_Pc G M [.ref a, .int (nI q), .ref (G.2.2.1 4)]) (gw_Qr G (fun r M2 => ∃ (c : Nat), c = r ∧ M2 c = some (7, .inl (G.2.1 1, q, .inr (.inr (.inr (.inr (va_cpy f (fun _ => none) 0 0 n)))))) ∧ gw_fg (gw_out [7]) M M2)) 1 1000 (gw_A G) := by
  refine gw_start (by decide) (Nat.le_of_ble_eq_true rfl) (fun p9 e9 s m b9 mt9 c9 hx hb hr hml hown hlocks hin hE hB hW ls hl => ?_)
  have hts := hE.ts ([.ref a, .int (nI q), .ref (G.2.2.1 4)] : List Value).toArray
  have hl : lv_has ls 4 [(0, .ref a), (1, .int (nI q)), (2, .ref (G.2.2.1 4))] := hl
  have hS : va_S (gw_A G) s.heap s.heap [] := va_S.rf
  have hown : s.vm.findClass "java/util/Arrays" = some m.cls := hown
  refine lv_aload_n hx hb d_Ars_copyOf_0 rfl (lv_at hl 2 rfl) ?_
  refine va_ldcM hx hb hown (hts _ mw91) hE.mi d_Ars_copyOf_1 ?_
  refine lv_acmp_ne (rx := some (G.2.2.1 4)) (ry := some (G.2.2.1 4)) (tgt := 13) hx hb d_Ars_copyOf_3 (by decide) (fun c3 => ?_) (fun c3 => ?_)
  · exact absurd rfl c3
  · refine lv_iload_n hx hb d_Ars_copyOf_6 rfl (lv_at hl 1 rfl) ?_
    refine gw_newq (N' := q) hx hb hown (hts _ mw92) hE.ao hE.K hW hS hB (nI_pos (by omega)) (nI_clamp (by omega)) (by omega) (Nat.le_of_ble_eq_true rfl) (by show 0 + q ≤ 1000; omega) d_Ars_copyOf_7 1 rfl 7 (fun q1 H hq2 hW hS => ?_)
    refine W.widen (k := 1) (n := 1000) (Nat.le_refl _) (by omega) ?_
    have hF3 : gw_fg (gw_out [7]) M (gw_up M q1 7 (.inl (G.2.1 1, q, .inr (.inr (.inr (.inr (fun _ => none))))))) := gw_fg.new gw_fg.rf hq2 (show ¬ ((gw_out [7]) 7) by decide)
    obtain ⟨M4, eM4⟩ : ∃ z, z = gw_up M q1 7 (.inl (G.2.1 1, q, .inr (.inr (.inr (.inr (fun _ => none)))))) := ⟨_, rfl⟩
    replace hW : gw_P G.1 vwCl G.2.2.2 M4 H := by rw [eM4]; exact hW
    have hf_a : M4 a = some (7, .inl (G.2.1 1, n, .inr (.inr (.inr (.inr f))))) := by rw [eM4]; exact gw_keepN hf_a hq2
    have hf_q1 : M4 q1 = some (7, .inl (G.2.1 1, q, .inr (.inr (.inr (.inr (fun _ => none)))))) := by rw [eM4]; exact gw_up_self _ _ _ _
    rw [← eM4] at hF3
    refine lv_goto (tgt := 24) hx hb d_Ars_copyOf_10 (by decide) ?_
    refine lv_astore_n (lv' := [(3, .ref q1), (0, .ref a), (1, .int (nI q)), (2, .ref (G.2.2.1 4))]) hx hb d_Ars_copyOf_24 rfl hl (by decide) rfl (fun ls hl => ?_)
    refine lv_aload_n hx hb d_Ars_copyOf_25 rfl (lv_at hl 1 rfl) ?_
    refine lv_iconst (v := 0) hx hb d_Ars_copyOf_26 (by decide) ?_
    refine lv_aload_n hx hb d_Ars_copyOf_27 rfl (lv_at hl 0 rfl) ?_
    refine lv_iconst (v := 0) hx hb d_Ars_copyOf_28 (by decide) ?_
    refine lv_aload_n hx hb d_Ars_copyOf_29 rfl (lv_at hl 1 rfl) ?_
    refine gw_alen (v := nI n) hx hb hE.K hW 1 hf_a rfl rfl d_Ars_copyOf_30 ?_
    refine lv_iload_n hx hb d_Ars_copyOf_31 rfl (lv_at hl 2 rfl) ?_
    refine va_mmin (x := nI n) (y := nI q) hx hb (hml.trans hl.1.symm) hown (hts _ mw93) (hts _ mw94) (hts _ mw70) (hts _ mw95) (Nat.le_of_ble_eq_true rfl) (Nat.le_of_ble_eq_true rfl) (Nat.le_of_ble_eq_true rfl) (Nat.le_of_ble_eq_true rfl) d_Ars_copyOf_32 ?_
    refine W.eq (g2 := F0 m 35 ls [.int (nI n), .int 0, .ref q1, .int 0, .ref a]) (by rw [gx_mn hnq (by omega)]) ?_
    have hcl9 : (nI n).toNatClampNeg = n := nI_clamp (by omega)
    have hc09 : (0 : Int32).toNatClampNeg = 0 := by decide
    refine gw_copyq (C := "Generations$Generation") (sp := 0) (dp := 0) (n := nI n) hx hb (hml.trans hl.1.symm) hown (hts _ mw96) (hts _ mw97) (hts _ mw98) (hts _ mw99) hE.K hW hS 1 1 hf_a hf_q1 rfl rfl (by decide) (by decide) (nI_pos (by omega)) (by rw [hcl9, hc09]; omega) (by rw [hcl9, hc09]; omega) (fun i hi y hy => ?_) (fun comp c0 e1 e2 => ?_) (Nat.le_of_ble_eq_true rfl) (Nat.le_of_ble_eq_true rfl) d_Ars_copyOf_35 (fun H locs hW hS => ?_)
    · rw [hcl9] at hi
      rw [hc09, Nat.zero_add] at hy
      obtain ⟨y2, fs, hy2, hM2⟩ := hel i hi
      rw [hy2] at hy
      rw [← Option.some.inj hy]
      exact gw_recv (ci := 2) hE.K hW rfl (show M4 y2 = some (9, .inr (2, fs)) by rw [eM4]; exact gw_keepN hM2 hq2)
    · obtain ⟨c3, c4, hc3, hc4, hasg⟩ := Cond.castable_spec (hts _ mw81)
      cases Option.some.inj (hc3.symm.trans e2)
      cases Option.some.inj (hc4.symm.trans e1)
      exact hasg
    rw [hcl9, hc09] at hW
    have hF5 : gw_fg (gw_out [7]) M (gw_up M4 q1 7 (.inl (G.2.1 1, q, .inr (.inr (.inr (.inr (va_cpy f (fun _ => none) 0 0 n))))))) := gw_fg.up hF3 hf_q1 (show ¬ ((gw_out [7]) 7) by decide) (show ¬ ((gw_out [7]) 7) by decide)
    obtain ⟨M6, eM6⟩ : ∃ z, z = gw_up M4 q1 7 (.inl (G.2.1 1, q, .inr (.inr (.inr (.inr (va_cpy f (fun _ => none) 0 0 n)))))) := ⟨_, rfl⟩
    replace hW : gw_P G.1 vwCl G.2.2.2 M6 H := by rw [eM6]; exact hW
    have hf_q1 : M6 q1 = some (7, .inl (G.2.1 1, q, .inr (.inr (.inr (.inr (va_cpy f (fun _ => none) 0 0 n)))))) := by rw [eM6]; exact gw_up_self _ _ _ _
    rw [← eM6] at hF5
    refine lv_aload_n hx hb d_Ars_copyOf_38 rfl (lv_at hl 0 rfl) ?_
    exact gw_aret hx hb hr hlocks (Or.inr ⟨_, rfl⟩) hS hW (Nat.le_of_ble_eq_true rfl) (Nat.le_of_ble_eq_true rfl) d_Ars_copyOf_39 (⟨q1, rfl, hf_q1, hF5⟩)

set_option maxHeartbeats 4000000 in
set_option maxRecDepth 100000 in
theorem c_copy3J (l : Launch) (G : gw_G) (M : gw_M) (a : Nat) (n : Nat) (q : Nat) (f : Nat → Option Nat) (hf_a : M a = some (6, .inl (G.2.1 1, n, .inr (.inr (.inr (.inr f)))))) (hnq : n ≤ q) (hq : q ≤ 1000) (hel : ∀ i : Nat, i < n → ∃ (y : Nat) (fs : List Value), f i = some y ∧ M y = some (10, .inr (3, fs))) : Met l y_Ars_copyOf [.code y_Ars_copyOf b_Ars_copyOf 4 (some (.array (.object "java/lang/Object")))] ({ frames := 1, cells := 1, slots := 1000, locals := 40 }) (gw_Pc G M [.ref a, .int (nI q), .ref (G.2.2.1 4)]) (gw_Qr G (fun r M2 => ∃ (c : Nat), c = r ∧ M2 c = some (6, .inl (G.2.1 1, q, .inr (.inr (.inr (.inr (va_cpy f (fun _ => none) 0 0 n)))))) ∧ gw_fg (gw_out [6]) M M2)) 1 1000 (gw_A G) := by
  refine gw_start (by decide) (Nat.le_of_ble_eq_true rfl) (fun p9 e9 s m b9 mt9 c9 hx hb hr hml hown hlocks hin hE hB hW ls hl => ?_)
  have hts := hE.ts ([.ref a, .int (nI q), .ref (G.2.2.1 4)] : List Value).toArray
  have hl : lv_has ls 4 [(0, .ref a), (1, .int (nI q)), (2, .ref (G.2.2.1 4))] := hl
  have hS : va_S (gw_A G) s.heap s.heap [] := va_S.rf
  have hown : s.vm.findClass "java/util/Arrays" = some m.cls := hown
  refine lv_aload_n hx hb d_Ars_copyOf_0 rfl (lv_at hl 2 rfl) ?_
  refine va_ldcM hx hb hown (hts _ mw91) hE.mi d_Ars_copyOf_1 ?_
  refine lv_acmp_ne (rx := some (G.2.2.1 4)) (ry := some (G.2.2.1 4)) (tgt := 13) hx hb d_Ars_copyOf_3 (by decide) (fun c3 => ?_) (fun c3 => ?_)
  · exact absurd rfl c3
  · refine lv_iload_n hx hb d_Ars_copyOf_6 rfl (lv_at hl 1 rfl) ?_
    refine gw_newq (N' := q) hx hb hown (hts _ mw92) hE.ao hE.K hW hS hB (nI_pos (by omega)) (nI_clamp (by omega)) (by omega) (Nat.le_of_ble_eq_true rfl) (by show 0 + q ≤ 1000; omega) d_Ars_copyOf_7 1 rfl 6 (fun q1 H hq2 hW hS => ?_)
    refine W.widen (k := 1) (n := 1000) (Nat.le_refl _) (by omega) ?_
    have hF3 : gw_fg (gw_out [6]) M (gw_up M q1 6 (.inl (G.2.1 1, q, .inr (.inr (.inr (.inr (fun _ => none))))))) := gw_fg.new gw_fg.rf hq2 (show ¬ ((gw_out [6]) 6) by decide)
    obtain ⟨M4, eM4⟩ : ∃ z, z = gw_up M q1 6 (.inl (G.2.1 1, q, .inr (.inr (.inr (.inr (fun _ => none)))))) := ⟨_, rfl⟩
    replace hW : gw_P G.1 vwCl G.2.2.2 M4 H := by rw [eM4]; exact hW
    have hf_a : M4 a = some (6, .inl (G.2.1 1, n, .inr (.inr (.inr (.inr f))))) := by rw [eM4]; exact gw_keepN hf_a hq2
    have hf_q1 : M4 q1 = some (6, .inl (G.2.1 1, q, .inr (.inr (.inr (.inr (fun _ => none)))))) := by rw [eM4]; exact gw_up_self _ _ _ _
    rw [← eM4] at hF3
    refine lv_goto (tgt := 24) hx hb d_Ars_copyOf_10 (by decide) ?_
    refine lv_astore_n (lv' := [(3, .ref q1), (0, .ref a), (1, .int (nI q)), (2, .ref (G.2.2.1 4))]) hx hb d_Ars_copyOf_24 rfl hl (by decide) rfl (fun ls hl => ?_)
    refine lv_aload_n hx hb d_Ars_copyOf_25 rfl (lv_at hl 1 rfl) ?_
    refine lv_iconst (v := 0) hx hb d_Ars_copyOf_26 (by decide) ?_
    refine lv_aload_n hx hb d_Ars_copyOf_27 rfl (lv_at hl 0 rfl) ?_
    refine lv_iconst (v := 0) hx hb d_Ars_copyOf_28 (by decide) ?_
    refine lv_aload_n hx hb d_Ars_copyOf_29 rfl (lv_at hl 1 rfl) ?_
    refine gw_alen (v := nI n) hx hb hE.K hW 1 hf_a rfl rfl d_Ars_copyOf_30 ?_
    refine lv_iload_n hx hb d_Ars_copyOf_31 rfl (lv_at hl 2 rfl) ?_
    refine va_mmin (x := nI n) (y := nI q) hx hb (hml.trans hl.1.symm) hown (hts _ mw93) (hts _ mw94) (hts _ mw70) (hts _ mw95) (Nat.le_of_ble_eq_true rfl) (Nat.le_of_ble_eq_true rfl) (Nat.le_of_ble_eq_true rfl) (Nat.le_of_ble_eq_true rfl) d_Ars_copyOf_32 ?_
    refine W.eq (g2 := F0 m 35 ls [.int (nI n), .int 0, .ref q1, .int 0, .ref a]) (by rw [gx_mn hnq (by omega)]) ?_
    have hcl9 : (nI n).toNatClampNeg = n := nI_clamp (by omega)
    have hc09 : (0 : Int32).toNatClampNeg = 0 := by decide
    refine gw_copyq (C := "Generations$Job") (sp := 0) (dp := 0) (n := nI n) hx hb (hml.trans hl.1.symm) hown (hts _ mw96) (hts _ mw97) (hts _ mw98) (hts _ mw99) hE.K hW hS 1 1 hf_a hf_q1 rfl rfl (by decide) (by decide) (nI_pos (by omega)) (by rw [hcl9, hc09]; omega) (by rw [hcl9, hc09]; omega) (fun i hi y hy => ?_) (fun comp c0 e1 e2 => ?_) (Nat.le_of_ble_eq_true rfl) (Nat.le_of_ble_eq_true rfl) d_Ars_copyOf_35 (fun H locs hW hS => ?_)
    · rw [hcl9] at hi
      rw [hc09, Nat.zero_add] at hy
      obtain ⟨y2, fs, hy2, hM2⟩ := hel i hi
      rw [hy2] at hy
      rw [← Option.some.inj hy]
      exact gw_recv (ci := 3) hE.K hW rfl (show M4 y2 = some (10, .inr (3, fs)) by rw [eM4]; exact gw_keepN hM2 hq2)
    · obtain ⟨c3, c4, hc3, hc4, hasg⟩ := Cond.castable_spec (hts _ mw88)
      cases Option.some.inj (hc3.symm.trans e2)
      cases Option.some.inj (hc4.symm.trans e1)
      exact hasg
    rw [hcl9, hc09] at hW
    have hF5 : gw_fg (gw_out [6]) M (gw_up M4 q1 6 (.inl (G.2.1 1, q, .inr (.inr (.inr (.inr (va_cpy f (fun _ => none) 0 0 n))))))) := gw_fg.up hF3 hf_q1 (show ¬ ((gw_out [6]) 6) by decide) (show ¬ ((gw_out [6]) 6) by decide)
    obtain ⟨M6, eM6⟩ : ∃ z, z = gw_up M4 q1 6 (.inl (G.2.1 1, q, .inr (.inr (.inr (.inr (va_cpy f (fun _ => none) 0 0 n)))))) := ⟨_, rfl⟩
    replace hW : gw_P G.1 vwCl G.2.2.2 M6 H := by rw [eM6]; exact hW
    have hf_q1 : M6 q1 = some (6, .inl (G.2.1 1, q, .inr (.inr (.inr (.inr (va_cpy f (fun _ => none) 0 0 n)))))) := by rw [eM6]; exact gw_up_self _ _ _ _
    rw [← eM6] at hF5
    refine lv_aload_n hx hb d_Ars_copyOf_38 rfl (lv_at hl 0 rfl) ?_
    exact gw_aret hx hb hr hlocks (Or.inr ⟨_, rfl⟩) hS hW (Nat.le_of_ble_eq_true rfl) (Nat.le_of_ble_eq_true rfl) d_Ars_copyOf_39 (⟨q1, rfl, hf_q1, hF5⟩)

set_option maxHeartbeats 4000000 in
set_option maxRecDepth 100000 in
theorem c_copy2K (l : Launch) (G : gw_G) (M : gw_M) (a : Nat) (n : Nat) (q : Nat) (f : Nat → Option Nat) (hf_a : M a = some (7, .inl (G.2.1 1, n, .inr (.inr (.inr (.inr f)))))) (hnq : n ≤ q) (hq : q ≤ 1000) (hel : ∀ i : Nat, i < n → ∃ (y : Nat) (fs : List Value), f i = some y ∧ M y = some (9, .inr (2, fs))) : Met l y_Ars_copyOf2 [.code y_Ars_copyOf2 b_Ars_copyOf2 2 (some (.array (.object "java/lang/Object")))] ({ frames := 2, cells := 1, slots := 1000, locals := 63 }) (gw_Pc G M [.ref a, .int (nI q)]) (gw_Qr G (fun r M2 => ∃ (c : Nat), c = r ∧ M2 c = some (7, .inl (G.2.1 1, q, .inr (.inr (.inr (.inr (va_cpy f (fun _ => none) 0 0 n)))))) ∧ gw_fg (gw_out [7]) M M2)) 1 1000 (gw_A G) := by
  refine gw_start (by decide) (Nat.le_of_ble_eq_true rfl) (fun p9 e9 s m b9 mt9 c9 hx hb hr hml hown hlocks hin hE hB hW ls hl => ?_)
  have hts := hE.ts ([.ref a, .int (nI q)] : List Value).toArray
  have hl : lv_has ls 2 [(0, .ref a), (1, .int (nI q))] := hl
  have hS : va_S (gw_A G) s.heap s.heap [] := va_S.rf
  have hown : s.vm.findClass "java/util/Arrays" = some m.cls := hown
  refine lv_aload_n hx hb d_Ars_copyOf2_0 rfl (lv_at hl 0 rfl) ?_
  refine lv_iload_n hx hb d_Ars_copyOf2_1 rfl (lv_at hl 1 rfl) ?_
  refine lv_aload_n hx hb d_Ars_copyOf2_2 rfl (lv_at hl 0 rfl) ?_
  refine va_getC (C := "[Ljava/lang/Object;") hx hb (hml.trans hl.1.symm) hown (hts _ mw100) (hts _ mw101) (hts _ mw102) (hts _ mw103) (hts _ mw104) hE.mi (gw_recvA hE.K hW hf_a) (Nat.le_of_ble_eq_true rfl) (Nat.le_of_ble_eq_true rfl) d_Ars_copyOf2_3 ?_
  refine gw_callr hS (va_runS (As := [.ref a, .int (nI q), .ref (G.2.2.1 4)]) (rest := []) ⟨hx, hb, hml, hown, hts⟩ (c_copy3K l G M a n q f hf_a hnq hq hel) (cwS 3 hts (gw_gs mw106 mw107 mw108 mw105) rfl rfl rfl (by decide +kernel) ⟨Nat.le_of_ble_eq_true rfl, Nat.le_of_ble_eq_true rfl⟩) (gw_ps hE hB hS hW) rfl rfl hl.1 rfl (lv_room (Nat.le_of_ble_eq_true rfl)) d_Ars_copyOf2_6 ⟨Nat.le_of_ble_eq_true rfl, Nat.le_of_ble_eq_true rfl⟩) (fun r1 M2 H locs hw3 hW hS => ?_)
  refine W.widen (k := 1) (n := 1000) (Nat.le_refl _) (Nat.le_refl _) ?_
  obtain ⟨c4, rfl, hf_c4', hfr5⟩ := hw3
  have hf_c4 : M2 c4 = some (7, .inl (G.2.1 1, q, .inr (.inr (.inr (.inr (va_cpy f (fun _ => none) 0 0 n)))))) := hf_c4'
  have hF6 : gw_fg (gw_out [7]) M M2 := gw_fg.tr gw_fg.rf (gw_fg.wk hfr5 (by decide))
  exact gw_aret hx hb hr hlocks (Or.inr ⟨_, rfl⟩) hS hW (Nat.le_of_ble_eq_true rfl) (Nat.le_of_ble_eq_true rfl) d_Ars_copyOf2_9 (⟨c4, rfl, hf_c4, hF6⟩)

set_option maxHeartbeats 4000000 in
set_option maxRecDepth 100000 in
theorem c_copy2J (l : Launch) (G : gw_G) (M : gw_M) (a : Nat) (n : Nat) (q : Nat) (f : Nat → Option Nat) (hf_a : M a = some (6, .inl (G.2.1 1, n, .inr (.inr (.inr (.inr f)))))) (hnq : n ≤ q) (hq : q ≤ 1000) (hel : ∀ i : Nat, i < n → ∃ (y : Nat) (fs : List Value), f i = some y ∧ M y = some (10, .inr (3, fs))) : Met l y_Ars_copyOf2 [.code y_Ars_copyOf2 b_Ars_copyOf2 2 (some (.array (.object "java/lang/Object")))] ({ frames := 2, cells := 1, slots := 1000, locals := 63 }) (gw_Pc G M [.ref a, .int (nI q)]) (gw_Qr G (fun r M2 => ∃ (c : Nat), c = r ∧ M2 c = some (6, .inl (G.2.1 1, q, .inr (.inr (.inr (.inr (va_cpy f (fun _ => none) 0 0 n)))))) ∧ gw_fg (gw_out [6]) M M2)) 1 1000 (gw_A G) := by
  refine gw_start (by decide) (Nat.le_of_ble_eq_true rfl) (fun p9 e9 s m b9 mt9 c9 hx hb hr hml hown hlocks hin hE hB hW ls hl => ?_)
  have hts := hE.ts ([.ref a, .int (nI q)] : List Value).toArray
  have hl : lv_has ls 2 [(0, .ref a), (1, .int (nI q))] := hl
  have hS : va_S (gw_A G) s.heap s.heap [] := va_S.rf
  have hown : s.vm.findClass "java/util/Arrays" = some m.cls := hown
  refine lv_aload_n hx hb d_Ars_copyOf2_0 rfl (lv_at hl 0 rfl) ?_
  refine lv_iload_n hx hb d_Ars_copyOf2_1 rfl (lv_at hl 1 rfl) ?_
  refine lv_aload_n hx hb d_Ars_copyOf2_2 rfl (lv_at hl 0 rfl) ?_
  refine va_getC (C := "[Ljava/lang/Object;") hx hb (hml.trans hl.1.symm) hown (hts _ mw100) (hts _ mw101) (hts _ mw102) (hts _ mw103) (hts _ mw104) hE.mi (gw_recvA hE.K hW hf_a) (Nat.le_of_ble_eq_true rfl) (Nat.le_of_ble_eq_true rfl) d_Ars_copyOf2_3 ?_
  refine gw_callr hS (va_runS (As := [.ref a, .int (nI q), .ref (G.2.2.1 4)]) (rest := []) ⟨hx, hb, hml, hown, hts⟩ (c_copy3J l G M a n q f hf_a hnq hq hel) (cwS 3 hts (gw_gs mw106 mw107 mw108 mw105) rfl rfl rfl (by decide +kernel) ⟨Nat.le_of_ble_eq_true rfl, Nat.le_of_ble_eq_true rfl⟩) (gw_ps hE hB hS hW) rfl rfl hl.1 rfl (lv_room (Nat.le_of_ble_eq_true rfl)) d_Ars_copyOf2_6 ⟨Nat.le_of_ble_eq_true rfl, Nat.le_of_ble_eq_true rfl⟩) (fun r1 M2 H locs hw3 hW hS => ?_)
  refine W.widen (k := 1) (n := 1000) (Nat.le_refl _) (Nat.le_refl _) ?_
  obtain ⟨c4, rfl, hf_c4', hfr5⟩ := hw3
  have hf_c4 : M2 c4 = some (6, .inl (G.2.1 1, q, .inr (.inr (.inr (.inr (va_cpy f (fun _ => none) 0 0 n)))))) := hf_c4'
  have hF6 : gw_fg (gw_out [6]) M M2 := gw_fg.tr gw_fg.rf (gw_fg.wk hfr5 (by decide))
  exact gw_aret hx hb hr hlocks (Or.inr ⟨_, rfl⟩) hS hW (Nat.le_of_ble_eq_true rfl) (Nat.le_of_ble_eq_true rfl) d_Ars_copyOf2_9 (⟨c4, rfl, hf_c4, hF6⟩)

set_option maxHeartbeats 4000000 in
set_option maxRecDepth 100000 in
theorem c_growIK (l : Launch) (G : gw_G) (M : gw_M) (o : Nat) (k : Int32) (a : Nat) (n : Nat) (f : Nat → Option Nat) (hf_o : M o = some (5, .inr (4, [.int k, .ref a, .int (nI n)]))) (hf_a : M a = some (7, .inl (G.2.1 1, n, .inr (.inr (.inr (.inr f)))))) (hn1 : 1 ≤ n) (hn2 : n ≤ 600) (hel : ∀ i : Nat, i < n → ∃ (y : Nat) (fs : List Value), f i = some y ∧ M y = some (9, .inr (2, fs))) : Met l y_AL_grow [.code y_AL_grow b_AL_grow 4 (some (.array (.object "java/lang/Object")))] ({ frames := 3, cells := 1, slots := 1000, locals := 84 }) (gw_Pc G M [.ref o, .int ((nI n) + 1)]) (gw_Qr G (fun r M2 => ∃ (c : Nat) (q : Nat), c = r ∧ M2 c = some (7, .inl (G.2.1 1, q, .inr (.inr (.inr (.inr (va_cpy f (fun _ => none) 0 0 n)))))) ∧ M2 o = some (5, .inr (4, [.int k, .ref c, .int (nI n)])) ∧ n < q ∧ q ≤ 1000 ∧ gw_fg (gw_out [5, 7]) M M2)) 1 1000 (gw_A G) := by
  refine gw_start (by decide) (Nat.le_of_ble_eq_true rfl) (fun p9 e9 s m b9 mt9 c9 hx hb hr hml hown hlocks hin hE hB hW ls hl => ?_)
  have hts := hE.ts ([.ref o, .int ((nI n) + 1)] : List Value).toArray
  have hl : lv_has ls 4 [(0, .ref o), (1, .int ((nI n) + 1))] := hl
  have hS : va_S (gw_A G) s.heap s.heap [] := va_S.rf
  have hown : s.vm.findClass "java/util/ArrayList" = some m.cls := hown
  refine lv_aload_n hx hb d_AL_grow_0 rfl (lv_at hl 0 rfl) ?_
  refine gw_get (ci := 4) (fs := [.int k, .ref a, .int (nI n)]) hx hb hts in_AL hown hE.K hW hf_o rfl 1 (by decide) (hts _ mw5) (fun _ h9 => h9) rfl d_AL_grow_1 ?_
  refine gw_alen (v := nI n) hx hb hE.K hW 1 hf_a rfl rfl d_AL_grow_4 ?_
  refine lv_istore_n (lv' := [(2, .int (nI n)), (0, .ref o), (1, .int ((nI n) + 1))]) hx hb d_AL_grow_5 rfl hl (by decide) rfl (fun ls hl => ?_)
  refine lv_iload_n hx hb d_AL_grow_6 rfl (lv_at hl 0 rfl) ?_
  refine lv_if_gt (tgt := 20) hx hb d_AL_grow_7 (by decide) (fun c7 => ?_) (fun c7 => ?_)
  · refine lv_iload_n hx hb d_AL_grow_20 rfl (lv_at hl 0 rfl) ?_
    refine lv_iload_n hx hb d_AL_grow_21 rfl (lv_at hl 2 rfl) ?_
    refine lv_iload_n hx hb d_AL_grow_22 rfl (lv_at hl 0 rfl) ?_
    refine lv_isub hx hb d_AL_grow_23 ?_
    refine lv_iload_n hx hb d_AL_grow_24 rfl (lv_at hl 0 rfl) ?_
    refine lv_iconst (v := 1) hx hb d_AL_grow_25 (by decide) ?_
    refine lv_ishr hx hb d_AL_grow_26 ?_
    refine W.eq (g2 := F0 m 27 ls [.int (nI (n / 2)), .int (nI 1), .int (nI n)]) (by rw [gx_half (by omega), gx_one]) ?_
    refine gr_calli (va_runS (As := [.int (nI n), .int (nI 1), .int (nI (n / 2))]) (rest := []) ⟨hx, hb, hml, hown, hts⟩ (s_newLength l G M n (n / 2)  hn1 (by omega) (by omega)) (va_cwS 3 hts (gw_gt mw110 mw111 mw112 mw109) rfl rfl rfl (by decide +kernel) ⟨Nat.le_of_ble_eq_true rfl, Nat.le_of_ble_eq_true rfl⟩) (gw_ps hE hB hS hW) rfl rfl hl.1 rfl (lv_room (Nat.le_of_ble_eq_true rfl)) d_AL_grow_27 ⟨Nat.le_of_ble_eq_true rfl, Nat.le_of_ble_eq_true rfl⟩) (fun r1 hw2 => ?_)
    obtain ⟨d, hd1, hd2, rfl⟩ := hw2
    obtain ⟨q, eq9⟩ : ∃ z : Nat, z = n + d := ⟨_, rfl⟩
    rw [← eq9]
    refine lv_istore_n (lv' := [(3, .int (nI q)), (2, .int (nI n)), (0, .ref o), (1, .int ((nI n) + 1))]) hx hb d_AL_grow_30 rfl hl (by decide) rfl (fun ls hl => ?_)
    refine lv_aload_n hx hb d_AL_grow_31 rfl (lv_at hl 2 rfl) ?_
    refine lv_aload_n hx hb d_AL_grow_32 rfl (lv_at hl 2 rfl) ?_
    refine gw_get (ci := 4) (fs := [.int k, .ref a, .int (nI n)]) hx hb hts in_AL hown hE.K hW hf_o rfl 1 (by decide) (hts _ mw5) (fun _ h9 => h9) rfl d_AL_grow_33 ?_
    refine lv_iload_n hx hb d_AL_grow_36 rfl (lv_at hl 0 rfl) ?_
    refine gw_callr hS (va_runS (As := [.ref a, .int (nI q)]) (rest := [.ref o]) ⟨hx, hb, hml, hown, hts⟩ (c_copy2K l G M a n q f hf_a (by omega) (by omega) hel) (va_cwS 2 hts (gw_gt mw114 mw115 mw108 mw113) rfl rfl rfl (by decide +kernel) ⟨Nat.le_of_ble_eq_true rfl, Nat.le_of_ble_eq_true rfl⟩) (gw_ps hE hB hS hW) rfl rfl hl.1 rfl (lv_room (Nat.le_of_ble_eq_true rfl)) d_AL_grow_37 ⟨Nat.le_of_ble_eq_true rfl, Nat.le_of_ble_eq_true rfl⟩) (fun r3 M4 H locs hw5 hW hS => ?_)
    refine W.widen (k := 1) (n := 1000) (Nat.le_refl _) (Nat.le_refl _) ?_
    obtain ⟨c6, rfl, hf_c6', hfr7⟩ := hw5
    have hf_o : M4 o = some (5, .inr (4, [.int k, .ref a, .int (nI n)])) := (hfr7.1 _ _ _ (by decide)).mp hf_o
    have hf_c6 : M4 c6 = some (7, .inl (G.2.1 1, q, .inr (.inr (.inr (.inr (va_cpy f (fun _ => none) 0 0 n)))))) := hf_c6'
    have hF8 : gw_fg (gw_out [5, 7]) M M4 := gw_fg.tr gw_fg.rf (gw_fg.wk hfr7 (by decide))
    refine lv_dup_x1 hx hb d_AL_grow_40 rfl rfl ?_
    refine gw_put (ci := 4) (fs := [.int k, .ref a, .int (nI n)]) (v := .ref c6) (ty := .array (.object "java/lang/Object")) hx hb hts in_AL t_AL t_AL_ok n_AL hown hE.K hW hS hf_o rfl 1 (by decide) (hts _ mw5) (fun _ h9 => h9) rfl (by decide +kernel) rfl rfl (Nat.le_of_ble_eq_true rfl) d_AL_grow_41 (fun H locs hW hS => ?_)
    have hF9 : gw_fg (gw_out [5, 7]) M (gw_up M4 o 5 (.inr (4, [.int k, .ref c6, .int (nI n)]))) := gw_fg.up hF8 hf_o (show ¬ ((gw_out [5, 7]) 5) by decide) (show ¬ ((gw_out [5, 7]) 5) by decide)
    obtain ⟨M10, eM10⟩ : ∃ z, z = gw_up M4 o 5 (.inr (4, [.int k, .ref c6, .int (nI n)])) := ⟨_, rfl⟩
    replace hW : gw_P G.1 vwCl G.2.2.2 M10 H := by rw [eM10]; exact hW
    have hf_c6 : M10 c6 = some (7, .inl (G.2.1 1, q, .inr (.inr (.inr (.inr (va_cpy f (fun _ => none) 0 0 n)))))) := by rw [eM10]; exact gw_keep hf_c6 hf_o (by decide)
    have hf_o : M10 o = some (5, .inr (4, [.int k, .ref c6, .int (nI n)])) := by rw [eM10]; exact gw_up_self _ _ _ _
    rw [← eM10] at hF9
    exact gw_aret hx hb hr hlocks (Or.inr ⟨_, rfl⟩) hS hW (Nat.le_of_ble_eq_true rfl) (Nat.le_of_ble_eq_true rfl) d_AL_grow_44 (⟨c6, q, rfl, hf_c6, hf_o, (by omega), (by omega), hF9⟩)
  · exact absurd (gx_gt0 hn1 (by omega)) c7

set_option maxHeartbeats 4000000 in
set_option maxRecDepth 100000 in
theorem c_growK (l : Launch) (G : gw_G) (M : gw_M) (o : Nat) (k : Int32) (a : Nat) (n : Nat) (f : Nat → Option Nat) (hf_o : M o = some (5, .inr (4, [.int k, .ref a, .int (nI n)]))) (hf_a : M a = some (7, .inl (G.2.1 1, n, .inr (.inr (.inr (.inr f)))))) (hn1 : 1 ≤ n) (hn2 : n ≤ 600) (hel : ∀ i : Nat, i < n → ∃ (y : Nat) (fs : List Value), f i = some y ∧ M y = some (9, .inr (2, fs))) : Met l y_AL_grow2 [.code y_AL_grow2 b_AL_grow2 1 (some (.array (.object "java/lang/Object")))] ({ frames := 4, cells := 1, slots := 1000, locals := 107 }) (gw_Pc G M [.ref o]) (gw_Qr G (fun r M2 => ∃ (c : Nat) (q : Nat), c = r ∧ M2 c = some (7, .inl (G.2.1 1, q, .inr (.inr (.inr (.inr (va_cpy f (fun _ => none) 0 0 n)))))) ∧ M2 o = some (5, .inr (4, [.int k, .ref c, .int (nI n)])) ∧ n < q ∧ q ≤ 1000 ∧ gw_fg (gw_out [5, 7]) M M2)) 1 1000 (gw_A G) := by
  refine gw_start (by decide) (Nat.le_of_ble_eq_true rfl) (fun p9 e9 s m b9 mt9 c9 hx hb hr hml hown hlocks hin hE hB hW ls hl => ?_)
  have hts := hE.ts ([.ref o] : List Value).toArray
  have hl : lv_has ls 1 [(0, .ref o)] := hl
  have hS : va_S (gw_A G) s.heap s.heap [] := va_S.rf
  have hown : s.vm.findClass "java/util/ArrayList" = some m.cls := hown
  refine lv_aload_n hx hb d_AL_grow2_0 rfl (lv_at hl 0 rfl) ?_
  refine lv_aload_n hx hb d_AL_grow2_1 rfl (lv_at hl 0 rfl) ?_
  refine gw_get (ci := 4) (fs := [.int k, .ref a, .int (nI n)]) hx hb hts in_AL hown hE.K hW hf_o rfl 2 (by decide) (hts _ mw0) (fun _ h9 => h9) rfl d_AL_grow2_2 ?_
  refine lv_iconst (v := 1) hx hb d_AL_grow2_5 (by decide) ?_
  refine lv_iadd hx hb d_AL_grow2_6 ?_
  refine gw_callr hS (va_runV (As := [.int ((nI n) + 1)]) (rest := []) ⟨hx, hb, hml, hown, hts⟩ (c_growIK l G M o k a n f hf_o hf_a hn1 hn2 hel) (cwV 1 hts (gw_gv mw74 mw75 mw76 mw14 mw73) rfl rfl rfl (by decide +kernel) ⟨Nat.le_of_ble_eq_true rfl, Nat.le_of_ble_eq_true rfl⟩) (gw_pv hE hB hS hW rfl hf_o) rfl rfl hl.1 rfl (lv_room (Nat.le_of_ble_eq_true rfl)) d_AL_grow2_7 ⟨Nat.le_of_ble_eq_true rfl, Nat.le_of_ble_eq_true rfl⟩) (fun r1 M2 H locs hw3 hW hS => ?_)
  refine W.widen (k := 1) (n := 1000) (Nat.le_refl _) (Nat.le_refl _) ?_
  obtain ⟨c4, q5, rfl, hf_c4', hf_o', hq1, hq2, hfr6⟩ := hw3
  have hf_c4 : M2 c4 = some (7, .inl (G.2.1 1, q5, .inr (.inr (.inr (.inr (va_cpy f (fun _ => none) 0 0 n)))))) := hf_c4'
  have hf_o : M2 o = some (5, .inr (4, [.int k, .ref c4, .int (nI n)])) := hf_o'
  have hF7 : gw_fg (gw_out [5, 7]) M M2 := gw_fg.tr gw_fg.rf (gw_fg.wk hfr6 (by decide))
  exact gw_aret hx hb hr hlocks (Or.inr ⟨_, rfl⟩) hS hW (Nat.le_of_ble_eq_true rfl) (Nat.le_of_ble_eq_true rfl) d_AL_grow2_10 (⟨c4, q5, rfl, hf_c4, hf_o, hq1, hq2, hF7⟩)

set_option maxHeartbeats 4000000 in
set_option maxRecDepth 100000 in
theorem c_add3K (l : Launch) (G : gw_G) (M : gw_M) (o : Nat) (k : Int32) (a : Nat) (n : Nat) (f : Nat → Option Nat) (g : Nat) (v1 : Int32) (v2 : Int32) (v3 : Int32) (v4 : Int32) (v5 : Int32) (hf_o : M o = some (5, .inr (4, [.int k, .ref a, .int (nI n)]))) (hf_a : M a = some (7, .inl (G.2.1 1, n, .inr (.inr (.inr (.inr f)))))) (hf_g : M g = some (9, .inr (2, [.int v1, .int v2, .int v3, .int v4, .int v5]))) (hn1 : 1 ≤ n) (hn2 : n ≤ 600) (hel : ∀ i : Nat, i < n → ∃ (y : Nat) (fs : List Value), f i = some y ∧ M y = some (9, .inr (2, fs))) : Met l y_AL_add [.code y_AL_add b_AL_add 4 none] ({ frames := 5, cells := 1, slots := 1000, locals := 127 }) (gw_Pc G M [.ref o, .ref g, .ref a, .int (nI n)]) (gw_Qv G (fun M2 => ∃ (c : Nat) (q : Nat), M2 o = some (5, .inr (4, [.int k, .ref c, .int ((nI n) + 1)])) ∧ M2 c = some (7, .inl (G.2.1 1, q, .inr (.inr (.inr (.inr (va_up (va_cpy f (fun _ => none) 0 0 n) (nI n : Int32).toNatClampNeg (some g))))))) ∧ n < q ∧ q ≤ 1000 ∧ gw_fg (gw_out [5, 7]) M M2)) 1 1000 (gw_A G) := by
  refine gw_start (by decide) (Nat.le_of_ble_eq_true rfl) (fun p9 e9 s m b9 mt9 c9 hx hb hr hml hown hlocks hin hE hB hW ls hl => ?_)
  have hts := hE.ts ([.ref o, .ref g, .ref a, .int (nI n)] : List Value).toArray
  have hl : lv_has ls 4 [(0, .ref o), (1, .ref g), (2, .ref a), (3, .int (nI n))] := hl
  have hS : va_S (gw_A G) s.heap s.heap [] := va_S.rf
  have hown : s.vm.findClass "java/util/ArrayList" = some m.cls := hown
  refine lv_iload_n hx hb d_AL_add_0 rfl (lv_at hl 3 rfl) ?_
  refine lv_aload_n hx hb d_AL_add_1 rfl (lv_at hl 2 rfl) ?_
  refine gw_alen (v := nI n) hx hb hE.K hW 1 hf_a rfl rfl d_AL_add_2 ?_
  refine lv_icmp_ne (tgt := 11) hx hb d_AL_add_3 (by decide) (fun c3 => ?_) (fun c3 => ?_)
  · exact absurd rfl c3
  · refine lv_aload_n hx hb d_AL_add_6 rfl (lv_at hl 0 rfl) ?_
    refine gw_callr hS (va_runV (As := []) (rest := []) ⟨hx, hb, hml, hown, hts⟩ (c_growK l G M o k a n f hf_o hf_a hn1 hn2 hel) (cwV 0 hts (gw_gv mw78 mw79 mw80 mw14 mw77) rfl rfl rfl (by decide +kernel) ⟨Nat.le_of_ble_eq_true rfl, Nat.le_of_ble_eq_true rfl⟩) (gw_pv hE hB hS hW rfl hf_o) rfl rfl hl.1 rfl (lv_room (Nat.le_of_ble_eq_true rfl)) d_AL_add_7 ⟨Nat.le_of_ble_eq_true rfl, Nat.le_of_ble_eq_true rfl⟩) (fun r1 M2 H locs hw3 hW hS => ?_)
    refine W.widen (k := 1) (n := 1000) (Nat.le_refl _) (Nat.le_refl _) ?_
    obtain ⟨c4, q5, rfl, hf_c4', hf_o', hq1, hq2, hfr6⟩ := hw3
    have hf_g : M2 g = some (9, .inr (2, [.int v1, .int v2, .int v3, .int v4, .int v5])) := (hfr6.1 _ _ _ (by decide)).mp hf_g
    have hf_c4 : M2 c4 = some (7, .inl (G.2.1 1, q5, .inr (.inr (.inr (.inr (va_cpy f (fun _ => none) 0 0 n)))))) := hf_c4'
    have hf_o : M2 o = some (5, .inr (4, [.int k, .ref c4, .int (nI n)])) := hf_o'
    have hF7 : gw_fg (gw_out [5, 7]) M M2 := gw_fg.tr gw_fg.rf (gw_fg.wk hfr6 (by decide))
    refine lv_astore_n (lv' := [(2, .ref c4), (0, .ref o), (1, .ref g), (3, .int (nI n))]) hx hb d_AL_add_10 rfl hl (by decide) rfl (fun ls hl => ?_)
    refine lv_aload_n hx hb d_AL_add_11 rfl (lv_at hl 0 rfl) ?_
    refine lv_iload_n hx hb d_AL_add_12 rfl (lv_at hl 3 rfl) ?_
    refine lv_aload_n hx hb d_AL_add_13 rfl (lv_at hl 2 rfl) ?_
    refine gw_aastO (i := nI n) (v := g) hx hb hE.K hW hS 1 2 hf_c4 rfl (hE.nw mw81) hf_g rfl (vp_in_nI hq1 (by omega)) d_AL_add_14 (fun H locs hW hS => ?_)
    have hF8 : gw_fg (gw_out [5, 7]) M (gw_up M2 c4 7 (.inl (G.2.1 1, q5, .inr (.inr (.inr (.inr (va_up (va_cpy f (fun _ => none) 0 0 n) (nI n : Int32).toNatClampNeg (some g)))))))) := gw_fg.up hF7 hf_c4 (show ¬ ((gw_out [5, 7]) 7) by decide) (show ¬ ((gw_out [5, 7]) 7) by decide)
    obtain ⟨M9, eM9⟩ : ∃ z, z = gw_up M2 c4 7 (.inl (G.2.1 1, q5, .inr (.inr (.inr (.inr (va_up (va_cpy f (fun _ => none) 0 0 n) (nI n : Int32).toNatClampNeg (some g))))))) := ⟨_, rfl⟩
    replace hW : gw_P G.1 vwCl G.2.2.2 M9 H := by rw [eM9]; exact hW
    have hf_o : M9 o = some (5, .inr (4, [.int k, .ref c4, .int (nI n)])) := by rw [eM9]; exact gw_keep hf_o hf_c4 (by decide)
    have hf_g : M9 g = some (9, .inr (2, [.int v1, .int v2, .int v3, .int v4, .int v5])) := by rw [eM9]; exact gw_keep hf_g hf_c4 (by decide)
    have hf_c4 : M9 c4 = some (7, .inl (G.2.1 1, q5, .inr (.inr (.inr (.inr (va_up (va_cpy f (fun _ => none) 0 0 n) (nI n : Int32).toNatClampNeg (some g))))))) := by rw [eM9]; exact gw_up_self _ _ _ _
    rw [← eM9] at hF8
    refine lv_aload_n hx hb d_AL_add_15 rfl (lv_at hl 1 rfl) ?_
    refine lv_iload_n hx hb d_AL_add_16 rfl (lv_at hl 3 rfl) ?_
    refine lv_iconst (v := 1) hx hb d_AL_add_17 (by decide) ?_
    refine lv_iadd hx hb d_AL_add_18 ?_
    refine gw_put (ci := 4) (fs := [.int k, .ref c4, .int (nI n)]) (v := .int ((nI n) + 1)) (ty := .int) hx hb hts in_AL t_AL t_AL_ok n_AL hown hE.K hW hS hf_o rfl 2 (by decide) (hts _ mw0) (fun _ h9 => h9) rfl (by decide +kernel) rfl rfl (Nat.le_of_ble_eq_true rfl) d_AL_add_19 (fun H locs hW hS => ?_)
    have hF10 : gw_fg (gw_out [5, 7]) M (gw_up M9 o 5 (.inr (4, [.int k, .ref c4, .int ((nI n) + 1)]))) := gw_fg.up hF8 hf_o (show ¬ ((gw_out [5, 7]) 5) by decide) (show ¬ ((gw_out [5, 7]) 5) by decide)
    obtain ⟨M11, eM11⟩ : ∃ z, z = gw_up M9 o 5 (.inr (4, [.int k, .ref c4, .int ((nI n) + 1)])) := ⟨_, rfl⟩
    replace hW : gw_P G.1 vwCl G.2.2.2 M11 H := by rw [eM11]; exact hW
    have hf_g : M11 g = some (9, .inr (2, [.int v1, .int v2, .int v3, .int v4, .int v5])) := by rw [eM11]; exact gw_keep hf_g hf_o (by decide)
    have hf_c4 : M11 c4 = some (7, .inl (G.2.1 1, q5, .inr (.inr (.inr (.inr (va_up (va_cpy f (fun _ => none) 0 0 n) (nI n : Int32).toNatClampNeg (some g))))))) := by rw [eM11]; exact gw_keep hf_c4 hf_o (by decide)
    have hf_o : M11 o = some (5, .inr (4, [.int k, .ref c4, .int ((nI n) + 1)])) := by rw [eM11]; exact gw_up_self _ _ _ _
    rw [← eM11] at hF10
    exact gw_vret hx hb hr hlocks hS hW (Nat.le_of_ble_eq_true rfl) (Nat.le_of_ble_eq_true rfl) d_AL_add_22 (⟨c4, q5, hf_o, hf_c4, hq1, hq2, hF10⟩)

set_option maxHeartbeats 4000000 in
set_option maxRecDepth 100000 in
theorem c_addK (l : Launch) (G : gw_G) (M : gw_M) (o : Nat) (k : Int32) (a : Nat) (n : Nat) (f : Nat → Option Nat) (g : Nat) (v1 : Int32) (v2 : Int32) (v3 : Int32) (v4 : Int32) (v5 : Int32) (hf_o : M o = some (5, .inr (4, [.int k, .ref a, .int (nI n)]))) (hf_a : M a = some (7, .inl (G.2.1 1, n, .inr (.inr (.inr (.inr f)))))) (hf_g : M g = some (9, .inr (2, [.int v1, .int v2, .int v3, .int v4, .int v5]))) (hn1 : 1 ≤ n) (hn2 : n ≤ 600) (hel : ∀ i : Nat, i < n → ∃ (y : Nat) (fs : List Value), f i = some y ∧ M y = some (9, .inr (2, fs))) : Met l y_AL_add2 [.code y_AL_add2 b_AL_add2 2 (some .boolean)] ({ frames := 6, cells := 1, slots := 1000, locals := 200 }) (gw_Pc G M [.ref o, .ref g]) (gw_Qi G (fun r M2 => ∃ (c : Nat) (q : Nat), 1 = r ∧ M2 o = some (5, .inr (4, [.int (k + 1), .ref c, .int ((nI n) + 1)])) ∧ M2 c = some (7, .inl (G.2.1 1, q, .inr (.inr (.inr (.inr (va_up (va_cpy f (fun _ => none) 0 0 n) (nI n : Int32).toNatClampNeg (some g))))))) ∧ n < q ∧ q ≤ 1000 ∧ gw_fg (gw_out [5, 7]) M M2)) 1 1000 (gw_A G) := by
  refine gw_start (by decide) (Nat.le_of_ble_eq_true rfl) (fun p9 e9 s m b9 mt9 c9 hx hb hr hml hown hlocks hin hE hB hW ls hl => ?_)
  have hts := hE.ts ([.ref o, .ref g] : List Value).toArray
  have hl : lv_has ls 2 [(0, .ref o), (1, .ref g)] := hl
  have hS : va_S (gw_A G) s.heap s.heap [] := va_S.rf
  have hown : s.vm.findClass "java/util/ArrayList" = some m.cls := hown
  refine lv_aload_n hx hb d_AL_add2_0 rfl (lv_at hl 0 rfl) ?_
  refine lv_dup hx hb d_AL_add2_1 rfl ?_
  refine gw_get (ci := 4) (fs := [.int k, .ref a, .int (nI n)]) hx hb hts in_AL hown hE.K hW hf_o rfl 0 (by decide) (hts _ mw83) (fun x h9 => u_same (hts _ mw82) x h9) rfl d_AL_add2_2 ?_
  refine lv_iconst (v := 1) hx hb d_AL_add2_5 (by decide) ?_
  refine lv_iadd hx hb d_AL_add2_6 ?_
  refine gw_put (ci := 4) (fs := [.int k, .ref a, .int (nI n)]) (v := .int (k + 1)) (ty := .int) hx hb hts in_AL t_AL t_AL_ok n_AL hown hE.K hW hS hf_o rfl 0 (by decide) (hts _ mw83) (fun x h9 => u_same (hts _ mw82) x h9) rfl (by decide +kernel) rfl rfl (Nat.le_of_ble_eq_true rfl) d_AL_add2_7 (fun H locs hW hS => ?_)
  have hF1 : gw_fg (gw_out [5, 7]) M (gw_up M o 5 (.inr (4, [.int (k + 1), .ref a, .int (nI n)]))) := gw_fg.up gw_fg.rf hf_o (show ¬ ((gw_out [5, 7]) 5) by decide) (show ¬ ((gw_out [5, 7]) 5) by decide)
  obtain ⟨M2, eM2⟩ : ∃ z, z = gw_up M o 5 (.inr (4, [.int (k + 1), .ref a, .int (nI n)])) := ⟨_, rfl⟩
  replace hW : gw_P G.1 vwCl G.2.2.2 M2 H := by rw [eM2]; exact hW
  have hf_a : M2 a = some (7, .inl (G.2.1 1, n, .inr (.inr (.inr (.inr f))))) := by rw [eM2]; exact gw_keep hf_a hf_o (by decide)
  have hf_g : M2 g = some (9, .inr (2, [.int v1, .int v2, .int v3, .int v4, .int v5])) := by rw [eM2]; exact gw_keep hf_g hf_o (by decide)
  have hf_o : M2 o = some (5, .inr (4, [.int (k + 1), .ref a, .int (nI n)])) := by rw [eM2]; exact gw_up_self _ _ _ _
  rw [← eM2] at hF1
  refine lv_aload_n hx hb d_AL_add2_10 rfl (lv_at hl 0 rfl) ?_
  refine lv_aload_n hx hb d_AL_add2_11 rfl (lv_at hl 1 rfl) ?_
  refine lv_aload_n hx hb d_AL_add2_12 rfl (lv_at hl 0 rfl) ?_
  refine gw_get (ci := 4) (fs := [.int (k + 1), .ref a, .int (nI n)]) hx hb hts in_AL hown hE.K hW hf_o rfl 1 (by decide) (hts _ mw5) (fun _ h9 => h9) rfl d_AL_add2_13 ?_
  refine lv_aload_n hx hb d_AL_add2_16 rfl (lv_at hl 0 rfl) ?_
  refine gw_get (ci := 4) (fs := [.int (k + 1), .ref a, .int (nI n)]) hx hb hts in_AL hown hE.K hW hf_o rfl 2 (by decide) (hts _ mw0) (fun _ h9 => h9) rfl d_AL_add2_17 ?_
  refine gw_callv hS (va_runV (As := [.ref g, .ref a, .int (nI n)]) (rest := []) ⟨hx, hb, hml, hown, hts⟩ (c_add3K l G M2 o (k + 1) a n f g v1 v2 v3 v4 v5 hf_o hf_a hf_g hn1 hn2 (fun i hi => by obtain ⟨y, fs, h1, h2⟩ := hel i hi; exact ⟨y, fs, h1, (hF1.1 _ _ _ (by decide)).mp h2⟩)) (cwV 3 hts (gw_gv mw85 mw86 mw87 mw14 mw84) rfl rfl rfl (by decide +kernel) ⟨Nat.le_of_ble_eq_true rfl, Nat.le_of_ble_eq_true rfl⟩) (gw_pv hE hB hS hW rfl hf_o) rfl rfl hl.1 rfl (lv_room (Nat.le_of_ble_eq_true rfl)) d_AL_add2_20 ⟨Nat.le_of_ble_eq_true rfl, Nat.le_of_ble_eq_true rfl⟩) (fun M4 H locs hw5 hW hS => ?_)
  refine W.widen (k := 1) (n := 1000) (Nat.le_refl _) (Nat.le_refl _) ?_
  obtain ⟨c6, q7, hf_o', hf_c6', hq1, hq2, hfr8⟩ := hw5
  have hf_g : M4 g = some (9, .inr (2, [.int v1, .int v2, .int v3, .int v4, .int v5])) := (hfr8.1 _ _ _ (by decide)).mp hf_g
  have hf_o : M4 o = some (5, .inr (4, [.int (k + 1), .ref c6, .int ((nI n) + 1)])) := hf_o'
  have hf_c6 : M4 c6 = some (7, .inl (G.2.1 1, q7, .inr (.inr (.inr (.inr (va_up (va_cpy f (fun _ => none) 0 0 n) (nI n : Int32).toNatClampNeg (some g))))))) := hf_c6'
  have hF9 : gw_fg (gw_out [5, 7]) M M4 := gw_fg.tr hF1 (gw_fg.wk hfr8 (by decide))
  refine lv_iconst (v := 1) hx hb d_AL_add2_23 (by decide) ?_
  exact gw_zret hx hb hr hlocks rfl hS hW (Nat.le_of_ble_eq_true rfl) (Nat.le_of_ble_eq_true rfl) d_AL_add2_24 (⟨c6, q7, rfl, hf_o, hf_c6, hq1, hq2, hF9⟩)

set_option maxHeartbeats 4000000 in
set_option maxRecDepth 100000 in
theorem c_growIJ (l : Launch) (G : gw_G) (M : gw_M) (o : Nat) (k : Int32) (a : Nat) (n : Nat) (f : Nat → Option Nat) (hf_o : M o = some (4, .inr (4, [.int k, .ref a, .int (nI n)]))) (hf_a : M a = some (6, .inl (G.2.1 1, n, .inr (.inr (.inr (.inr f)))))) (hn1 : 1 ≤ n) (hn2 : n ≤ 600) (hel : ∀ i : Nat, i < n → ∃ (y : Nat) (fs : List Value), f i = some y ∧ M y = some (10, .inr (3, fs))) : Met l y_AL_grow [.code y_AL_grow b_AL_grow 4 (some (.array (.object "java/lang/Object")))] ({ frames := 3, cells := 1, slots := 1000, locals := 84 }) (gw_Pc G M [.ref o, .int ((nI n) + 1)]) (gw_Qr G (fun r M2 => ∃ (c : Nat) (q : Nat), c = r ∧ M2 c = some (6, .inl (G.2.1 1, q, .inr (.inr (.inr (.inr (va_cpy f (fun _ => none) 0 0 n)))))) ∧ M2 o = some (4, .inr (4, [.int k, .ref c, .int (nI n)])) ∧ n < q ∧ q ≤ 1000 ∧ gw_fg (gw_out [4, 6]) M M2)) 1 1000 (gw_A G) := by
  refine gw_start (by decide) (Nat.le_of_ble_eq_true rfl) (fun p9 e9 s m b9 mt9 c9 hx hb hr hml hown hlocks hin hE hB hW ls hl => ?_)
  have hts := hE.ts ([.ref o, .int ((nI n) + 1)] : List Value).toArray
  have hl : lv_has ls 4 [(0, .ref o), (1, .int ((nI n) + 1))] := hl
  have hS : va_S (gw_A G) s.heap s.heap [] := va_S.rf
  have hown : s.vm.findClass "java/util/ArrayList" = some m.cls := hown
  refine lv_aload_n hx hb d_AL_grow_0 rfl (lv_at hl 0 rfl) ?_
  refine gw_get (ci := 4) (fs := [.int k, .ref a, .int (nI n)]) hx hb hts in_AL hown hE.K hW hf_o rfl 1 (by decide) (hts _ mw5) (fun _ h9 => h9) rfl d_AL_grow_1 ?_
  refine gw_alen (v := nI n) hx hb hE.K hW 1 hf_a rfl rfl d_AL_grow_4 ?_
  refine lv_istore_n (lv' := [(2, .int (nI n)), (0, .ref o), (1, .int ((nI n) + 1))]) hx hb d_AL_grow_5 rfl hl (by decide) rfl (fun ls hl => ?_)
  refine lv_iload_n hx hb d_AL_grow_6 rfl (lv_at hl 0 rfl) ?_
  refine lv_if_gt (tgt := 20) hx hb d_AL_grow_7 (by decide) (fun c7 => ?_) (fun c7 => ?_)
  · refine lv_iload_n hx hb d_AL_grow_20 rfl (lv_at hl 0 rfl) ?_
    refine lv_iload_n hx hb d_AL_grow_21 rfl (lv_at hl 2 rfl) ?_
    refine lv_iload_n hx hb d_AL_grow_22 rfl (lv_at hl 0 rfl) ?_
    refine lv_isub hx hb d_AL_grow_23 ?_
    refine lv_iload_n hx hb d_AL_grow_24 rfl (lv_at hl 0 rfl) ?_
    refine lv_iconst (v := 1) hx hb d_AL_grow_25 (by decide) ?_
    refine lv_ishr hx hb d_AL_grow_26 ?_
    refine W.eq (g2 := F0 m 27 ls [.int (nI (n / 2)), .int (nI 1), .int (nI n)]) (by rw [gx_half (by omega), gx_one]) ?_
    refine gr_calli (va_runS (As := [.int (nI n), .int (nI 1), .int (nI (n / 2))]) (rest := []) ⟨hx, hb, hml, hown, hts⟩ (s_newLength l G M n (n / 2)  hn1 (by omega) (by omega)) (va_cwS 3 hts (gw_gt mw110 mw111 mw112 mw109) rfl rfl rfl (by decide +kernel) ⟨Nat.le_of_ble_eq_true rfl, Nat.le_of_ble_eq_true rfl⟩) (gw_ps hE hB hS hW) rfl rfl hl.1 rfl (lv_room (Nat.le_of_ble_eq_true rfl)) d_AL_grow_27 ⟨Nat.le_of_ble_eq_true rfl, Nat.le_of_ble_eq_true rfl⟩) (fun r1 hw2 => ?_)
    obtain ⟨d, hd1, hd2, rfl⟩ := hw2
    obtain ⟨q, eq9⟩ : ∃ z : Nat, z = n + d := ⟨_, rfl⟩
    rw [← eq9]
    refine lv_istore_n (lv' := [(3, .int (nI q)), (2, .int (nI n)), (0, .ref o), (1, .int ((nI n) + 1))]) hx hb d_AL_grow_30 rfl hl (by decide) rfl (fun ls hl => ?_)
    refine lv_aload_n hx hb d_AL_grow_31 rfl (lv_at hl 2 rfl) ?_
    refine lv_aload_n hx hb d_AL_grow_32 rfl (lv_at hl 2 rfl) ?_
    refine gw_get (ci := 4) (fs := [.int k, .ref a, .int (nI n)]) hx hb hts in_AL hown hE.K hW hf_o rfl 1 (by decide) (hts _ mw5) (fun _ h9 => h9) rfl d_AL_grow_33 ?_
    refine lv_iload_n hx hb d_AL_grow_36 rfl (lv_at hl 0 rfl) ?_
    refine gw_callr hS (va_runS (As := [.ref a, .int (nI q)]) (rest := [.ref o]) ⟨hx, hb, hml, hown, hts⟩ (c_copy2J l G M a n q f hf_a (by omega) (by omega) hel) (va_cwS 2 hts (gw_gt mw114 mw115 mw108 mw113) rfl rfl rfl (by decide +kernel) ⟨Nat.le_of_ble_eq_true rfl, Nat.le_of_ble_eq_true rfl⟩) (gw_ps hE hB hS hW) rfl rfl hl.1 rfl (lv_room (Nat.le_of_ble_eq_true rfl)) d_AL_grow_37 ⟨Nat.le_of_ble_eq_true rfl, Nat.le_of_ble_eq_true rfl⟩) (fun r3 M4 H locs hw5 hW hS => ?_)
    refine W.widen (k := 1) (n := 1000) (Nat.le_refl _) (Nat.le_refl _) ?_
    obtain ⟨c6, rfl, hf_c6', hfr7⟩ := hw5
    have hf_o : M4 o = some (4, .inr (4, [.int k, .ref a, .int (nI n)])) := (hfr7.1 _ _ _ (by decide)).mp hf_o
    have hf_c6 : M4 c6 = some (6, .inl (G.2.1 1, q, .inr (.inr (.inr (.inr (va_cpy f (fun _ => none) 0 0 n)))))) := hf_c6'
    have hF8 : gw_fg (gw_out [4, 6]) M M4 := gw_fg.tr gw_fg.rf (gw_fg.wk hfr7 (by decide))
    refine lv_dup_x1 hx hb d_AL_grow_40 rfl rfl ?_
    refine gw_put (ci := 4) (fs := [.int k, .ref a, .int (nI n)]) (v := .ref c6) (ty := .array (.object "java/lang/Object")) hx hb hts in_AL t_AL t_AL_ok n_AL hown hE.K hW hS hf_o rfl 1 (by decide) (hts _ mw5) (fun _ h9 => h9) rfl (by decide +kernel) rfl rfl (Nat.le_of_ble_eq_true rfl) d_AL_grow_41 (fun H locs hW hS => ?_)
    have hF9 : gw_fg (gw_out [4, 6]) M (gw_up M4 o 4 (.inr (4, [.int k, .ref c6, .int (nI n)]))) := gw_fg.up hF8 hf_o (show ¬ ((gw_out [4, 6]) 4) by decide) (show ¬ ((gw_out [4, 6]) 4) by decide)
    obtain ⟨M10, eM10⟩ : ∃ z, z = gw_up M4 o 4 (.inr (4, [.int k, .ref c6, .int (nI n)])) := ⟨_, rfl⟩
    replace hW : gw_P G.1 vwCl G.2.2.2 M10 H := by rw [eM10]; exact hW
    have hf_c6 : M10 c6 = some (6, .inl (G.2.1 1, q, .inr (.inr (.inr (.inr (va_cpy f (fun _ => none) 0 0 n)))))) := by rw [eM10]; exact gw_keep hf_c6 hf_o (by decide)
    have hf_o : M10 o = some (4, .inr (4, [.int k, .ref c6, .int (nI n)])) := by rw [eM10]; exact gw_up_self _ _ _ _
    rw [← eM10] at hF9
    exact gw_aret hx hb hr hlocks (Or.inr ⟨_, rfl⟩) hS hW (Nat.le_of_ble_eq_true rfl) (Nat.le_of_ble_eq_true rfl) d_AL_grow_44 (⟨c6, q, rfl, hf_c6, hf_o, (by omega), (by omega), hF9⟩)
  · exact absurd (gx_gt0 hn1 (by omega)) c7

set_option maxHeartbeats 4000000 in
set_option maxRecDepth 100000 in
theorem c_growJ (l : Launch) (G : gw_G) (M : gw_M) (o : Nat) (k : Int32) (a : Nat) (n : Nat) (f : Nat → Option Nat) (hf_o : M o = some (4, .inr (4, [.int k, .ref a, .int (nI n)]))) (hf_a : M a = some (6, .inl (G.2.1 1, n, .inr (.inr (.inr (.inr f)))))) (hn1 : 1 ≤ n) (hn2 : n ≤ 600) (hel : ∀ i : Nat, i < n → ∃ (y : Nat) (fs : List Value), f i = some y ∧ M y = some (10, .inr (3, fs))) : Met l y_AL_grow2 [.code y_AL_grow2 b_AL_grow2 1 (some (.array (.object "java/lang/Object")))] ({ frames := 4, cells := 1, slots := 1000, locals := 107 }) (gw_Pc G M [.ref o]) (gw_Qr G (fun r M2 => ∃ (c : Nat) (q : Nat), c = r ∧ M2 c = some (6, .inl (G.2.1 1, q, .inr (.inr (.inr (.inr (va_cpy f (fun _ => none) 0 0 n)))))) ∧ M2 o = some (4, .inr (4, [.int k, .ref c, .int (nI n)])) ∧ n < q ∧ q ≤ 1000 ∧ gw_fg (gw_out [4, 6]) M M2)) 1 1000 (gw_A G) := by
  refine gw_start (by decide) (Nat.le_of_ble_eq_true rfl) (fun p9 e9 s m b9 mt9 c9 hx hb hr hml hown hlocks hin hE hB hW ls hl => ?_)
  have hts := hE.ts ([.ref o] : List Value).toArray
  have hl : lv_has ls 1 [(0, .ref o)] := hl
  have hS : va_S (gw_A G) s.heap s.heap [] := va_S.rf
  have hown : s.vm.findClass "java/util/ArrayList" = some m.cls := hown
  refine lv_aload_n hx hb d_AL_grow2_0 rfl (lv_at hl 0 rfl) ?_
  refine lv_aload_n hx hb d_AL_grow2_1 rfl (lv_at hl 0 rfl) ?_
  refine gw_get (ci := 4) (fs := [.int k, .ref a, .int (nI n)]) hx hb hts in_AL hown hE.K hW hf_o rfl 2 (by decide) (hts _ mw0) (fun _ h9 => h9) rfl d_AL_grow2_2 ?_
  refine lv_iconst (v := 1) hx hb d_AL_grow2_5 (by decide) ?_
  refine lv_iadd hx hb d_AL_grow2_6 ?_
  refine gw_callr hS (va_runV (As := [.int ((nI n) + 1)]) (rest := []) ⟨hx, hb, hml, hown, hts⟩ (c_growIJ l G M o k a n f hf_o hf_a hn1 hn2 hel) (cwV 1 hts (gw_gv mw74 mw75 mw76 mw14 mw73) rfl rfl rfl (by decide +kernel) ⟨Nat.le_of_ble_eq_true rfl, Nat.le_of_ble_eq_true rfl⟩) (gw_pv hE hB hS hW rfl hf_o) rfl rfl hl.1 rfl (lv_room (Nat.le_of_ble_eq_true rfl)) d_AL_grow2_7 ⟨Nat.le_of_ble_eq_true rfl, Nat.le_of_ble_eq_true rfl⟩) (fun r1 M2 H locs hw3 hW hS => ?_)
  refine W.widen (k := 1) (n := 1000) (Nat.le_refl _) (Nat.le_refl _) ?_
  obtain ⟨c4, q5, rfl, hf_c4', hf_o', hq1, hq2, hfr6⟩ := hw3
  have hf_c4 : M2 c4 = some (6, .inl (G.2.1 1, q5, .inr (.inr (.inr (.inr (va_cpy f (fun _ => none) 0 0 n)))))) := hf_c4'
  have hf_o : M2 o = some (4, .inr (4, [.int k, .ref c4, .int (nI n)])) := hf_o'
  have hF7 : gw_fg (gw_out [4, 6]) M M2 := gw_fg.tr gw_fg.rf (gw_fg.wk hfr6 (by decide))
  exact gw_aret hx hb hr hlocks (Or.inr ⟨_, rfl⟩) hS hW (Nat.le_of_ble_eq_true rfl) (Nat.le_of_ble_eq_true rfl) d_AL_grow2_10 (⟨c4, q5, rfl, hf_c4, hf_o, hq1, hq2, hF7⟩)

set_option maxHeartbeats 4000000 in
set_option maxRecDepth 100000 in
theorem c_add3J (l : Launch) (G : gw_G) (M : gw_M) (o : Nat) (k : Int32) (a : Nat) (n : Nat) (f : Nat → Option Nat) (g : Nat) (v1 : Nat) (v2 : Int32) (hf_o : M o = some (4, .inr (4, [.int k, .ref a, .int (nI n)]))) (hf_a : M a = some (6, .inl (G.2.1 1, n, .inr (.inr (.inr (.inr f)))))) (hf_g : M g = some (10, .inr (3, [.ref v1, .int v2]))) (hn1 : 1 ≤ n) (hn2 : n ≤ 600) (hel : ∀ i : Nat, i < n → ∃ (y : Nat) (fs : List Value), f i = some y ∧ M y = some (10, .inr (3, fs))) : Met l y_AL_add [.code y_AL_add b_AL_add 4 none] ({ frames := 5, cells := 1, slots := 1000, locals := 127 }) (gw_Pc G M [.ref o, .ref g, .ref a, .int (nI n)]) (gw_Qv G (fun M2 => ∃ (c : Nat) (q : Nat), M2 o = some (4, .inr (4, [.int k, .ref c, .int ((nI n) + 1)])) ∧ M2 c = some (6, .inl (G.2.1 1, q, .inr (.inr (.inr (.inr (va_up (va_cpy f (fun _ => none) 0 0 n) (nI n : Int32).toNatClampNeg (some g))))))) ∧ n < q ∧ q ≤ 1000 ∧ gw_fg (gw_out [4, 6]) M M2)) 1 1000 (gw_A G) := by
  refine gw_start (by decide) (Nat.le_of_ble_eq_true rfl) (fun p9 e9 s m b9 mt9 c9 hx hb hr hml hown hlocks hin hE hB hW ls hl => ?_)
  have hts := hE.ts ([.ref o, .ref g, .ref a, .int (nI n)] : List Value).toArray
  have hl : lv_has ls 4 [(0, .ref o), (1, .ref g), (2, .ref a), (3, .int (nI n))] := hl
  have hS : va_S (gw_A G) s.heap s.heap [] := va_S.rf
  have hown : s.vm.findClass "java/util/ArrayList" = some m.cls := hown
  refine lv_iload_n hx hb d_AL_add_0 rfl (lv_at hl 3 rfl) ?_
  refine lv_aload_n hx hb d_AL_add_1 rfl (lv_at hl 2 rfl) ?_
  refine gw_alen (v := nI n) hx hb hE.K hW 1 hf_a rfl rfl d_AL_add_2 ?_
  refine lv_icmp_ne (tgt := 11) hx hb d_AL_add_3 (by decide) (fun c3 => ?_) (fun c3 => ?_)
  · exact absurd rfl c3
  · refine lv_aload_n hx hb d_AL_add_6 rfl (lv_at hl 0 rfl) ?_
    refine gw_callr hS (va_runV (As := []) (rest := []) ⟨hx, hb, hml, hown, hts⟩ (c_growJ l G M o k a n f hf_o hf_a hn1 hn2 hel) (cwV 0 hts (gw_gv mw78 mw79 mw80 mw14 mw77) rfl rfl rfl (by decide +kernel) ⟨Nat.le_of_ble_eq_true rfl, Nat.le_of_ble_eq_true rfl⟩) (gw_pv hE hB hS hW rfl hf_o) rfl rfl hl.1 rfl (lv_room (Nat.le_of_ble_eq_true rfl)) d_AL_add_7 ⟨Nat.le_of_ble_eq_true rfl, Nat.le_of_ble_eq_true rfl⟩) (fun r1 M2 H locs hw3 hW hS => ?_)
    refine W.widen (k := 1) (n := 1000) (Nat.le_refl _) (Nat.le_refl _) ?_
    obtain ⟨c4, q5, rfl, hf_c4', hf_o', hq1, hq2, hfr6⟩ := hw3
    have hf_g : M2 g = some (10, .inr (3, [.ref v1, .int v2])) := (hfr6.1 _ _ _ (by decide)).mp hf_g
    have hf_c4 : M2 c4 = some (6, .inl (G.2.1 1, q5, .inr (.inr (.inr (.inr (va_cpy f (fun _ => none) 0 0 n)))))) := hf_c4'
    have hf_o : M2 o = some (4, .inr (4, [.int k, .ref c4, .int (nI n)])) := hf_o'
    have hF7 : gw_fg (gw_out [4, 6]) M M2 := gw_fg.tr gw_fg.rf (gw_fg.wk hfr6 (by decide))
    refine lv_astore_n (lv' := [(2, .ref c4), (0, .ref o), (1, .ref g), (3, .int (nI n))]) hx hb d_AL_add_10 rfl hl (by decide) rfl (fun ls hl => ?_)
    refine lv_aload_n hx hb d_AL_add_11 rfl (lv_at hl 0 rfl) ?_
    refine lv_iload_n hx hb d_AL_add_12 rfl (lv_at hl 3 rfl) ?_
    refine lv_aload_n hx hb d_AL_add_13 rfl (lv_at hl 2 rfl) ?_
    refine gw_aastO (i := nI n) (v := g) hx hb hE.K hW hS 1 3 hf_c4 rfl (hE.nw mw88) hf_g rfl (vp_in_nI hq1 (by omega)) d_AL_add_14 (fun H locs hW hS => ?_)
    have hF8 : gw_fg (gw_out [4, 6]) M (gw_up M2 c4 6 (.inl (G.2.1 1, q5, .inr (.inr (.inr (.inr (va_up (va_cpy f (fun _ => none) 0 0 n) (nI n : Int32).toNatClampNeg (some g)))))))) := gw_fg.up hF7 hf_c4 (show ¬ ((gw_out [4, 6]) 6) by decide) (show ¬ ((gw_out [4, 6]) 6) by decide)
    obtain ⟨M9, eM9⟩ : ∃ z, z = gw_up M2 c4 6 (.inl (G.2.1 1, q5, .inr (.inr (.inr (.inr (va_up (va_cpy f (fun _ => none) 0 0 n) (nI n : Int32).toNatClampNeg (some g))))))) := ⟨_, rfl⟩
    replace hW : gw_P G.1 vwCl G.2.2.2 M9 H := by rw [eM9]; exact hW
    have hf_o : M9 o = some (4, .inr (4, [.int k, .ref c4, .int (nI n)])) := by rw [eM9]; exact gw_keep hf_o hf_c4 (by decide)
    have hf_g : M9 g = some (10, .inr (3, [.ref v1, .int v2])) := by rw [eM9]; exact gw_keep hf_g hf_c4 (by decide)
    have hf_c4 : M9 c4 = some (6, .inl (G.2.1 1, q5, .inr (.inr (.inr (.inr (va_up (va_cpy f (fun _ => none) 0 0 n) (nI n : Int32).toNatClampNeg (some g))))))) := by rw [eM9]; exact gw_up_self _ _ _ _
    rw [← eM9] at hF8
    refine lv_aload_n hx hb d_AL_add_15 rfl (lv_at hl 1 rfl) ?_
    refine lv_iload_n hx hb d_AL_add_16 rfl (lv_at hl 3 rfl) ?_
    refine lv_iconst (v := 1) hx hb d_AL_add_17 (by decide) ?_
    refine lv_iadd hx hb d_AL_add_18 ?_
    refine gw_put (ci := 4) (fs := [.int k, .ref c4, .int (nI n)]) (v := .int ((nI n) + 1)) (ty := .int) hx hb hts in_AL t_AL t_AL_ok n_AL hown hE.K hW hS hf_o rfl 2 (by decide) (hts _ mw0) (fun _ h9 => h9) rfl (by decide +kernel) rfl rfl (Nat.le_of_ble_eq_true rfl) d_AL_add_19 (fun H locs hW hS => ?_)
    have hF10 : gw_fg (gw_out [4, 6]) M (gw_up M9 o 4 (.inr (4, [.int k, .ref c4, .int ((nI n) + 1)]))) := gw_fg.up hF8 hf_o (show ¬ ((gw_out [4, 6]) 4) by decide) (show ¬ ((gw_out [4, 6]) 4) by decide)
    obtain ⟨M11, eM11⟩ : ∃ z, z = gw_up M9 o 4 (.inr (4, [.int k, .ref c4, .int ((nI n) + 1)])) := ⟨_, rfl⟩
    replace hW : gw_P G.1 vwCl G.2.2.2 M11 H := by rw [eM11]; exact hW
    have hf_g : M11 g = some (10, .inr (3, [.ref v1, .int v2])) := by rw [eM11]; exact gw_keep hf_g hf_o (by decide)
    have hf_c4 : M11 c4 = some (6, .inl (G.2.1 1, q5, .inr (.inr (.inr (.inr (va_up (va_cpy f (fun _ => none) 0 0 n) (nI n : Int32).toNatClampNeg (some g))))))) := by rw [eM11]; exact gw_keep hf_c4 hf_o (by decide)
    have hf_o : M11 o = some (4, .inr (4, [.int k, .ref c4, .int ((nI n) + 1)])) := by rw [eM11]; exact gw_up_self _ _ _ _
    rw [← eM11] at hF10
    exact gw_vret hx hb hr hlocks hS hW (Nat.le_of_ble_eq_true rfl) (Nat.le_of_ble_eq_true rfl) d_AL_add_22 (⟨c4, q5, hf_o, hf_c4, hq1, hq2, hF10⟩)

set_option maxHeartbeats 4000000 in
set_option maxRecDepth 100000 in
theorem c_addJ (l : Launch) (G : gw_G) (M : gw_M) (o : Nat) (k : Int32) (a : Nat) (n : Nat) (f : Nat → Option Nat) (g : Nat) (v1 : Nat) (v2 : Int32) (hf_o : M o = some (4, .inr (4, [.int k, .ref a, .int (nI n)]))) (hf_a : M a = some (6, .inl (G.2.1 1, n, .inr (.inr (.inr (.inr f)))))) (hf_g : M g = some (10, .inr (3, [.ref v1, .int v2]))) (hn1 : 1 ≤ n) (hn2 : n ≤ 600) (hel : ∀ i : Nat, i < n → ∃ (y : Nat) (fs : List Value), f i = some y ∧ M y = some (10, .inr (3, fs))) : Met l y_AL_add2 [.code y_AL_add2 b_AL_add2 2 (some .boolean)] ({ frames := 6, cells := 1, slots := 1000, locals := 200 }) (gw_Pc G M [.ref o, .ref g]) (gw_Qi G (fun r M2 => ∃ (c : Nat) (q : Nat), 1 = r ∧ M2 o = some (4, .inr (4, [.int (k + 1), .ref c, .int ((nI n) + 1)])) ∧ M2 c = some (6, .inl (G.2.1 1, q, .inr (.inr (.inr (.inr (va_up (va_cpy f (fun _ => none) 0 0 n) (nI n : Int32).toNatClampNeg (some g))))))) ∧ n < q ∧ q ≤ 1000 ∧ gw_fg (gw_out [4, 6]) M M2)) 1 1000 (gw_A G) := by
  refine gw_start (by decide) (Nat.le_of_ble_eq_true rfl) (fun p9 e9 s m b9 mt9 c9 hx hb hr hml hown hlocks hin hE hB hW ls hl => ?_)
  have hts := hE.ts ([.ref o, .ref g] : List Value).toArray
  have hl : lv_has ls 2 [(0, .ref o), (1, .ref g)] := hl
  have hS : va_S (gw_A G) s.heap s.heap [] := va_S.rf
  have hown : s.vm.findClass "java/util/ArrayList" = some m.cls := hown
  refine lv_aload_n hx hb d_AL_add2_0 rfl (lv_at hl 0 rfl) ?_
  refine lv_dup hx hb d_AL_add2_1 rfl ?_
  refine gw_get (ci := 4) (fs := [.int k, .ref a, .int (nI n)]) hx hb hts in_AL hown hE.K hW hf_o rfl 0 (by decide) (hts _ mw83) (fun x h9 => u_same (hts _ mw82) x h9) rfl d_AL_add2_2 ?_
  refine lv_iconst (v := 1) hx hb d_AL_add2_5 (by decide) ?_
  refine lv_iadd hx hb d_AL_add2_6 ?_
  refine gw_put (ci := 4) (fs := [.int k, .ref a, .int (nI n)]) (v := .int (k + 1)) (ty := .int) hx hb hts in_AL t_AL t_AL_ok n_AL hown hE.K hW hS hf_o rfl 0 (by decide) (hts _ mw83) (fun x h9 => u_same (hts _ mw82) x h9) rfl (by decide +kernel) rfl rfl (Nat.le_of_ble_eq_true rfl) d_AL_add2_7 (fun H locs hW hS => ?_)
  have hF1 : gw_fg (gw_out [4, 6]) M (gw_up M o 4 (.inr (4, [.int (k + 1), .ref a, .int (nI n)]))) := gw_fg.up gw_fg.rf hf_o (show ¬ ((gw_out [4, 6]) 4) by decide) (show ¬ ((gw_out [4, 6]) 4) by decide)
  obtain ⟨M2, eM2⟩ : ∃ z, z = gw_up M o 4 (.inr (4, [.int (k + 1), .ref a, .int (nI n)])) := ⟨_, rfl⟩
  replace hW : gw_P G.1 vwCl G.2.2.2 M2 H := by rw [eM2]; exact hW
  have hf_a : M2 a = some (6, .inl (G.2.1 1, n, .inr (.inr (.inr (.inr f))))) := by rw [eM2]; exact gw_keep hf_a hf_o (by decide)
  have hf_g : M2 g = some (10, .inr (3, [.ref v1, .int v2])) := by rw [eM2]; exact gw_keep hf_g hf_o (by decide)
  have hf_o : M2 o = some (4, .inr (4, [.int (k + 1), .ref a, .int (nI n)])) := by rw [eM2]; exact gw_up_self _ _ _ _
  rw [← eM2] at hF1
  refine lv_aload_n hx hb d_AL_add2_10 rfl (lv_at hl 0 rfl) ?_
  refine lv_aload_n hx hb d_AL_add2_11 rfl (lv_at hl 1 rfl) ?_
  refine lv_aload_n hx hb d_AL_add2_12 rfl (lv_at hl 0 rfl) ?_
  refine gw_get (ci := 4) (fs := [.int (k + 1), .ref a, .int (nI n)]) hx hb hts in_AL hown hE.K hW hf_o rfl 1 (by decide) (hts _ mw5) (fun _ h9 => h9) rfl d_AL_add2_13 ?_
  refine lv_aload_n hx hb d_AL_add2_16 rfl (lv_at hl 0 rfl) ?_
  refine gw_get (ci := 4) (fs := [.int (k + 1), .ref a, .int (nI n)]) hx hb hts in_AL hown hE.K hW hf_o rfl 2 (by decide) (hts _ mw0) (fun _ h9 => h9) rfl d_AL_add2_17 ?_
  refine gw_callv hS (va_runV (As := [.ref g, .ref a, .int (nI n)]) (rest := []) ⟨hx, hb, hml, hown, hts⟩ (c_add3J l G M2 o (k + 1) a n f g v1 v2 hf_o hf_a hf_g hn1 hn2 (fun i hi => by obtain ⟨y, fs, h1, h2⟩ := hel i hi; exact ⟨y, fs, h1, (hF1.1 _ _ _ (by decide)).mp h2⟩)) (cwV 3 hts (gw_gv mw85 mw86 mw87 mw14 mw84) rfl rfl rfl (by decide +kernel) ⟨Nat.le_of_ble_eq_true rfl, Nat.le_of_ble_eq_true rfl⟩) (gw_pv hE hB hS hW rfl hf_o) rfl rfl hl.1 rfl (lv_room (Nat.le_of_ble_eq_true rfl)) d_AL_add2_20 ⟨Nat.le_of_ble_eq_true rfl, Nat.le_of_ble_eq_true rfl⟩) (fun M4 H locs hw5 hW hS => ?_)
  refine W.widen (k := 1) (n := 1000) (Nat.le_refl _) (Nat.le_refl _) ?_
  obtain ⟨c6, q7, hf_o', hf_c6', hq1, hq2, hfr8⟩ := hw5
  have hf_g : M4 g = some (10, .inr (3, [.ref v1, .int v2])) := (hfr8.1 _ _ _ (by decide)).mp hf_g
  have hf_o : M4 o = some (4, .inr (4, [.int (k + 1), .ref c6, .int ((nI n) + 1)])) := hf_o'
  have hf_c6 : M4 c6 = some (6, .inl (G.2.1 1, q7, .inr (.inr (.inr (.inr (va_up (va_cpy f (fun _ => none) 0 0 n) (nI n : Int32).toNatClampNeg (some g))))))) := hf_c6'
  have hF9 : gw_fg (gw_out [4, 6]) M M4 := gw_fg.tr hF1 (gw_fg.wk hfr8 (by decide))
  refine lv_iconst (v := 1) hx hb d_AL_add2_23 (by decide) ?_
  exact gw_zret hx hb hr hlocks rfl hS hW (Nat.le_of_ble_eq_true rfl) (Nat.le_of_ble_eq_true rfl) d_AL_add2_24 (⟨c6, q7, rfl, hf_o, hf_c6, hq1, hq2, hF9⟩)
