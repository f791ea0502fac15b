theorem gi_c0 : (0 : Int32).toNatClampNeg = 0 := by decide
theorem gx_lt256 {a : Nat} (h : a ≤ 255) : nI a < 256 := nI_lt (b := 256) (by omega) (by omega)
theorem gx_ne256 {a : Nat} (h : a ≤ 255) : ¬ nI a = 256 := fun q => by have := (nI_eq (a := a) (b := 256) (by omega) (by omega)).mp q; omega
theorem gx_mn256 {a : Nat} (h : a ≤ 255) : (if nI a < 256 then nI a else 256) = nI a := if_pos (gx_lt256 h)
theorem gx_ge1 {a : Nat} (h : ¬ nI a ≤ 0) (ha : a < 2 ^ 31) : 1 ≤ a := by
  rcases Nat.eq_zero_or_pos a with q | q
  · subst q; exact absurd (by decide) h
  · exact q
theorem gx_pred {a : Nat} (h : 1 ≤ a) : nI a - 1 = nI (a - 1) := by
  obtain ⟨b, rfl⟩ : ∃ b, a = b + 1 := ⟨a - 1, by omega⟩
  exact nI_pred b
theorem gx_dec {a : Nat} (h : 1 ≤ a) : nI a + (-1) = nI (a - 1) := by
  obtain ⟨b, rfl⟩ : ∃ b, a = b + 1 := ⟨a - 1, by omega⟩
  exact pk_m1 b
theorem gx_in1 {a N : Nat} (h : 1 ≤ a) (hN : a ≤ N ∧ N < 2 ^ 31) : vp_in (nI a - 1) N := by rw [gx_pred h]; exact vp_in_nI (by omega) hN.2
theorem gx_nlt {a b : Nat} (h : ¬ nI a < nI b) (ha : a < 2 ^ 31) (hb : b < 2 ^ 31) : b ≤ a := by
  rcases Nat.lt_or_ge a b with q | q
  · exact absurd (nI_lt q hb) h
  · exact q
set_option maxHeartbeats 4000000 in
set_option maxRecDepth 100000 in
theorem r_floorMod (l : Launch) (G : gw_G) (M : gw_M) (x : Int32) : Met l y_Math_floorMod [.code y_Math_floorMod b_Math_floorMod 3 (some .int)] ({ frames := 0, cells := 0, slots := 0, locals := 0 }) (gw_Pc G M [.int x, .int 9999]) (gr_Qi (fun r => True)) 0 0 (fun _ => False) := by
  refine gw_startRF (by decide +kernel) (Nat.le_of_ble_eq_true rfl) (fun p9 e9 s m b9 mt9 c9 hx hb hr hml hown hlocks hin hE hB hW ls hl => ?_)
  have hts := hE.ts ([.int x, .int 9999] : List Value).toArray
  have hl : lv_has ls 3 [(0, .int x), (1, .int 9999)] := hl
  have hown : s.vm.findClass "java/lang/Math" = some m.cls := hown
  have hS : va_S (gw_A G) s.heap s.heap [] := va_S.rf
  refine lv_iload_n hx hb d_Math_floorMod_0 rfl (lv_at hl 0 rfl) ?_
  refine lv_iload_n hx hb d_Math_floorMod_1 rfl (lv_at hl 1 rfl) ?_
  refine lv_irem hx hb d_Math_floorMod_2 (by decide) ?_
  refine lv_istore_n (lv' := [(2, .int (x - x / 9999 * 9999)), (0, .int x), (1, .int 9999)]) hx hb d_Math_floorMod_3 rfl hl (by decide) rfl (fun ls hl => ?_)
  refine lv_iload_n hx hb d_Math_floorMod_4 rfl (lv_at hl 1 rfl) ?_
  refine lv_iload_n hx hb d_Math_floorMod_5 rfl (lv_at hl 2 rfl) ?_
  refine lv_ixor hx hb d_Math_floorMod_6 ?_
  refine lv_if_ge (tgt := 18) hx hb d_Math_floorMod_7 (by decide) (fun c7 => ?_) (fun c7 => ?_)
  · refine lv_iload_n hx hb d_Math_floorMod_18 rfl (lv_at hl 0 rfl) ?_
    exact gr_iret hx hb hr hlocks d_Math_floorMod_19 trivial
  · refine lv_iload_n hx hb d_Math_floorMod_10 rfl (lv_at hl 0 rfl) ?_
    refine lv_if_eq (tgt := 18) hx hb d_Math_floorMod_11 (by decide) (fun c11 => ?_) (fun c11 => ?_)
    · refine lv_iload_n hx hb d_Math_floorMod_18 rfl (lv_at hl 0 rfl) ?_
      exact gr_iret hx hb hr hlocks d_Math_floorMod_19 trivial
    · refine lv_iload_n hx hb d_Math_floorMod_14 rfl (lv_at hl 0 rfl) ?_
      refine lv_iload_n hx hb d_Math_floorMod_15 rfl (lv_at hl 2 rfl) ?_
      refine lv_iadd hx hb d_Math_floorMod_16 ?_
      exact gr_iret hx hb hr hlocks d_Math_floorMod_17 trivial

set_option maxHeartbeats 4000000 in
set_option maxRecDepth 100000 in
theorem r_base (l : Launch) (G : gw_G) (M : gw_M) (g : Nat) (t : Nat) (en : Int32) (k : Nat) (f : Nat → Int32) (hf_g : M g = some (10, .inr (3, [.ref t, .int en]))) (hf_t : M t = some (11, .inl (G.2.1 0, k, .inl f))) (hk : k ≤ 256) : Met l y_Job_base [.code y_Job_base b_Job_base 1 (some .int)] ({ frames := 0, cells := 0, slots := 0, locals := 0 }) (gw_Pc G M [.ref g]) (gr_Qi (fun r => True)) 0 0 (fun _ => False) := by
  refine gw_startR (by decide) (Nat.le_of_ble_eq_true rfl) (fun p9 e9 s m b9 mt9 c9 hx hb hr hml hown hlocks hin hE hB hW ls hl => ?_)
  have hts := hE.ts ([.ref g] : List Value).toArray
  have hl : lv_has ls 1 [(0, .ref g)] := hl
  have hown : s.vm.findClass "Generations$Job" = some m.cls := hown
  have hS : va_S (gw_A G) s.heap s.heap [] := va_S.rf
  refine lv_aload_n hx hb d_Job_base_0 rfl (lv_at hl 0 rfl) ?_
  refine gw_get (ci := 3) (fs := [.ref t, .int en]) hx hb hts in_Job hown hE.K hW hf_g rfl 0 (by decide) (hts _ mw116) (fun _ h9 => h9) rfl d_Job_base_1 ?_
  refine gw_alen (v := nI k) hx hb hE.K hW 0 hf_t rfl rfl d_Job_base_4 ?_
  refine lv_if_le (tgt := 23) hx hb d_Job_base_5 (by decide) (fun c5 => ?_) (fun c5 => ?_)
  · refine lv_iconst (v := 0) hx hb d_Job_base_23 (by decide) ?_
    exact gr_iret hx hb hr hlocks d_Job_base_24 trivial
  · refine lv_aload_n hx hb d_Job_base_8 rfl (lv_at hl 0 rfl) ?_
    refine gw_get (ci := 3) (fs := [.ref t, .int en]) hx hb hts in_Job hown hE.K hW hf_g rfl 0 (by decide) (hts _ mw116) (fun _ h9 => h9) rfl d_Job_base_9 ?_
    refine lv_aload_n hx hb d_Job_base_12 rfl (lv_at hl 0 rfl) ?_
    refine gw_get (ci := 3) (fs := [.ref t, .int en]) hx hb hts in_Job hown hE.K hW hf_g rfl 0 (by decide) (hts _ mw116) (fun _ h9 => h9) rfl d_Job_base_13 ?_
    refine gw_alen (v := nI k) hx hb hE.K hW 0 hf_t rfl rfl d_Job_base_16 ?_
    refine lv_iconst (v := 1) hx hb d_Job_base_17 (by decide) ?_
    refine lv_isub hx hb d_Job_base_18 ?_
    refine gw_iald (i := (nI k) - 1) hx hb hE.K hW 0 hf_t rfl (gx_last c5 hk) d_Job_base_19 ?_
    refine lv_goto (tgt := 24) hx hb d_Job_base_20 (by decide) ?_
    exact gr_iret hx hb hr hlocks d_Job_base_24 trivial

set_option maxHeartbeats 4000000 in
set_option maxRecDepth 100000 in
theorem r_plus (l : Launch) (G : gw_G) (M : gw_M) (g : Nat) (t : Nat) (en : Int32) (k : Nat) (f : Nat → Int32) (q : Int32) (hf_g : M g = some (10, .inr (3, [.ref t, .int en]))) (hf_t : M t = some (11, .inl (G.2.1 0, k, .inl f))) (hk : k ≤ 256) : Met l y_Job_plus [.code y_Job_plus b_Job_plus 2 (some .int)] ({ frames := 1, cells := 0, slots := 0, locals := 22 }) (gw_Pc G M [.ref g, .int q]) (gr_Qi (fun r => True)) 0 0 (fun _ => False) := by
  refine gw_startR (by decide) (Nat.le_of_ble_eq_true rfl) (fun p9 e9 s m b9 mt9 c9 hx hb hr hml hown hlocks hin hE hB hW ls hl => ?_)
  have hts := hE.ts ([.ref g, .int q] : List Value).toArray
  have hl : lv_has ls 2 [(0, .ref g), (1, .int q)] := hl
  have hown : s.vm.findClass "Generations$Job" = some m.cls := hown
  have hS : va_S (gw_A G) s.heap s.heap [] := va_S.rf
  refine lv_aload_n hx hb d_Job_plus_0 rfl (lv_at hl 0 rfl) ?_
  refine gr_calli (va_runV (As := []) (rest := []) ⟨hx, hb, hml, hown, hts⟩ (r_base l G M g t en k f hf_g hf_t (by assumption)) (cwV 0 hts (gw_gv mw118 mw119 mw120 mw121 mw117) rfl rfl rfl (by decide +kernel) ⟨Nat.le_of_ble_eq_true rfl, Nat.le_of_ble_eq_true rfl⟩) (gw_pv hE hB hS hW rfl hf_g) rfl rfl hl.1 rfl (lv_room (Nat.le_of_ble_eq_true rfl)) d_Job_plus_1 ⟨Nat.le_of_ble_eq_true rfl, Nat.le_of_ble_eq_true rfl⟩) (fun r1 hw2 => ?_)
  refine lv_iload_n hx hb d_Job_plus_4 rfl (lv_at hl 1 rfl) ?_
  refine lv_iadd hx hb d_Job_plus_5 ?_
  refine lv_iconst (v := 1) hx hb d_Job_plus_6 (by decide) ?_
  refine lv_isub hx hb d_Job_plus_7 ?_
  refine lv_sipush (v := 9999) hx hb d_Job_plus_8 (by decide) ?_
  refine gr_calli (va_runS (As := [.int ((r1 + q) - 1), .int 9999]) (rest := []) ⟨hx, hb, hml, hown, hts⟩ (r_floorMod l G M ((r1 + q) - 1)  ) (va_cwS 2 hts (gw_gt mw123 mw124 mw70 mw122) rfl rfl rfl (by decide +kernel) ⟨Nat.le_of_ble_eq_true rfl, Nat.le_of_ble_eq_true rfl⟩) (gw_ps hE hB hS hW) rfl rfl hl.1 rfl (lv_room (Nat.le_of_ble_eq_true rfl)) d_Job_plus_11 ⟨Nat.le_of_ble_eq_true rfl, Nat.le_of_ble_eq_true rfl⟩) (fun r3 hw4 => ?_)
  refine lv_iconst (v := 1) hx hb d_Job_plus_14 (by decide) ?_
  refine lv_iadd hx hb d_Job_plus_15 ?_
  exact gr_iret hx hb hr hlocks d_Job_plus_16 trivial

set_option maxHeartbeats 4000000 in
set_option maxRecDepth 100000 in
theorem r_counted (l : Launch) (G : gw_G) (M : gw_M) (g : Nat) (t : Nat) (en : Int32) (k : Nat) (f : Nat → Int32) (q : Int32) (hf_g : M g = some (10, .inr (3, [.ref t, .int en]))) (hf_t : M t = some (11, .inl (G.2.1 0, k, .inl f))) (hk : k ≤ 256) : Met l y_Job_countedFromNewest [.code y_Job_countedFromNewest b_Job_countedFromNewest 3 (some .int)] ({ frames := 0, cells := 0, slots := 0, locals := 0 }) (gw_Pc G M [.ref g, .int q]) (gr_Qi (fun r => True)) 0 0 (fun _ => False) := by
  refine gw_startR (by decide) (Nat.le_of_ble_eq_true rfl) (fun p9 e9 s m b9 mt9 c9 hx hb hr hml hown hlocks hin hE hB hW ls hl => ?_)
  have hts := hE.ts ([.ref g, .int q] : List Value).toArray
  have hl : lv_has ls 3 [(0, .ref g), (1, .int q)] := hl
  have hown : s.vm.findClass "Generations$Job" = some m.cls := hown
  have hS : va_S (gw_A G) s.heap s.heap [] := va_S.rf
  refine lv_iconst (v := 1) hx hb d_Job_countedFromNewest_0 (by decide) ?_
  refine lv_aload_n hx hb d_Job_countedFromNewest_1 rfl (lv_at hl 0 rfl) ?_
  refine gw_get (ci := 3) (fs := [.ref t, .int en]) hx hb hts in_Job hown hE.K hW hf_g rfl 0 (by decide) (hts _ mw116) (fun _ h9 => h9) rfl d_Job_countedFromNewest_2 ?_
  refine gw_alen (v := nI k) hx hb hE.K hW 0 hf_t rfl rfl d_Job_countedFromNewest_5 ?_
  refine lv_isub hx hb d_Job_countedFromNewest_6 ?_
  refine lv_istore_n (lv' := [(2, .int (1 - (nI k))), (0, .ref g), (1, .int q)]) hx hb d_Job_countedFromNewest_7 rfl hl (by decide) rfl (fun ls hl => ?_)
  refine lv_iload_n hx hb d_Job_countedFromNewest_8 rfl (lv_at hl 2 rfl) ?_
  refine lv_iload_n hx hb d_Job_countedFromNewest_9 rfl (lv_at hl 0 rfl) ?_
  refine lv_icmp_lt (tgt := 34) hx hb d_Job_countedFromNewest_10 (by decide) (fun c10 => ?_) (fun c10 => ?_)
  · refine lv_iconst (v := -1) hx hb d_Job_countedFromNewest_34 (by decide) ?_
    exact gr_iret hx hb hr hlocks d_Job_countedFromNewest_35 trivial
  · refine lv_iload_n hx hb d_Job_countedFromNewest_13 rfl (lv_at hl 2 rfl) ?_
    refine lv_if_gt (tgt := 34) hx hb d_Job_countedFromNewest_14 (by decide) (fun c14 => ?_) (fun c14 => ?_)
    · refine lv_iconst (v := -1) hx hb d_Job_countedFromNewest_34 (by decide) ?_
      exact gr_iret hx hb hr hlocks d_Job_countedFromNewest_35 trivial
    · refine lv_aload_n hx hb d_Job_countedFromNewest_17 rfl (lv_at hl 1 rfl) ?_
      refine gw_get (ci := 3) (fs := [.ref t, .int en]) hx hb hts in_Job hown hE.K hW hf_g rfl 0 (by decide) (hts _ mw116) (fun _ h9 => h9) rfl d_Job_countedFromNewest_18 ?_
      refine lv_aload_n hx hb d_Job_countedFromNewest_21 rfl (lv_at hl 1 rfl) ?_
      refine gw_get (ci := 3) (fs := [.ref t, .int en]) hx hb hts in_Job hown hE.K hW hf_g rfl 0 (by decide) (hts _ mw116) (fun _ h9 => h9) rfl d_Job_countedFromNewest_22 ?_
      refine gw_alen (v := nI k) hx hb hE.K hW 0 hf_t rfl rfl d_Job_countedFromNewest_25 ?_
      refine lv_iconst (v := 1) hx hb d_Job_countedFromNewest_26 (by decide) ?_
      refine lv_isub hx hb d_Job_countedFromNewest_27 ?_
      refine lv_iload_n hx hb d_Job_countedFromNewest_28 rfl (lv_at hl 2 rfl) ?_
      refine lv_iadd hx hb d_Job_countedFromNewest_29 ?_
      refine gw_iald (i := ((nI k) - 1) + q) hx hb hE.K hW 0 hf_t rfl (gx_cntN c10 c14 hk) d_Job_countedFromNewest_30 ?_
      refine lv_goto (tgt := 35) hx hb d_Job_countedFromNewest_31 (by decide) ?_
      exact gr_iret hx hb hr hlocks d_Job_countedFromNewest_35 trivial

set_option maxHeartbeats 4000000 in
set_option maxRecDepth 100000 in
theorem r_isAhead (l : Launch) (G : gw_G) (M : gw_M) (x : Int32) (q : Int32) : Met l y_Row_isAhead [.code y_Row_isAhead b_Row_isAhead 3 (some .boolean)] ({ frames := 1, cells := 0, slots := 0, locals := 22 }) (gw_Pc G M [.int x, .int q]) (gr_Qi (fun r => True)) 0 0 (fun _ => False) := by
  refine gw_startR (by decide) (Nat.le_of_ble_eq_true rfl) (fun p9 e9 s m b9 mt9 c9 hx hb hr hml hown hlocks hin hE hB hW ls hl => ?_)
  have hts := hE.ts ([.int x, .int q] : List Value).toArray
  have hl : lv_has ls 3 [(0, .int x), (1, .int q)] := hl
  have hown : s.vm.findClass "Generations$Row" = some m.cls := hown
  have hS : va_S (gw_A G) s.heap s.heap [] := va_S.rf
  refine lv_iload_n hx hb d_Row_isAhead_0 rfl (lv_at hl 1 rfl) ?_
  refine lv_iload_n hx hb d_Row_isAhead_1 rfl (lv_at hl 0 rfl) ?_
  refine lv_isub hx hb d_Row_isAhead_2 ?_
  refine lv_sipush (v := 9999) hx hb d_Row_isAhead_3 (by decide) ?_
  refine gr_calli (va_runS (As := [.int (q - x), .int 9999]) (rest := []) ⟨hx, hb, hml, hown, hts⟩ (r_floorMod l G M (q - x)  ) (va_cwS 2 hts (gw_gt mw125 mw124 mw70 mw122) rfl rfl rfl (by decide +kernel) ⟨Nat.le_of_ble_eq_true rfl, Nat.le_of_ble_eq_true rfl⟩) (gw_ps hE hB hS hW) rfl rfl hl.1 rfl (lv_room (Nat.le_of_ble_eq_true rfl)) d_Row_isAhead_6 ⟨Nat.le_of_ble_eq_true rfl, Nat.le_of_ble_eq_true rfl⟩) (fun r1 hw2 => ?_)
  refine lv_istore_n (lv' := [(2, .int r1), (0, .int x), (1, .int q)]) hx hb d_Row_isAhead_9 rfl hl (by decide) rfl (fun ls hl => ?_)
  refine lv_iload_n hx hb d_Row_isAhead_10 rfl (lv_at hl 0 rfl) ?_
  refine lv_iconst (v := 1) hx hb d_Row_isAhead_11 (by decide) ?_
  refine lv_icmp_lt (tgt := 26) hx hb d_Row_isAhead_12 (by decide) (fun c12 => ?_) (fun c12 => ?_)
  · refine lv_iconst (v := 0) hx hb d_Row_isAhead_26 (by decide) ?_
    exact gr_zret hx hb hr hlocks rfl d_Row_isAhead_27 trivial
  · refine lv_iload_n hx hb d_Row_isAhead_15 rfl (lv_at hl 0 rfl) ?_
    refine lv_sipush (v := 4999) hx hb d_Row_isAhead_16 (by decide) ?_
    refine lv_icmp_gt (tgt := 26) hx hb d_Row_isAhead_19 (by decide) (fun c19 => ?_) (fun c19 => ?_)
    · refine lv_iconst (v := 0) hx hb d_Row_isAhead_26 (by decide) ?_
      exact gr_zret hx hb hr hlocks rfl d_Row_isAhead_27 trivial
    · refine lv_iconst (v := 1) hx hb d_Row_isAhead_22 (by decide) ?_
      refine lv_goto (tgt := 27) hx hb d_Row_isAhead_23 (by decide) ?_
      exact gr_zret hx hb hr hlocks rfl d_Row_isAhead_27 trivial
