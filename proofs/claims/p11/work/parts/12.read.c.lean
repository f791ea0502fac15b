set_option maxHeartbeats 4000000 in
set_option maxRecDepth 100000 in
theorem r_isNumber (l : Launch) (G : gw_G) (M : gw_M) (k : Int32) : Met l y_X_isNumber [.code y_X_isNumber b_X_isNumber 1 (some .boolean)] ({ frames := 0, cells := 0, slots := 0, locals := 0 }) (gw_Pc G M [.int k]) (gr_Qi (fun r => r = 0 ∨ r = 1)) 0 0 (fun _ => False) := by
  refine gw_startR (by decide) (Nat.le_of_ble_eq_true rfl) (fun p9 e9 s m b9 mt9 c9 hx hb hr hml hown hlocks hin hE hB hW ls hl => ?_)
  have hts := hE.ts ([.int k] : List Value).toArray
  have hl : lv_has ls 1 [(0, .int k)] := hl
  have hown : s.vm.findClass "Generations" = some m.cls := hown
  have hS : va_S (gw_A G) s.heap s.heap [] := va_S.rf
  refine lv_iload_n hx hb d_X_isNumber_0 rfl (lv_at hl 0 rfl) ?_
  refine lv_iconst (v := 1) hx hb d_X_isNumber_1 (by decide) ?_
  refine lv_icmp_lt (tgt := 16) hx hb d_X_isNumber_2 (by decide) (fun c2 => ?_) (fun c2 => ?_)
  · refine lv_iconst (v := 0) hx hb d_X_isNumber_16 (by decide) ?_
    exact gr_zret hx hb hr hlocks rfl d_X_isNumber_17 (Or.inl rfl)
  · refine lv_iload_n hx hb d_X_isNumber_5 rfl (lv_at hl 0 rfl) ?_
    refine lv_sipush (v := 9999) hx hb d_X_isNumber_6 (by decide) ?_
    refine lv_icmp_gt (tgt := 16) hx hb d_X_isNumber_9 (by decide) (fun c9 => ?_) (fun c9 => ?_)
    · refine lv_iconst (v := 0) hx hb d_X_isNumber_16 (by decide) ?_
      exact gr_zret hx hb hr hlocks rfl d_X_isNumber_17 (Or.inl rfl)
    · refine lv_iconst (v := 1) hx hb d_X_isNumber_12 (by decide) ?_
      refine lv_goto (tgt := 17) hx hb d_X_isNumber_13 (by decide) ?_
      exact gr_zret hx hb hr hlocks rfl d_X_isNumber_17 (Or.inr rfl)

set_option maxHeartbeats 4000000 in
set_option maxRecDepth 100000 in
theorem r_isDeferred (l : Launch) (G : gw_G) (M : gw_M) (g : Nat) (v1 : Int32) (v2 : Int32) (v3 : Int32) (v4 : Int32) (v5 : Int32) (hf_g : M g = some (9, .inr (2, [.int v1, .int v2, .int v3, .int v4, .int v5]))) : Met l y_Gen_isDeferred [.code y_Gen_isDeferred b_Gen_isDeferred 1 (some .boolean)] ({ frames := 0, cells := 0, slots := 0, locals := 0 }) (gw_Pc G M [.ref g]) (gr_Qi (fun r => True)) 0 0 (fun _ => False) := by
  refine gw_startR (by decide) (Nat.le_of_ble_eq_true rfl) (fun p9 e9 s m b9 mt9 c9 hx hb hr hml hown hlocks hin hE hB hW ls hl => ?_)
  have hts := hE.ts ([.ref g] : List Value).toArray
  have hl : lv_has ls 1 [(0, .ref g)] := hl
  have hown : s.vm.findClass "Generations$Generation" = some m.cls := hown
  have hS : va_S (gw_A G) s.heap s.heap [] := va_S.rf
  refine lv_aload_n hx hb d_Gen_isDeferred_0 rfl (lv_at hl 0 rfl) ?_
  refine gw_get (ci := 2) (fs := [.int v1, .int v2, .int v3, .int v4, .int v5]) hx hb hts in_Gen hown hE.K hW hf_g rfl 1 (by decide) (hts _ mw15) (fun _ h9 => h9) rfl d_Gen_isDeferred_1 ?_
  refine lv_iconst (v := 2) hx hb d_Gen_isDeferred_4 (by decide) ?_
  refine lv_icmp_eq (tgt := 16) hx hb d_Gen_isDeferred_5 (by decide) (fun c5 => ?_) (fun c5 => ?_)
  · refine lv_iconst (v := 1) hx hb d_Gen_isDeferred_16 (by decide) ?_
    refine lv_goto (tgt := 21) hx hb d_Gen_isDeferred_17 (by decide) ?_
    exact gr_zret hx hb hr hlocks rfl d_Gen_isDeferred_21 trivial
  · refine lv_aload_n hx hb d_Gen_isDeferred_8 rfl (lv_at hl 0 rfl) ?_
    refine gw_get (ci := 2) (fs := [.int v1, .int v2, .int v3, .int v4, .int v5]) hx hb hts in_Gen hown hE.K hW hf_g rfl 1 (by decide) (hts _ mw15) (fun _ h9 => h9) rfl d_Gen_isDeferred_9 ?_
    refine lv_iconst (v := 3) hx hb d_Gen_isDeferred_12 (by decide) ?_
    refine lv_icmp_ne (tgt := 20) hx hb d_Gen_isDeferred_13 (by decide) (fun c13 => ?_) (fun c13 => ?_)
    · refine lv_iconst (v := 0) hx hb d_Gen_isDeferred_20 (by decide) ?_
      exact gr_zret hx hb hr hlocks rfl d_Gen_isDeferred_21 trivial
    · refine lv_iconst (v := 1) hx hb d_Gen_isDeferred_16 (by decide) ?_
      refine lv_goto (tgt := 21) hx hb d_Gen_isDeferred_17 (by decide) ?_
      exact gr_zret hx hb hr hlocks rfl d_Gen_isDeferred_21 trivial

set_option maxHeartbeats 4000000 in
set_option maxRecDepth 100000 in
theorem r_isNewOneOf (l : Launch) (G : gw_G) (M : gw_M) (g : Nat) (v1 : Int32) (v2 : Int32) (v3 : Int32) (v4 : Int32) (v5 : Int32) (k : Int32) (hf_g : M g = some (9, .inr (2, [.int v1, .int v2, .int v3, .int v4, .int v5]))) : Met l y_Gen_isNewOneOf [.code y_Gen_isNewOneOf b_Gen_isNewOneOf 2 (some .boolean)] ({ frames := 1, cells := 0, slots := 0, locals := 20 }) (gw_Pc G M [.ref g, .int k]) (gr_Qi (fun r => True)) 0 0 (fun _ => False) := by
  refine gw_startR (by decide) (Nat.le_of_ble_eq_true rfl) (fun p9 e9 s m b9 mt9 c9 hx hb hr hml hown hlocks hin hE hB hW ls hl => ?_)
  have hts := hE.ts ([.ref g, .int k] : List Value).toArray
  have hl : lv_has ls 2 [(0, .ref g), (1, .int k)] := hl
  have hown : s.vm.findClass "Generations$Generation" = some m.cls := hown
  have hS : va_S (gw_A G) s.heap s.heap [] := va_S.rf
  refine lv_aload_n hx hb d_Gen_isNewOneOf_0 rfl (lv_at hl 0 rfl) ?_
  refine gw_get (ci := 2) (fs := [.int v1, .int v2, .int v3, .int v4, .int v5]) hx hb hts in_Gen hown hE.K hW hf_g rfl 3 (by decide) (hts _ mw16) (fun _ h9 => h9) rfl d_Gen_isNewOneOf_1 ?_
  refine lv_iload_n hx hb d_Gen_isNewOneOf_4 rfl (lv_at hl 1 rfl) ?_
  refine lv_icmp_ne (tgt := 27) hx hb d_Gen_isNewOneOf_5 (by decide) (fun c5 => ?_) (fun c5 => ?_)
  · refine lv_iconst (v := 0) hx hb d_Gen_isNewOneOf_27 (by decide) ?_
    exact gr_zret hx hb hr hlocks rfl d_Gen_isNewOneOf_28 trivial
  · refine lv_aload_n hx hb d_Gen_isNewOneOf_8 rfl (lv_at hl 0 rfl) ?_
    refine gw_get (ci := 2) (fs := [.int v1, .int v2, .int v3, .int v4, .int v5]) hx hb hts in_Gen hown hE.K hW hf_g rfl 1 (by decide) (hts _ mw15) (fun _ h9 => h9) rfl d_Gen_isNewOneOf_9 ?_
    refine lv_iconst (v := 1) hx hb d_Gen_isNewOneOf_12 (by decide) ?_
    refine lv_icmp_eq (tgt := 23) hx hb d_Gen_isNewOneOf_13 (by decide) (fun c13 => ?_) (fun c13 => ?_)
    · refine lv_iconst (v := 1) hx hb d_Gen_isNewOneOf_23 (by decide) ?_
      refine lv_goto (tgt := 28) hx hb d_Gen_isNewOneOf_24 (by decide) ?_
      exact gr_zret hx hb hr hlocks rfl d_Gen_isNewOneOf_28 trivial
    · refine lv_aload_n hx hb d_Gen_isNewOneOf_16 rfl (lv_at hl 0 rfl) ?_
      refine gr_calli (va_runV (As := []) (rest := []) ⟨hx, hb, hml, hown, hts⟩ (r_isDeferred l G M g v1 v2 v3 v4 v5 hf_g ) (cwV 0 hts (gw_gv mw18 mw19 mw20 mw21 mw17) rfl rfl rfl (by decide +kernel) ⟨Nat.le_of_ble_eq_true rfl, Nat.le_of_ble_eq_true rfl⟩) (gw_pv hE hB hS hW rfl hf_g) rfl rfl hl.1 rfl (lv_room (Nat.le_of_ble_eq_true rfl)) d_Gen_isNewOneOf_17 ⟨Nat.le_of_ble_eq_true rfl, Nat.le_of_ble_eq_true rfl⟩) (fun r1 hw2 => ?_)
      refine lv_if_eq (tgt := 27) hx hb d_Gen_isNewOneOf_20 (by decide) (fun c20 => ?_) (fun c20 => ?_)
      · refine lv_iconst (v := 0) hx hb d_Gen_isNewOneOf_27 (by decide) ?_
        exact gr_zret hx hb hr hlocks rfl d_Gen_isNewOneOf_28 trivial
      · refine lv_iconst (v := 1) hx hb d_Gen_isNewOneOf_23 (by decide) ?_
        refine lv_goto (tgt := 28) hx hb d_Gen_isNewOneOf_24 (by decide) ?_
        exact gr_zret hx hb hr hlocks rfl d_Gen_isNewOneOf_28 trivial

set_option maxHeartbeats 4000000 in
set_option maxRecDepth 100000 in
theorem r_isInTheWayOf (l : Launch) (G : gw_G) (M : gw_M) (g : Nat) (v1 : Int32) (v2 : Int32) (v3 : Int32) (v4 : Int32) (v5 : Int32) (k : Int32) (hf_g : M g = some (9, .inr (2, [.int v1, .int v2, .int v3, .int v4, .int v5]))) : Met l y_Gen_isInTheWayOf [.code y_Gen_isInTheWayOf b_Gen_isInTheWayOf 2 (some .boolean)] ({ frames := 1, cells := 0, slots := 0, locals := 20 }) (gw_Pc G M [.ref g, .int k]) (gr_Qi (fun r => True)) 0 0 (fun _ => False) := by
  refine gw_startR (by decide) (Nat.le_of_ble_eq_true rfl) (fun p9 e9 s m b9 mt9 c9 hx hb hr hml hown hlocks hin hE hB hW ls hl => ?_)
  have hts := hE.ts ([.ref g, .int k] : List Value).toArray
  have hl : lv_has ls 2 [(0, .ref g), (1, .int k)] := hl
  have hown : s.vm.findClass "Generations$Generation" = some m.cls := hown
  have hS : va_S (gw_A G) s.heap s.heap [] := va_S.rf
  refine lv_aload_n hx hb d_Gen_isInTheWayOf_0 rfl (lv_at hl 0 rfl) ?_
  refine gw_get (ci := 2) (fs := [.int v1, .int v2, .int v3, .int v4, .int v5]) hx hb hts in_Gen hown hE.K hW hf_g rfl 1 (by decide) (hts _ mw15) (fun _ h9 => h9) rfl d_Gen_isInTheWayOf_1 ?_
  refine lv_iconst (v := 1) hx hb d_Gen_isInTheWayOf_4 (by decide) ?_
  refine lv_icmp_eq (tgt := 31) hx hb d_Gen_isInTheWayOf_5 (by decide) (fun c5 => ?_) (fun c5 => ?_)
  · refine lv_iconst (v := 1) hx hb d_Gen_isInTheWayOf_31 (by decide) ?_
    refine lv_goto (tgt := 36) hx hb d_Gen_isInTheWayOf_32 (by decide) ?_
    exact gr_zret hx hb hr hlocks rfl d_Gen_isInTheWayOf_36 trivial
  · refine lv_aload_n hx hb d_Gen_isInTheWayOf_8 rfl (lv_at hl 0 rfl) ?_
    refine gr_calli (va_runV (As := []) (rest := []) ⟨hx, hb, hml, hown, hts⟩ (r_isDeferred l G M g v1 v2 v3 v4 v5 hf_g ) (cwV 0 hts (gw_gv mw18 mw19 mw20 mw21 mw17) rfl rfl rfl (by decide +kernel) ⟨Nat.le_of_ble_eq_true rfl, Nat.le_of_ble_eq_true rfl⟩) (gw_pv hE hB hS hW rfl hf_g) rfl rfl hl.1 rfl (lv_room (Nat.le_of_ble_eq_true rfl)) d_Gen_isInTheWayOf_9 ⟨Nat.le_of_ble_eq_true rfl, Nat.le_of_ble_eq_true rfl⟩) (fun r1 hw2 => ?_)
    refine lv_if_ne (tgt := 31) hx hb d_Gen_isInTheWayOf_12 (by decide) (fun c12 => ?_) (fun c12 => ?_)
    · refine lv_iconst (v := 1) hx hb d_Gen_isInTheWayOf_31 (by decide) ?_
      refine lv_goto (tgt := 36) hx hb d_Gen_isInTheWayOf_32 (by decide) ?_
      exact gr_zret hx hb hr hlocks rfl d_Gen_isInTheWayOf_36 trivial
    · refine lv_aload_n hx hb d_Gen_isInTheWayOf_15 rfl (lv_at hl 0 rfl) ?_
      refine gw_get (ci := 2) (fs := [.int v1, .int v2, .int v3, .int v4, .int v5]) hx hb hts in_Gen hown hE.K hW hf_g rfl 1 (by decide) (hts _ mw15) (fun _ h9 => h9) rfl d_Gen_isInTheWayOf_16 ?_
      refine lv_iconst (v := 4) hx hb d_Gen_isInTheWayOf_19 (by decide) ?_
      refine lv_icmp_ne (tgt := 35) hx hb d_Gen_isInTheWayOf_20 (by decide) (fun c20 => ?_) (fun c20 => ?_)
      · refine lv_iconst (v := 0) hx hb d_Gen_isInTheWayOf_35 (by decide) ?_
        exact gr_zret hx hb hr hlocks rfl d_Gen_isInTheWayOf_36 trivial
      · refine lv_aload_n hx hb d_Gen_isInTheWayOf_23 rfl (lv_at hl 0 rfl) ?_
        refine gw_get (ci := 2) (fs := [.int v1, .int v2, .int v3, .int v4, .int v5]) hx hb hts in_Gen hown hE.K hW hf_g rfl 3 (by decide) (hts _ mw16) (fun _ h9 => h9) rfl d_Gen_isInTheWayOf_24 ?_
        refine lv_iload_n hx hb d_Gen_isInTheWayOf_27 rfl (lv_at hl 1 rfl) ?_
        refine lv_icmp_eq (tgt := 35) hx hb d_Gen_isInTheWayOf_28 (by decide) (fun c28 => ?_) (fun c28 => ?_)
        · refine lv_iconst (v := 0) hx hb d_Gen_isInTheWayOf_35 (by decide) ?_
          exact gr_zret hx hb hr hlocks rfl d_Gen_isInTheWayOf_36 trivial
        · refine lv_iconst (v := 1) hx hb d_Gen_isInTheWayOf_31 (by decide) ?_
          refine lv_goto (tgt := 36) hx hb d_Gen_isInTheWayOf_32 (by decide) ?_
          exact gr_zret hx hb hr hlocks rfl d_Gen_isInTheWayOf_36 trivial

set_option maxHeartbeats 4000000 in
set_option maxRecDepth 100000 in
theorem r_failedFor (l : Launch) (G : gw_G) (M : gw_M) (g : Nat) (v1 : Int32) (v2 : Int32) (v3 : Int32) (v4 : Int32) (v5 : Int32) (k : Int32) (q : Int32) (hf_g : M g = some (9, .inr (2, [.int v1, .int v2, .int v3, .int v4, .int v5]))) : Met l y_Gen_failedFor [.code y_Gen_failedFor b_Gen_failedFor 3 (some .boolean)] ({ frames := 0, cells := 0, slots := 0, locals := 0 }) (gw_Pc G M [.ref g, .int k, .int q]) (gr_Qi (fun r => True)) 0 0 (fun _ => False) := by
  refine gw_startR (by decide) (Nat.le_of_ble_eq_true rfl) (fun p9 e9 s m b9 mt9 c9 hx hb hr hml hown hlocks hin hE hB hW ls hl => ?_)
  have hts := hE.ts ([.ref g, .int k, .int q] : List Value).toArray
  have hl : lv_has ls 3 [(0, .ref g), (1, .int k), (2, .int q)] := hl
  have hown : s.vm.findClass "Generations$Generation" = some m.cls := hown
  have hS : va_S (gw_A G) s.heap s.heap [] := va_S.rf
  refine lv_aload_n hx hb d_Gen_failedFor_0 rfl (lv_at hl 0 rfl) ?_
  refine gw_get (ci := 2) (fs := [.int v1, .int v2, .int v3, .int v4, .int v5]) hx hb hts in_Gen hown hE.K hW hf_g rfl 1 (by decide) (hts _ mw15) (fun _ h9 => h9) rfl d_Gen_failedFor_1 ?_
  refine lv_iconst (v := 3) hx hb d_Gen_failedFor_4 (by decide) ?_
  refine lv_icmp_ne (tgt := 28) hx hb d_Gen_failedFor_5 (by decide) (fun c5 => ?_) (fun c5 => ?_)
  · refine lv_iconst (v := 0) hx hb d_Gen_failedFor_28 (by decide) ?_
    exact gr_zret hx hb hr hlocks rfl d_Gen_failedFor_29 trivial
  · refine lv_aload_n hx hb d_Gen_failedFor_8 rfl (lv_at hl 0 rfl) ?_
    refine gw_get (ci := 2) (fs := [.int v1, .int v2, .int v3, .int v4, .int v5]) hx hb hts in_Gen hown hE.K hW hf_g rfl 3 (by decide) (hts _ mw16) (fun _ h9 => h9) rfl d_Gen_failedFor_9 ?_
    refine lv_iload_n hx hb d_Gen_failedFor_12 rfl (lv_at hl 1 rfl) ?_
    refine lv_icmp_ne (tgt := 28) hx hb d_Gen_failedFor_13 (by decide) (fun c13 => ?_) (fun c13 => ?_)
    · refine lv_iconst (v := 0) hx hb d_Gen_failedFor_28 (by decide) ?_
      exact gr_zret hx hb hr hlocks rfl d_Gen_failedFor_29 trivial
    · refine lv_aload_n hx hb d_Gen_failedFor_16 rfl (lv_at hl 0 rfl) ?_
      refine gw_get (ci := 2) (fs := [.int v1, .int v2, .int v3, .int v4, .int v5]) hx hb hts in_Gen hown hE.K hW hf_g rfl 4 (by decide) (hts _ mw22) (fun _ h9 => h9) rfl d_Gen_failedFor_17 ?_
      refine lv_iload_n hx hb d_Gen_failedFor_20 rfl (lv_at hl 2 rfl) ?_
      refine lv_icmp_lt (tgt := 28) hx hb d_Gen_failedFor_21 (by decide) (fun c21 => ?_) (fun c21 => ?_)
      · refine lv_iconst (v := 0) hx hb d_Gen_failedFor_28 (by decide) ?_
        exact gr_zret hx hb hr hlocks rfl d_Gen_failedFor_29 trivial
      · refine lv_iconst (v := 1) hx hb d_Gen_failedFor_24 (by decide) ?_
        refine lv_goto (tgt := 29) hx hb d_Gen_failedFor_25 (by decide) ?_
        exact gr_zret hx hb hr hlocks rfl d_Gen_failedFor_29 trivial

set_option maxHeartbeats 4000000 in
set_option maxRecDepth 100000 in
theorem r_find (l : Launch) (G : gw_G) (M : gw_M) (A : Nat → Nat) (lim sc E : Int32) (j n : Nat) (hX : gx_W G A lim sc E j n M) (k : Int32) : Met l y_X_find [.code y_X_find b_X_find 4 (some (.object "Generations$Generation"))] ({ frames := 3, cells := 0, slots := 0, locals := 64 }) (gw_Pc G M [.ref (A 0), .int k]) (gr_Qr (fun r => gp_R M 9 r)) 0 0 (fun _ => False) := by
  refine gw_startR (by decide) (Nat.le_of_ble_eq_true rfl) (fun p9 e9 s m b9 mt9 c9 hx hb hr hml hown hlocks hin hE hB hW ls hl => ?_)
  have hts := hE.ts ([.ref (A 0), .int k] : List Value).toArray
  have hl : lv_has ls 4 [(0, .ref (A 0)), (1, .int k)] := hl
  have hown : s.vm.findClass "Generations" = some m.cls := hown
  have hS : va_S (gw_A G) s.heap s.heap [] := va_S.rf
  obtain ⟨gc, rs, f3, f8, hf_x, hf_row, hf_nums, hf_gone, hgc, hrs, hLJ, hLK, hNW, hZZ⟩ := id hX
  have hj9 := hLJ.le
  have hn9 := hLK.le
  refine lv_iconst (v := 0) hx hb d_X_find_0 (by decide) ?_
  refine lv_istore_n (lv' := [(2, .int 0), (0, .ref (A 0)), (1, .int k)]) hx hb d_X_find_1 rfl hl (by decide) rfl (fun ls hl => ?_)
  obtain ⟨k2, ek2⟩ : ∃ z : Nat, z = 0 := ⟨0, rfl⟩
  replace hl : lv_has ls 4 [(2, .int (nI k2)), (0, .ref (A 0)), (1, .int k)] := by subst ek2; exact lv_sub hl [0, 1, 2] rfl
  have hk2 : k2 ≤ n := by omega
  clear ek2
  obtain ⟨n2, hn2⟩ : ∃ z : Nat, n - k2 < z := ⟨_, Nat.lt_succ_self _⟩
  induction n2 generalizing k2 ls with
  | zero => exact absurd hn2 (Nat.not_lt_zero _)
  | succ n2 ih2 =>
    refine lv_iload_n hx hb d_X_find_2 rfl (lv_at hl 0 rfl) ?_
    refine lv_aload_n hx hb d_X_find_3 rfl (lv_at hl 1 rfl) ?_
    refine gw_get (ci := 0) (fs := [.int lim, .int sc, .int E, .ref (A 1), .ref (A 3), .ref (A 4), .ref (A 5), .ref (A 6), .int (nI gc)]) hx hb hts in_X hown hE.K hW hf_x rfl 5 (by decide) (hts _ mw23) (fun _ h9 => h9) rfl d_X_find_4 ?_
    obtain ⟨_, hc1⟩ := hLK.cell
    refine gr_calli (va_runV (As := []) (rest := [.int (nI k2)]) ⟨hx, hb, hml, hown, hts⟩ (s_size l G M (A 4) 5 7 9 n hLK) (cwV 0 hts (gw_gv mw25 mw26 mw27 mw14 mw24) rfl rfl rfl (by decide +kernel) ⟨Nat.le_of_ble_eq_true rfl, Nat.le_of_ble_eq_true rfl⟩) (gw_pv hE hB hS hW rfl hc1) rfl rfl hl.1 rfl (lv_room (Nat.le_of_ble_eq_true rfl)) d_X_find_7 ⟨Nat.le_of_ble_eq_true rfl, Nat.le_of_ble_eq_true rfl⟩) (fun r2 hw3 => ?_)
    subst hw3
    refine lv_icmp_ge (tgt := 41) hx hb d_X_find_10 (by decide) (fun c10 => ?_) (fun c10 => ?_)
    · refine lv_aload_n hx hb d_X_find_41 rfl (lv_at hl 1 rfl) ?_
      refine gw_get (ci := 0) (fs := [.int lim, .int sc, .int E, .ref (A 1), .ref (A 3), .ref (A 4), .ref (A 5), .ref (A 6), .int (nI gc)]) hx hb hts in_X hown hE.K hW hf_x rfl 6 (by decide) (hts _ mw28) (fun _ h9 => h9) rfl d_X_find_42 ?_
      exact gr_aret hx hb hr hlocks (Or.inl ⟨_, rfl⟩) d_X_find_45 hNW
    · have hlt := gx_ltN c10 (by omega) (by omega)
      refine lv_aload_n hx hb d_X_find_13 rfl (lv_at hl 1 rfl) ?_
      refine gw_get (ci := 0) (fs := [.int lim, .int sc, .int E, .ref (A 1), .ref (A 3), .ref (A 4), .ref (A 5), .ref (A 6), .int (nI gc)]) hx hb hts in_X hown hE.K hW hf_x rfl 5 (by decide) (hts _ mw23) (fun _ h9 => h9) rfl d_X_find_14 ?_
      refine lv_iload_n hx hb d_X_find_17 rfl (lv_at hl 0 rfl) ?_
      obtain ⟨_, hc4⟩ := hLK.cell
      refine gr_callr (va_runV (As := [.int (nI k2)]) (rest := []) ⟨hx, hb, hml, hown, hts⟩ (s_get l G M (A 4) 5 7 9 n k2 hLK (by omega)) (cwV 1 hts (gw_gv mw30 mw31 mw32 mw14 mw29) rfl rfl rfl (by decide +kernel) ⟨Nat.le_of_ble_eq_true rfl, Nat.le_of_ble_eq_true rfl⟩) (gw_pv hE hB hS hW rfl hc4) rfl rfl hl.1 rfl (lv_room (Nat.le_of_ble_eq_true rfl)) d_X_find_18 ⟨Nat.le_of_ble_eq_true rfl, Nat.le_of_ble_eq_true rfl⟩) (fun r5 hw6 => ?_)
      obtain ⟨u7v0, u7v1, u7v2, u7v3, u7v4, hf_u7⟩ := hX.g9 hw6
      refine va_castY hx hb hown (hts _ mw33) (hE.nw mw34) (gw_recv hE.K hW rfl hf_u7) d_X_find_21 ?_
      refine lv_astore_n (lv' := [(3, .ref r5), (2, .int (nI k2)), (0, .ref (A 0)), (1, .int k)]) hx hb d_X_find_24 rfl hl (by decide) rfl (fun ls hl => ?_)
      refine lv_aload_n hx hb d_X_find_25 rfl (lv_at hl 0 rfl) ?_
      refine gw_getN (ci := 2) (fs := [.int u7v0, .int u7v1, .int u7v2, .int u7v3, .int u7v4]) hx hb hts in_Gen hown hE.K hW hf_u7 rfl 0 (by decide) (hts _ mw35) (fun _ h9 => h9) rfl d_X_find_26 ?_
      refine lv_iload_n hx hb d_X_find_29 rfl (lv_at hl 3 rfl) ?_
      refine lv_icmp_ne (tgt := 35) hx hb d_X_find_30 (by decide) (fun c30 => ?_) (fun c30 => ?_)
      · refine lv_iinc (v := (nI k2) + 1) (lv' := [(2, .int ((nI k2) + 1)), (3, .ref r5), (0, .ref (A 0)), (1, .int k)]) hx hb d_X_find_35 hl (k := 1) rfl rfl (by decide) rfl (fun ls hl => ?_)
        refine lv_goto (tgt := 2) hx hb d_X_find_38 (by decide) ?_
        rw [nI_1] at hl
        apply ih2 (ls := ls) (k2 := k2 + 1) <;> first | exact lv_sub hl [0, 2, 3] rfl | omega
      · refine lv_aload_n hx hb d_X_find_33 rfl (lv_at hl 0 rfl) ?_
        exact gr_aret hx hb hr hlocks (Or.inl ⟨_, rfl⟩) d_X_find_34 hw6

set_option maxHeartbeats 4000000 in
set_option maxRecDepth 100000 in
theorem r_howMany (l : Launch) (G : gw_G) (M : gw_M) (A : Nat → Nat) (lim sc E : Int32) (j n : Nat) (hX : gx_W G A lim sc E j n M) (k : Int32) : Met l y_X_howManyAre [.code y_X_howManyAre b_X_howManyAre 4 (some .int)] ({ frames := 3, cells := 0, slots := 0, locals := 64 }) (gw_Pc G M [.ref (A 0), .int k]) (gr_Qi (fun r => True)) 0 0 (fun _ => False) := by
  refine gw_startR (by decide) (Nat.le_of_ble_eq_true rfl) (fun p9 e9 s m b9 mt9 c9 hx hb hr hml hown hlocks hin hE hB hW ls hl => ?_)
  have hts := hE.ts ([.ref (A 0), .int k] : List Value).toArray
  have hl : lv_has ls 4 [(0, .ref (A 0)), (1, .int k)] := hl
  have hown : s.vm.findClass "Generations" = some m.cls := hown
  have hS : va_S (gw_A G) s.heap s.heap [] := va_S.rf
  obtain ⟨gc, rs, f3, f8, hf_x, hf_row, hf_nums, hf_gone, hgc, hrs, hLJ, hLK, hNW, hZZ⟩ := id hX
  have hj9 := hLJ.le
  have hn9 := hLK.le
  refine lv_iconst (v := 0) hx hb d_X_howManyAre_0 (by decide) ?_
  refine lv_istore_n (lv' := [(2, .int 0), (0, .ref (A 0)), (1, .int k)]) hx hb d_X_howManyAre_1 rfl hl (by decide) rfl (fun ls hl => ?_)
  refine lv_iconst (v := 0) hx hb d_X_howManyAre_2 (by decide) ?_
  refine lv_istore_n (lv' := [(3, .int 0), (2, .int 0), (0, .ref (A 0)), (1, .int k)]) hx hb d_X_howManyAre_3 rfl hl (by decide) rfl (fun ls hl => ?_)
  obtain ⟨k4, ek4⟩ : ∃ z : Nat, z = 0 := ⟨0, rfl⟩
  obtain ⟨c4_2, ec4_2⟩ : ∃ z : Int32, z = 0 := ⟨_, rfl⟩
  replace hl : lv_has ls 4 [(3, .int (nI k4)), (2, .int c4_2), (0, .ref (A 0)), (1, .int k)] := by subst ek4; subst ec4_2; exact lv_sub hl [0, 1, 2, 3] rfl
  have hk4 : k4 ≤ n := by omega
  clear ek4 ec4_2
  obtain ⟨n4, hn4⟩ : ∃ z : Nat, n - k4 < z := ⟨_, Nat.lt_succ_self _⟩
  induction n4 generalizing k4 ls c4_2 with
  | zero => exact absurd hn4 (Nat.not_lt_zero _)
  | succ n4 ih4 =>
    refine lv_iload_n hx hb d_X_howManyAre_4 rfl (lv_at hl 0 rfl) ?_
    refine lv_aload_n hx hb d_X_howManyAre_5 rfl (lv_at hl 2 rfl) ?_
    refine gw_get (ci := 0) (fs := [.int lim, .int sc, .int E, .ref (A 1), .ref (A 3), .ref (A 4), .ref (A 5), .ref (A 6), .int (nI gc)]) hx hb hts in_X hown hE.K hW hf_x rfl 5 (by decide) (hts _ mw23) (fun _ h9 => h9) rfl d_X_howManyAre_6 ?_
    obtain ⟨_, hc1⟩ := hLK.cell
    refine gr_calli (va_runV (As := []) (rest := [.int (nI k4)]) ⟨hx, hb, hml, hown, hts⟩ (s_size l G M (A 4) 5 7 9 n hLK) (cwV 0 hts (gw_gv mw25 mw26 mw27 mw14 mw24) rfl rfl rfl (by decide +kernel) ⟨Nat.le_of_ble_eq_true rfl, Nat.le_of_ble_eq_true rfl⟩) (gw_pv hE hB hS hW rfl hc1) rfl rfl hl.1 rfl (lv_room (Nat.le_of_ble_eq_true rfl)) d_X_howManyAre_9 ⟨Nat.le_of_ble_eq_true rfl, Nat.le_of_ble_eq_true rfl⟩) (fun r2 hw3 => ?_)
    subst hw3
    refine lv_icmp_ge (tgt := 42) hx hb d_X_howManyAre_12 (by decide) (fun c12 => ?_) (fun c12 => ?_)
    · refine lv_iload_n hx hb d_X_howManyAre_42 rfl (lv_at hl 1 rfl) ?_
      exact gr_iret hx hb hr hlocks d_X_howManyAre_43 trivial
    · have hlt := gx_ltN c12 (by omega) (by omega)
      refine lv_aload_n hx hb d_X_howManyAre_15 rfl (lv_at hl 2 rfl) ?_
      refine gw_get (ci := 0) (fs := [.int lim, .int sc, .int E, .ref (A 1), .ref (A 3), .ref (A 4), .ref (A 5), .ref (A 6), .int (nI gc)]) hx hb hts in_X hown hE.K hW hf_x rfl 5 (by decide) (hts _ mw23) (fun _ h9 => h9) rfl d_X_howManyAre_16 ?_
      refine lv_iload_n hx hb d_X_howManyAre_19 rfl (lv_at hl 0 rfl) ?_
      obtain ⟨_, hc4⟩ := hLK.cell
      refine gr_callr (va_runV (As := [.int (nI k4)]) (rest := []) ⟨hx, hb, hml, hown, hts⟩ (s_get l G M (A 4) 5 7 9 n k4 hLK (by omega)) (cwV 1 hts (gw_gv mw30 mw31 mw32 mw14 mw29) rfl rfl rfl (by decide +kernel) ⟨Nat.le_of_ble_eq_true rfl, Nat.le_of_ble_eq_true rfl⟩) (gw_pv hE hB hS hW rfl hc4) rfl rfl hl.1 rfl (lv_room (Nat.le_of_ble_eq_true rfl)) d_X_howManyAre_20 ⟨Nat.le_of_ble_eq_true rfl, Nat.le_of_ble_eq_true rfl⟩) (fun r5 hw6 => ?_)
      obtain ⟨u7v0, u7v1, u7v2, u7v3, u7v4, hf_u7⟩ := hX.g9 hw6
      refine va_castY hx hb hown (hts _ mw33) (hE.nw mw34) (gw_recv hE.K hW rfl hf_u7) d_X_howManyAre_23 ?_
      refine gw_getN (ci := 2) (fs := [.int u7v0, .int u7v1, .int u7v2, .int u7v3, .int u7v4]) hx hb hts in_Gen hown hE.K hW hf_u7 rfl 1 (by decide) (hts _ mw36) (fun _ h9 => h9) rfl d_X_howManyAre_26 ?_
      refine lv_iload_n hx hb d_X_howManyAre_29 rfl (lv_at hl 3 rfl) ?_
      refine lv_icmp_ne (tgt := 36) hx hb d_X_howManyAre_30 (by decide) (fun c30 => ?_) (fun c30 => ?_)
      · refine lv_iinc (v := (nI k4) + 1) (lv' := [(3, .int ((nI k4) + 1)), (2, .int c4_2), (0, .ref (A 0)), (1, .int k)]) hx hb d_X_howManyAre_36 hl (k := 0) rfl rfl (by decide) rfl (fun ls hl => ?_)
        refine lv_goto (tgt := 4) hx hb d_X_howManyAre_39 (by decide) ?_
        rw [nI_1] at hl
        apply ih4 (ls := ls) (k4 := k4 + 1) (c4_2 := c4_2) <;> first | exact lv_sub hl [0, 1, 2, 3] rfl | omega
      · refine lv_iinc (v := c4_2 + 1) (lv' := [(2, .int (c4_2 + 1)), (3, .int (nI k4)), (0, .ref (A 0)), (1, .int k)]) hx hb d_X_howManyAre_33 hl (k := 1) rfl rfl (by decide) rfl (fun ls hl => ?_)
        refine lv_iinc (v := (nI k4) + 1) (lv' := [(3, .int ((nI k4) + 1)), (2, .int (c4_2 + 1)), (0, .ref (A 0)), (1, .int k)]) hx hb d_X_howManyAre_36 hl (k := 1) rfl rfl (by decide) rfl (fun ls hl => ?_)
        refine lv_goto (tgt := 4) hx hb d_X_howManyAre_39 (by decide) ?_
        rw [nI_1] at hl
        apply ih4 (ls := ls) (k4 := k4 + 1) (c4_2 := c4_2 + 1) <;> first | exact lv_sub hl [0, 1, 2, 3] rfl | omega

set_option maxHeartbeats 4000000 in
set_option maxRecDepth 100000 in
theorem r_jobThatMakes (l : Launch) (G : gw_G) (M : gw_M) (A : Nat → Nat) (lim sc E : Int32) (j n : Nat) (hX : gx_W G A lim sc E j n M) : Met l y_X_jobThatMakes [.code y_X_jobThatMakes b_X_jobThatMakes 3 (some .int)] ({ frames := 3, cells := 0, slots := 0, locals := 64 }) (gw_Pc G M [.ref (A 0)]) (gr_Qi (fun r => True)) 0 0 (fun _ => False) := by
  refine gw_startR (by decide) (Nat.le_of_ble_eq_true rfl) (fun p9 e9 s m b9 mt9 c9 hx hb hr hml hown hlocks hin hE hB hW ls hl => ?_)
  have hts := hE.ts ([.ref (A 0)] : List Value).toArray
  have hl : lv_has ls 3 [(0, .ref (A 0))] := hl
  have hown : s.vm.findClass "Generations" = some m.cls := hown
  have hS : va_S (gw_A G) s.heap s.heap [] := va_S.rf
  obtain ⟨gc, rs, f3, f8, hf_x, hf_row, hf_nums, hf_gone, hgc, hrs, hLJ, hLK, hNW, hZZ⟩ := id hX
  have hj9 := hLJ.le
  have hn9 := hLK.le
  refine lv_iconst (v := 0) hx hb d_X_jobThatMakes_0 (by decide) ?_
  refine lv_istore_n (lv' := [(1, .int 0), (0, .ref (A 0))]) hx hb d_X_jobThatMakes_1 rfl hl (by decide) rfl (fun ls hl => ?_)
  obtain ⟨k2, ek2⟩ : ∃ z : Nat, z = 0 := ⟨0, rfl⟩
  replace hl : lv_has ls 3 [(1, .int (nI k2)), (0, .ref (A 0))] := by subst ek2; exact lv_sub hl [0, 1] rfl
  have hk2 : k2 ≤ n := by omega
  clear ek2
  obtain ⟨n2, hn2⟩ : ∃ z : Nat, n - k2 < z := ⟨_, Nat.lt_succ_self _⟩
  induction n2 generalizing k2 ls with
  | zero => exact absurd hn2 (Nat.not_lt_zero _)
  | succ n2 ih2 =>
    refine lv_iload_n hx hb d_X_jobThatMakes_2 rfl (lv_at hl 0 rfl) ?_
    refine lv_aload_n hx hb d_X_jobThatMakes_3 rfl (lv_at hl 1 rfl) ?_
    refine gw_get (ci := 0) (fs := [.int lim, .int sc, .int E, .ref (A 1), .ref (A 3), .ref (A 4), .ref (A 5), .ref (A 6), .int (nI gc)]) hx hb hts in_X hown hE.K hW hf_x rfl 5 (by decide) (hts _ mw23) (fun _ h9 => h9) rfl d_X_jobThatMakes_4 ?_
    obtain ⟨_, hc1⟩ := hLK.cell
    refine gr_calli (va_runV (As := []) (rest := [.int (nI k2)]) ⟨hx, hb, hml, hown, hts⟩ (s_size l G M (A 4) 5 7 9 n hLK) (cwV 0 hts (gw_gv mw25 mw26 mw27 mw14 mw24) rfl rfl rfl (by decide +kernel) ⟨Nat.le_of_ble_eq_true rfl, Nat.le_of_ble_eq_true rfl⟩) (gw_pv hE hB hS hW rfl hc1) rfl rfl hl.1 rfl (lv_room (Nat.le_of_ble_eq_true rfl)) d_X_jobThatMakes_7 ⟨Nat.le_of_ble_eq_true rfl, Nat.le_of_ble_eq_true rfl⟩) (fun r2 hw3 => ?_)
    subst hw3
    refine lv_icmp_ge (tgt := 44) hx hb d_X_jobThatMakes_10 (by decide) (fun c10 => ?_) (fun c10 => ?_)
    · refine lv_iconst (v := 0) hx hb d_X_jobThatMakes_44 (by decide) ?_
      exact gr_iret hx hb hr hlocks d_X_jobThatMakes_45 trivial
    · have hlt := gx_ltN c10 (by omega) (by omega)
      refine lv_aload_n hx hb d_X_jobThatMakes_13 rfl (lv_at hl 1 rfl) ?_
      refine gw_get (ci := 0) (fs := [.int lim, .int sc, .int E, .ref (A 1), .ref (A 3), .ref (A 4), .ref (A 5), .ref (A 6), .int (nI gc)]) hx hb hts in_X hown hE.K hW hf_x rfl 5 (by decide) (hts _ mw23) (fun _ h9 => h9) rfl d_X_jobThatMakes_14 ?_
      refine lv_iload_n hx hb d_X_jobThatMakes_17 rfl (lv_at hl 0 rfl) ?_
      obtain ⟨_, hc4⟩ := hLK.cell
      refine gr_callr (va_runV (As := [.int (nI k2)]) (rest := []) ⟨hx, hb, hml, hown, hts⟩ (s_get l G M (A 4) 5 7 9 n k2 hLK (by omega)) (cwV 1 hts (gw_gv mw30 mw31 mw32 mw14 mw29) rfl rfl rfl (by decide +kernel) ⟨Nat.le_of_ble_eq_true rfl, Nat.le_of_ble_eq_true rfl⟩) (gw_pv hE hB hS hW rfl hc4) rfl rfl hl.1 rfl (lv_room (Nat.le_of_ble_eq_true rfl)) d_X_jobThatMakes_18 ⟨Nat.le_of_ble_eq_true rfl, Nat.le_of_ble_eq_true rfl⟩) (fun r5 hw6 => ?_)
      obtain ⟨u7v0, u7v1, u7v2, u7v3, u7v4, hf_u7⟩ := hX.g9 hw6
      refine va_castY hx hb hown (hts _ mw33) (hE.nw mw34) (gw_recv hE.K hW rfl hf_u7) d_X_jobThatMakes_21 ?_
      refine lv_astore_n (lv' := [(2, .ref r5), (1, .int (nI k2)), (0, .ref (A 0))]) hx hb d_X_jobThatMakes_24 rfl hl (by decide) rfl (fun ls hl => ?_)
      refine lv_aload_n hx hb d_X_jobThatMakes_25 rfl (lv_at hl 0 rfl) ?_
      refine gw_getN (ci := 2) (fs := [.int u7v0, .int u7v1, .int u7v2, .int u7v3, .int u7v4]) hx hb hts in_Gen hown hE.K hW hf_u7 rfl 1 (by decide) (hts _ mw36) (fun _ h9 => h9) rfl d_X_jobThatMakes_26 ?_
      refine lv_iconst (v := 2) hx hb d_X_jobThatMakes_29 (by decide) ?_
      refine lv_icmp_ne (tgt := 38) hx hb d_X_jobThatMakes_30 (by decide) (fun c30 => ?_) (fun c30 => ?_)
      · refine lv_iinc (v := (nI k2) + 1) (lv' := [(1, .int ((nI k2) + 1)), (2, .ref r5), (0, .ref (A 0))]) hx hb d_X_jobThatMakes_38 hl (k := 1) rfl rfl (by decide) rfl (fun ls hl => ?_)
        refine lv_goto (tgt := 2) hx hb d_X_jobThatMakes_41 (by decide) ?_
        rw [nI_1] at hl
        apply ih2 (ls := ls) (k2 := k2 + 1) <;> first | exact lv_sub hl [0, 2] rfl | omega
      · refine lv_aload_n hx hb d_X_jobThatMakes_33 rfl (lv_at hl 0 rfl) ?_
        refine gw_getN (ci := 2) (fs := [.int u7v0, .int u7v1, .int u7v2, .int u7v3, .int u7v4]) hx hb hts in_Gen hown hE.K hW hf_u7 rfl 3 (by decide) (hts _ mw37) (fun _ h9 => h9) rfl d_X_jobThatMakes_34 ?_
        exact gr_iret hx hb hr hlocks d_X_jobThatMakes_37 trivial

set_option maxHeartbeats 4000000 in
set_option maxRecDepth 100000 in
theorem r_anotherMakes (l : Launch) (G : gw_G) (M : gw_M) (A : Nat → Nat) (lim sc E : Int32) (j n : Nat) (hX : gx_W G A lim sc E j n M) (k : Int32) : Met l y_X_anotherMakes [.code y_X_anotherMakes b_X_anotherMakes 3 (some .boolean)] ({ frames := 4, cells := 0, slots := 0, locals := 86 }) (gw_Pc G M [.ref (A 0), .int k]) (gr_Qi (fun r => True)) 0 0 (fun _ => False) := by
  refine gw_startR (by decide) (Nat.le_of_ble_eq_true rfl) (fun p9 e9 s m b9 mt9 c9 hx hb hr hml hown hlocks hin hE hB hW ls hl => ?_)
  have hts := hE.ts ([.ref (A 0), .int k] : List Value).toArray
  have hl : lv_has ls 3 [(0, .ref (A 0)), (1, .int k)] := hl
  have hown : s.vm.findClass "Generations" = some m.cls := hown
  have hS : va_S (gw_A G) s.heap s.heap [] := va_S.rf
  obtain ⟨gc, rs, f3, f8, hf_x, hf_row, hf_nums, hf_gone, hgc, hrs, hLJ, hLK, hNW, hZZ⟩ := id hX
  have hj9 := hLJ.le
  have hn9 := hLK.le
  refine lv_aload_n hx hb d_X_anotherMakes_0 rfl (lv_at hl 0 rfl) ?_
  refine gr_calli (va_runV (As := []) (rest := []) ⟨hx, hb, hml, hown, hts⟩ (r_jobThatMakes l G M A lim sc E j n hX   ) (cwV 0 hts (gw_gv mw39 mw40 mw41 mw42 mw38) rfl rfl rfl (by decide +kernel) ⟨Nat.le_of_ble_eq_true rfl, Nat.le_of_ble_eq_true rfl⟩) (gw_pv hE hB hS hW rfl hf_x) rfl rfl hl.1 rfl (lv_room (Nat.le_of_ble_eq_true rfl)) d_X_anotherMakes_1 ⟨Nat.le_of_ble_eq_true rfl, Nat.le_of_ble_eq_true rfl⟩) (fun r1 hw2 => ?_)
  refine lv_istore_n (lv' := [(2, .int r1), (0, .ref (A 0)), (1, .int k)]) hx hb d_X_anotherMakes_4 rfl hl (by decide) rfl (fun ls hl => ?_)
  refine lv_iload_n hx hb d_X_anotherMakes_5 rfl (lv_at hl 0 rfl) ?_
  refine lv_if_eq (tgt := 18) hx hb d_X_anotherMakes_6 (by decide) (fun c6 => ?_) (fun c6 => ?_)
  · refine lv_iconst (v := 0) hx hb d_X_anotherMakes_18 (by decide) ?_
    exact gr_zret hx hb hr hlocks rfl d_X_anotherMakes_19 trivial
  · refine lv_iload_n hx hb d_X_anotherMakes_9 rfl (lv_at hl 0 rfl) ?_
    refine lv_iload_n hx hb d_X_anotherMakes_10 rfl (lv_at hl 2 rfl) ?_
    refine lv_icmp_eq (tgt := 18) hx hb d_X_anotherMakes_11 (by decide) (fun c11 => ?_) (fun c11 => ?_)
    · refine lv_iconst (v := 0) hx hb d_X_anotherMakes_18 (by decide) ?_
      exact gr_zret hx hb hr hlocks rfl d_X_anotherMakes_19 trivial
    · refine lv_iconst (v := 1) hx hb d_X_anotherMakes_14 (by decide) ?_
      refine lv_goto (tgt := 19) hx hb d_X_anotherMakes_15 (by decide) ?_
      exact gr_zret hx hb hr hlocks rfl d_X_anotherMakes_19 trivial

set_option maxHeartbeats 4000000 in
set_option maxRecDepth 100000 in
theorem r_at (l : Launch) (G : gw_G) (M : gw_M) (A : Nat → Nat) (lim sc E : Int32) (j n : Nat) (hX : gx_W G A lim sc E j n M) (k : Int32) : Met l y_Row_at [.code y_Row_at b_Row_at 2 (some .int)] ({ frames := 0, cells := 0, slots := 0, locals := 0 }) (gw_Pc G M [.ref (A 1), .int k]) (gr_Qi (fun r => True)) 0 0 (fun _ => False) := by
  refine gw_startR (by decide) (Nat.le_of_ble_eq_true rfl) (fun p9 e9 s m b9 mt9 c9 hx hb hr hml hown hlocks hin hE hB hW ls hl => ?_)
  have hts := hE.ts ([.ref (A 1), .int k] : List Value).toArray
  have hl : lv_has ls 2 [(0, .ref (A 1)), (1, .int k)] := hl
  have hown : s.vm.findClass "Generations$Row" = some m.cls := hown
  have hS : va_S (gw_A G) s.heap s.heap [] := va_S.rf
  obtain ⟨gc, rs, f3, f8, hf_x, hf_row, hf_nums, hf_gone, hgc, hrs, hLJ, hLK, hNW, hZZ⟩ := id hX
  have hj9 := hLJ.le
  have hn9 := hLK.le
  refine lv_iload_n hx hb d_Row_at_0 rfl (lv_at hl 1 rfl) ?_
  refine lv_if_lt (tgt := 21) hx hb d_Row_at_1 (by decide) (fun c1 => ?_) (fun c1 => ?_)
  · refine lv_iconst (v := -1) hx hb d_Row_at_21 (by decide) ?_
    exact gr_iret hx hb hr hlocks d_Row_at_22 trivial
  · refine lv_iload_n hx hb d_Row_at_4 rfl (lv_at hl 1 rfl) ?_
    refine lv_aload_n hx hb d_Row_at_5 rfl (lv_at hl 0 rfl) ?_
    refine gw_get (ci := 1) (fs := [.ref (A 2), .int (nI rs)]) hx hb hts in_Row hown hE.K hW hf_row rfl 1 (by decide) (hts _ mw43) (fun _ h9 => h9) rfl d_Row_at_6 ?_
    refine lv_icmp_ge (tgt := 21) hx hb d_Row_at_9 (by decide) (fun c9 => ?_) (fun c9 => ?_)
    · refine lv_iconst (v := -1) hx hb d_Row_at_21 (by decide) ?_
      exact gr_iret hx hb hr hlocks d_Row_at_22 trivial
    · refine lv_aload_n hx hb d_Row_at_12 rfl (lv_at hl 0 rfl) ?_
      refine gw_get (ci := 1) (fs := [.ref (A 2), .int (nI rs)]) hx hb hts in_Row hown hE.K hW hf_row rfl 0 (by decide) (hts _ mw44) (fun _ h9 => h9) rfl d_Row_at_13 ?_
      refine lv_iload_n hx hb d_Row_at_16 rfl (lv_at hl 1 rfl) ?_
      refine gw_iald (i := k) hx hb hE.K hW 0 hf_nums rfl (gx_inN c1 c9 (by omega) (by omega)) d_Row_at_17 ?_
      refine lv_goto (tgt := 22) hx hb d_Row_at_18 (by decide) ?_
      exact gr_iret hx hb hr hlocks d_Row_at_22 trivial

set_option maxHeartbeats 4000000 in
set_option maxRecDepth 100000 in
theorem r_list (l : Launch) (G : gw_G) (M : gw_M) (A : Nat → Nat) (lim sc E : Int32) (j n : Nat) (hX : gx_W G A lim sc E j n M) (k : Int32) : Met l y_X_list [.code y_X_list b_X_list 2 (some .int)] ({ frames := 1, cells := 0, slots := 0, locals := 21 }) (gw_Pc G M [.ref (A 0), .int k]) (gr_Qi (fun r => True)) 0 0 (fun _ => False) := by
  refine gw_startR (by decide) (Nat.le_of_ble_eq_true rfl) (fun p9 e9 s m b9 mt9 c9 hx hb hr hml hown hlocks hin hE hB hW ls hl => ?_)
  have hts := hE.ts ([.ref (A 0), .int k] : List Value).toArray
  have hl : lv_has ls 2 [(0, .ref (A 0)), (1, .int k)] := hl
  have hown : s.vm.findClass "Generations" = some m.cls := hown
  have hS : va_S (gw_A G) s.heap s.heap [] := va_S.rf
  obtain ⟨gc, rs, f3, f8, hf_x, hf_row, hf_nums, hf_gone, hgc, hrs, hLJ, hLK, hNW, hZZ⟩ := id hX
  have hj9 := hLJ.le
  have hn9 := hLK.le
  refine lv_aload_n hx hb d_X_list_0 rfl (lv_at hl 0 rfl) ?_
  refine gw_get (ci := 0) (fs := [.int lim, .int sc, .int E, .ref (A 1), .ref (A 3), .ref (A 4), .ref (A 5), .ref (A 6), .int (nI gc)]) hx hb hts in_X hown hE.K hW hf_x rfl 3 (by decide) (hts _ mw45) (fun _ h9 => h9) rfl d_X_list_1 ?_
  refine lv_iload_n hx hb d_X_list_4 rfl (lv_at hl 1 rfl) ?_
  refine gr_calli (va_runVN (As := [.int k]) (rest := []) ⟨hx, hb, hml, hown, hts⟩ (r_at l G M A lim sc E j n hX k  ) ⟨va_cnB 1 hts (gw_g1 mw46) rfl rfl rfl (hE.nw mw47) (hts _ mw48) (by decide +kernel) ⟨Nat.le_of_ble_eq_true rfl, Nat.le_of_ble_eq_true rfl⟩, hts _ mw49, hts _ mw50⟩ (gw_pv hE hB hS hW rfl hf_row) rfl rfl hl.1 rfl (lv_room (Nat.le_of_ble_eq_true rfl)) d_X_list_5 ⟨Nat.le_of_ble_eq_true rfl, Nat.le_of_ble_eq_true rfl⟩) (fun r1 hw2 => ?_)
  exact gr_iret hx hb hr hlocks d_X_list_8 trivial

set_option maxHeartbeats 4000000 in
set_option maxRecDepth 100000 in
theorem r_dropped (l : Launch) (G : gw_G) (M : gw_M) (A : Nat → Nat) (lim sc E : Int32) (j n : Nat) (hX : gx_W G A lim sc E j n M) (k : Int32) : Met l y_X_dropped [.code y_X_dropped b_X_dropped 2 (some .int)] ({ frames := 0, cells := 0, slots := 0, locals := 0 }) (gw_Pc G M [.ref (A 0), .int k]) (gr_Qi (fun r => True)) 0 0 (fun _ => False) := by
  refine gw_startR (by decide) (Nat.le_of_ble_eq_true rfl) (fun p9 e9 s m b9 mt9 c9 hx hb hr hml hown hlocks hin hE hB hW ls hl => ?_)
  have hts := hE.ts ([.ref (A 0), .int k] : List Value).toArray
  have hl : lv_has ls 2 [(0, .ref (A 0)), (1, .int k)] := hl
  have hown : s.vm.findClass "Generations" = some m.cls := hown
  have hS : va_S (gw_A G) s.heap s.heap [] := va_S.rf
  obtain ⟨gc, rs, f3, f8, hf_x, hf_row, hf_nums, hf_gone, hgc, hrs, hLJ, hLK, hNW, hZZ⟩ := id hX
  have hj9 := hLJ.le
  have hn9 := hLK.le
  refine lv_iload_n hx hb d_X_dropped_0 rfl (lv_at hl 1 rfl) ?_
  refine lv_if_lt (tgt := 21) hx hb d_X_dropped_1 (by decide) (fun c1 => ?_) (fun c1 => ?_)
  · refine lv_iconst (v := -1) hx hb d_X_dropped_21 (by decide) ?_
    exact gr_iret hx hb hr hlocks d_X_dropped_22 trivial
  · refine lv_iload_n hx hb d_X_dropped_4 rfl (lv_at hl 1 rfl) ?_
    refine lv_aload_n hx hb d_X_dropped_5 rfl (lv_at hl 0 rfl) ?_
    refine gw_get (ci := 0) (fs := [.int lim, .int sc, .int E, .ref (A 1), .ref (A 3), .ref (A 4), .ref (A 5), .ref (A 6), .int (nI gc)]) hx hb hts in_X hown hE.K hW hf_x rfl 8 (by decide) (hts _ mw51) (fun _ h9 => h9) rfl d_X_dropped_6 ?_
    refine lv_icmp_ge (tgt := 21) hx hb d_X_dropped_9 (by decide) (fun c9 => ?_) (fun c9 => ?_)
    · refine lv_iconst (v := -1) hx hb d_X_dropped_21 (by decide) ?_
      exact gr_iret hx hb hr hlocks d_X_dropped_22 trivial
    · refine lv_aload_n hx hb d_X_dropped_12 rfl (lv_at hl 0 rfl) ?_
      refine gw_get (ci := 0) (fs := [.int lim, .int sc, .int E, .ref (A 1), .ref (A 3), .ref (A 4), .ref (A 5), .ref (A 6), .int (nI gc)]) hx hb hts in_X hown hE.K hW hf_x rfl 7 (by decide) (hts _ mw52) (fun _ h9 => h9) rfl d_X_dropped_13 ?_
      refine lv_iload_n hx hb d_X_dropped_16 rfl (lv_at hl 1 rfl) ?_
      refine gw_iald (i := k) hx hb hE.K hW 0 hf_gone rfl (gx_inN c1 c9 (by omega) (by omega)) d_X_dropped_17 ?_
      refine lv_goto (tgt := 22) hx hb d_X_dropped_18 (by decide) ?_
      exact gr_iret hx hb hr hlocks d_X_dropped_22 trivial

set_option maxHeartbeats 4000000 in
set_option maxRecDepth 100000 in
theorem r_version (l : Launch) (G : gw_G) (M : gw_M) (A : Nat → Nat) (lim sc E : Int32) (j n : Nat) (hX : gx_W G A lim sc E j n M) (k : Int32) : Met l y_X_version [.code y_X_version b_X_version 3 (some .int)] ({ frames := 4, cells := 0, slots := 0, locals := 87 }) (gw_Pc G M [.ref (A 0), .int k]) (gr_Qi (fun r => True)) 0 0 (fun _ => False) := by
  refine gw_startR (by decide) (Nat.le_of_ble_eq_true rfl) (fun p9 e9 s m b9 mt9 c9 hx hb hr hml hown hlocks hin hE hB hW ls hl => ?_)
  have hts := hE.ts ([.ref (A 0), .int k] : List Value).toArray
  have hl : lv_has ls 3 [(0, .ref (A 0)), (1, .int k)] := hl
  have hown : s.vm.findClass "Generations" = some m.cls := hown
  have hS : va_S (gw_A G) s.heap s.heap [] := va_S.rf
  obtain ⟨gc, rs, f3, f8, hf_x, hf_row, hf_nums, hf_gone, hgc, hrs, hLJ, hLK, hNW, hZZ⟩ := id hX
  have hj9 := hLJ.le
  have hn9 := hLK.le
  refine lv_aload_n hx hb d_X_version_0 rfl (lv_at hl 0 rfl) ?_
  refine lv_iload_n hx hb d_X_version_1 rfl (lv_at hl 1 rfl) ?_
  refine gr_callr (va_runV (As := [.int k]) (rest := []) ⟨hx, hb, hml, hown, hts⟩ (r_find l G M A lim sc E j n hX k  ) (cwV 1 hts (gw_gv mw54 mw55 mw56 mw42 mw53) rfl rfl rfl (by decide +kernel) ⟨Nat.le_of_ble_eq_true rfl, Nat.le_of_ble_eq_true rfl⟩) (gw_pv hE hB hS hW rfl hf_x) rfl rfl hl.1 rfl (lv_room (Nat.le_of_ble_eq_true rfl)) d_X_version_2 ⟨Nat.le_of_ble_eq_true rfl, Nat.le_of_ble_eq_true rfl⟩) (fun r1 hw2 => ?_)
  refine lv_astore_n (lv' := [(2, .ref r1), (0, .ref (A 0)), (1, .int k)]) hx hb d_X_version_5 rfl hl (by decide) rfl (fun ls hl => ?_)
  refine lv_aload_n hx hb d_X_version_6 rfl (lv_at hl 0 rfl) ?_
  obtain ⟨u3v0, u3v1, u3v2, u3v3, u3v4, hf_u3⟩ := hX.g9 hw2
  refine gw_getN (ci := 2) (fs := [.int u3v0, .int u3v1, .int u3v2, .int u3v3, .int u3v4]) hx hb hts in_Gen hown hE.K hW hf_u3 rfl 1 (by decide) (hts _ mw36) (fun _ h9 => h9) rfl d_X_version_7 ?_
  refine lv_if_ne (tgt := 17) hx hb d_X_version_10 (by decide) (fun c10 => ?_) (fun c10 => ?_)
  · refine lv_aload_n hx hb d_X_version_17 rfl (lv_at hl 0 rfl) ?_
    refine gw_getN (ci := 2) (fs := [.int u3v0, .int u3v1, .int u3v2, .int u3v3, .int u3v4]) hx hb hts in_Gen hown hE.K hW hf_u3 rfl 2 (by decide) (hts _ mw57) (fun _ h9 => h9) rfl d_X_version_18 ?_
    exact gr_iret hx hb hr hlocks d_X_version_21 trivial
  · refine lv_iconst (v := -1) hx hb d_X_version_13 (by decide) ?_
    refine lv_goto (tgt := 21) hx hb d_X_version_14 (by decide) ?_
    exact gr_iret hx hb hr hlocks d_X_version_21 trivial

set_option maxHeartbeats 4000000 in
set_option maxRecDepth 100000 in
theorem r_state (l : Launch) (G : gw_G) (M : gw_M) (A : Nat → Nat) (lim sc E : Int32) (j n : Nat) (hX : gx_W G A lim sc E j n M) (k : Int32) : Met l y_X_state [.code y_X_state b_X_state 2 (some .int)] ({ frames := 4, cells := 0, slots := 0, locals := 87 }) (gw_Pc G M [.ref (A 0), .int k]) (gr_Qi (fun r => True)) 0 0 (fun _ => False) := by
  refine gw_startR (by decide) (Nat.le_of_ble_eq_true rfl) (fun p9 e9 s m b9 mt9 c9 hx hb hr hml hown hlocks hin hE hB hW ls hl => ?_)
  have hts := hE.ts ([.ref (A 0), .int k] : List Value).toArray
  have hl : lv_has ls 2 [(0, .ref (A 0)), (1, .int k)] := hl
  have hown : s.vm.findClass "Generations" = some m.cls := hown
  have hS : va_S (gw_A G) s.heap s.heap [] := va_S.rf
  obtain ⟨gc, rs, f3, f8, hf_x, hf_row, hf_nums, hf_gone, hgc, hrs, hLJ, hLK, hNW, hZZ⟩ := id hX
  have hj9 := hLJ.le
  have hn9 := hLK.le
  refine lv_iload_n hx hb d_X_state_0 rfl (lv_at hl 1 rfl) ?_
  refine gr_calli (va_runS (As := [.int k]) (rest := []) ⟨hx, hb, hml, hown, hts⟩ (r_isNumber l G M k  ) (cwS 1 hts (gw_gs mw59 mw60 mw42 mw58) rfl rfl rfl (by decide +kernel) ⟨Nat.le_of_ble_eq_true rfl, Nat.le_of_ble_eq_true rfl⟩) (gw_ps hE hB hS hW) rfl rfl hl.1 rfl (lv_room (Nat.le_of_ble_eq_true rfl)) d_X_state_1 ⟨Nat.le_of_ble_eq_true rfl, Nat.le_of_ble_eq_true rfl⟩) (fun r1 hw2 => ?_)
  refine lv_if_eq (tgt := 18) hx hb d_X_state_4 (by decide) (fun c4 => ?_) (fun c4 => ?_)
  · refine lv_iconst (v := -1) hx hb d_X_state_18 (by decide) ?_
    exact gr_iret hx hb hr hlocks d_X_state_19 trivial
  · refine lv_aload_n hx hb d_X_state_7 rfl (lv_at hl 0 rfl) ?_
    refine lv_iload_n hx hb d_X_state_8 rfl (lv_at hl 1 rfl) ?_
    refine gr_callr (va_runV (As := [.int k]) (rest := []) ⟨hx, hb, hml, hown, hts⟩ (r_find l G M A lim sc E j n hX k  ) (cwV 1 hts (gw_gv mw54 mw55 mw56 mw42 mw53) rfl rfl rfl (by decide +kernel) ⟨Nat.le_of_ble_eq_true rfl, Nat.le_of_ble_eq_true rfl⟩) (gw_pv hE hB hS hW rfl hf_x) rfl rfl hl.1 rfl (lv_room (Nat.le_of_ble_eq_true rfl)) d_X_state_9 ⟨Nat.le_of_ble_eq_true rfl, Nat.le_of_ble_eq_true rfl⟩) (fun r3 hw4 => ?_)
    obtain ⟨u5v0, u5v1, u5v2, u5v3, u5v4, hf_u5⟩ := hX.g9 hw4
    refine gw_getN (ci := 2) (fs := [.int u5v0, .int u5v1, .int u5v2, .int u5v3, .int u5v4]) hx hb hts in_Gen hown hE.K hW hf_u5 rfl 1 (by decide) (hts _ mw36) (fun _ h9 => h9) rfl d_X_state_12 ?_
    refine lv_goto (tgt := 19) hx hb d_X_state_15 (by decide) ?_
    exact gr_iret hx hb hr hlocks d_X_state_19 trivial

set_option maxHeartbeats 4000000 in
set_option maxRecDepth 100000 in
theorem r_count (l : Launch) (G : gw_G) (M : gw_M) (A : Nat → Nat) (lim sc E : Int32) (j n : Nat) (hX : gx_W G A lim sc E j n M) (k : Int32) : Met l y_X_count [.code y_X_count b_X_count 2 (some .int)] ({ frames := 4, cells := 0, slots := 0, locals := 87 }) (gw_Pc G M [.ref (A 0), .int k]) (gr_Qi (fun r => True)) 0 0 (fun _ => False) := by
  refine gw_startR (by decide) (Nat.le_of_ble_eq_true rfl) (fun p9 e9 s m b9 mt9 c9 hx hb hr hml hown hlocks hin hE hB hW ls hl => ?_)
  have hts := hE.ts ([.ref (A 0), .int k] : List Value).toArray
  have hl : lv_has ls 2 [(0, .ref (A 0)), (1, .int k)] := hl
  have hown : s.vm.findClass "Generations" = some m.cls := hown
  have hS : va_S (gw_A G) s.heap s.heap [] := va_S.rf
  obtain ⟨gc, rs, f3, f8, hf_x, hf_row, hf_nums, hf_gone, hgc, hrs, hLJ, hLK, hNW, hZZ⟩ := id hX
  have hj9 := hLJ.le
  have hn9 := hLK.le
  refine lv_iload_n hx hb d_X_count_0 rfl (lv_at hl 1 rfl) ?_
  rcases gx_sw5 k with h9 | h9 | h9 | h9 | h9 | h9 | h9
  · refine lv_tableOut (tgt := 84) hx hb d_X_count_1 h9 (by decide) ?_
    refine lv_iconst (v := -1) hx hb d_X_count_84 (by decide) ?_
    exact gr_iret hx hb hr hlocks d_X_count_85 trivial
  · refine lv_tableIn (tgt := 40) hx hb d_X_count_1 (by rw [h9]; decide) (by rw [h9]; decide) (by rw [h9]; rfl) (by decide) ?_
    refine lv_aload_n hx hb d_X_count_40 rfl (lv_at hl 0 rfl) ?_
    refine gw_get (ci := 0) (fs := [.int lim, .int sc, .int E, .ref (A 1), .ref (A 3), .ref (A 4), .ref (A 5), .ref (A 6), .int (nI gc)]) hx hb hts in_X hown hE.K hW hf_x rfl 3 (by decide) (hts _ mw45) (fun _ h9 => h9) rfl d_X_count_41 ?_
    refine gw_getN (ci := 1) (fs := [.ref (A 2), .int (nI rs)]) hx hb hts in_Row hown hE.K hW hf_row rfl 1 (by decide) (hts _ mw61) (fun _ h9 => h9) rfl d_X_count_44 ?_
    exact gr_iret hx hb hr hlocks d_X_count_47 trivial
  · refine lv_tableIn (tgt := 48) hx hb d_X_count_1 (by rw [h9]; decide) (by rw [h9]; decide) (by rw [h9]; rfl) (by decide) ?_
    refine lv_aload_n hx hb d_X_count_48 rfl (lv_at hl 0 rfl) ?_
    refine lv_iconst (v := 2) hx hb d_X_count_49 (by decide) ?_
    refine gr_calli (va_runV (As := [.int 2]) (rest := []) ⟨hx, hb, hml, hown, hts⟩ (r_howMany l G M A lim sc E j n hX 2  ) (cwV 1 hts (gw_gv mw63 mw64 mw65 mw42 mw62) rfl rfl rfl (by decide +kernel) ⟨Nat.le_of_ble_eq_true rfl, Nat.le_of_ble_eq_true rfl⟩) (gw_pv hE hB hS hW rfl hf_x) rfl rfl hl.1 rfl (lv_room (Nat.le_of_ble_eq_true rfl)) d_X_count_50 ⟨Nat.le_of_ble_eq_true rfl, Nat.le_of_ble_eq_true rfl⟩) (fun r1 hw2 => ?_)
    refine lv_aload_n hx hb d_X_count_53 rfl (lv_at hl 0 rfl) ?_
    refine lv_iconst (v := 3) hx hb d_X_count_54 (by decide) ?_
    refine gr_calli (va_runV (As := [.int 3]) (rest := [.int r1]) ⟨hx, hb, hml, hown, hts⟩ (r_howMany l G M A lim sc E j n hX 3  ) (cwV 1 hts (gw_gv mw63 mw64 mw65 mw42 mw62) rfl rfl rfl (by decide +kernel) ⟨Nat.le_of_ble_eq_true rfl, Nat.le_of_ble_eq_true rfl⟩) (gw_pv hE hB hS hW rfl hf_x) rfl rfl hl.1 rfl (lv_room (Nat.le_of_ble_eq_true rfl)) d_X_count_55 ⟨Nat.le_of_ble_eq_true rfl, Nat.le_of_ble_eq_true rfl⟩) (fun r3 hw4 => ?_)
    refine lv_iadd hx hb d_X_count_58 ?_
    exact gr_iret hx hb hr hlocks d_X_count_59 trivial
  · refine lv_tableIn (tgt := 60) hx hb d_X_count_1 (by rw [h9]; decide) (by rw [h9]; decide) (by rw [h9]; rfl) (by decide) ?_
    refine lv_aload_n hx hb d_X_count_60 rfl (lv_at hl 0 rfl) ?_
    refine lv_iconst (v := 4) hx hb d_X_count_61 (by decide) ?_
    refine gr_calli (va_runV (As := [.int 4]) (rest := []) ⟨hx, hb, hml, hown, hts⟩ (r_howMany l G M A lim sc E j n hX 4  ) (cwV 1 hts (gw_gv mw63 mw64 mw65 mw42 mw62) rfl rfl rfl (by decide +kernel) ⟨Nat.le_of_ble_eq_true rfl, Nat.le_of_ble_eq_true rfl⟩) (gw_pv hE hB hS hW rfl hf_x) rfl rfl hl.1 rfl (lv_room (Nat.le_of_ble_eq_true rfl)) d_X_count_62 ⟨Nat.le_of_ble_eq_true rfl, Nat.le_of_ble_eq_true rfl⟩) (fun r5 hw6 => ?_)
    exact gr_iret hx hb hr hlocks d_X_count_65 trivial
  · refine lv_tableIn (tgt := 66) hx hb d_X_count_1 (by rw [h9]; decide) (by rw [h9]; decide) (by rw [h9]; rfl) (by decide) ?_
    refine lv_aload_n hx hb d_X_count_66 rfl (lv_at hl 0 rfl) ?_
    refine gw_get (ci := 0) (fs := [.int lim, .int sc, .int E, .ref (A 1), .ref (A 3), .ref (A 4), .ref (A 5), .ref (A 6), .int (nI gc)]) hx hb hts in_X hown hE.K hW hf_x rfl 4 (by decide) (hts _ mw66) (fun _ h9 => h9) rfl d_X_count_67 ?_
    obtain ⟨_, hc7⟩ := hLJ.cell
    refine gr_calli (va_runV (As := []) (rest := []) ⟨hx, hb, hml, hown, hts⟩ (s_size l G M (A 3) 4 6 10 j hLJ) (cwV 0 hts (gw_gv mw25 mw26 mw27 mw14 mw24) rfl rfl rfl (by decide +kernel) ⟨Nat.le_of_ble_eq_true rfl, Nat.le_of_ble_eq_true rfl⟩) (gw_pv hE hB hS hW rfl hc7) rfl rfl hl.1 rfl (lv_room (Nat.le_of_ble_eq_true rfl)) d_X_count_70 ⟨Nat.le_of_ble_eq_true rfl, Nat.le_of_ble_eq_true rfl⟩) (fun r8 hw9 => ?_)
    subst hw9
    exact gr_iret hx hb hr hlocks d_X_count_73 trivial
  · refine lv_tableIn (tgt := 74) hx hb d_X_count_1 (by rw [h9]; decide) (by rw [h9]; decide) (by rw [h9]; rfl) (by decide) ?_
    refine lv_aload_n hx hb d_X_count_74 rfl (lv_at hl 0 rfl) ?_
    refine gr_calli (va_runV (As := []) (rest := []) ⟨hx, hb, hml, hown, hts⟩ (r_jobThatMakes l G M A lim sc E j n hX   ) (cwV 0 hts (gw_gv mw39 mw40 mw41 mw42 mw38) rfl rfl rfl (by decide +kernel) ⟨Nat.le_of_ble_eq_true rfl, Nat.le_of_ble_eq_true rfl⟩) (gw_pv hE hB hS hW rfl hf_x) rfl rfl hl.1 rfl (lv_room (Nat.le_of_ble_eq_true rfl)) d_X_count_75 ⟨Nat.le_of_ble_eq_true rfl, Nat.le_of_ble_eq_true rfl⟩) (fun r10 hw11 => ?_)
    exact gr_iret hx hb hr hlocks d_X_count_78 trivial
  · refine lv_tableIn (tgt := 79) hx hb d_X_count_1 (by rw [h9]; decide) (by rw [h9]; decide) (by rw [h9]; rfl) (by decide) ?_
    refine lv_aload_n hx hb d_X_count_79 rfl (lv_at hl 0 rfl) ?_
    refine gw_get (ci := 0) (fs := [.int lim, .int sc, .int E, .ref (A 1), .ref (A 3), .ref (A 4), .ref (A 5), .ref (A 6), .int (nI gc)]) hx hb hts in_X hown hE.K hW hf_x rfl 8 (by decide) (hts _ mw51) (fun _ h9 => h9) rfl d_X_count_80 ?_
    exact gr_iret hx hb hr hlocks d_X_count_83 trivial
