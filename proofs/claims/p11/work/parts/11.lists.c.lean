theorem gr_mono {l : Launch} {y : MethodName} {ws : List Cond} {rm : Room} {Pc : Array Value → State → Prop} {p1 p2 : Nat → Prop} {mc ms : Nat} {free : Addr → Prop} (h : Met l y ws rm Pc (gr_Qr p1) mc ms free) (hp : ∀ r, p1 r → p2 r) : Met l y ws rm Pc (gr_Qr p2) mc ms free := by
  intro p e ha hc hk s m args below hf happ hP hK
  obtain ⟨k, o, h1, h2, h3, ⟨r, hr, hq, hh⟩, hL⟩ := h p e ha hc hk s m args below hf happ hP hK
  exact ⟨k, o, h1, h2, h3, ⟨r, hr, hp r hq, hh⟩, hL⟩
set_option maxHeartbeats 4000000 in
set_option maxRecDepth 100000 in
theorem s_size0 (l : Launch) (G : gw_G) (M : gw_M) (o : Nat) (ro : Nat) (k : Int32) (a : Nat) (v : Int32) (hf_o : M o = some (ro, .inr (4, [.int k, .ref a, .int v]))) : Met l y_AL_size [.code y_AL_size b_AL_size 1 (some .int)] ({ frames := 0, cells := 0, slots := 0, locals := 0 }) (gw_Pc G M [.ref o]) (gr_Qi (fun r => v = r)) 0 0 (fun _ => False) := by
  refine gw_startR (by decide) (Nat.le_of_ble_eq_true rfl) (fun p9 e9 s m b9 mt9 c9 hx hb hr hml hown hlocks hin hE hB hW ls hl => ?_)
  have hts := hE.ts ([.ref o] : List Value).toArray
  have hl : lv_has ls 1 [(0, .ref o)] := hl
  have hown : s.vm.findClass "java/util/ArrayList" = some m.cls := hown
  have hS : va_S (gw_A G) s.heap s.heap [] := va_S.rf
  refine lv_aload_n hx hb d_AL_size_0 rfl (lv_at hl 0 rfl) ?_
  refine gw_get (ci := 4) (fs := [.int k, .ref a, .int v]) hx hb hts in_AL hown hE.K hW hf_o rfl 2 (by decide) (hts _ mw0) (fun _ h9 => h9) rfl d_AL_size_1 ?_
  exact gr_iret hx hb hr hlocks d_AL_size_4 rfl

set_option maxHeartbeats 4000000 in
set_option maxRecDepth 100000 in
theorem s_pre (l : Launch) (G : gw_G) (M : gw_M) (i : Int32) (v : Int32) (h0 : ¬ i < 0) (h1 : i < v) : Met l y_Preconditions_checkIndex [.code y_Preconditions_checkIndex b_Preconditions_checkIndex 3 (some .int)] ({ frames := 0, cells := 0, slots := 0, locals := 0 }) (gw_Pc G M [.int i, .int v, .null]) (gr_Qi (fun r => True)) 0 0 (fun _ => False) := by
  refine gw_startR (by decide) (Nat.le_of_ble_eq_true rfl) (fun p9 e9 s m b9 mt9 c9 hx hb hr hml hown hlocks hin hE hB hW ls hl => ?_)
  have hts := hE.ts ([.int i, .int v, .null] : List Value).toArray
  have hl : lv_has ls 3 [(0, .int i), (1, .int v), (2, .null)] := hl
  have hown : s.vm.findClass "jdk/internal/util/Preconditions" = some m.cls := hown
  have hS : va_S (gw_A G) s.heap s.heap [] := va_S.rf
  refine lv_iload_n hx hb d_Preconditions_checkIndex_0 rfl (lv_at hl 0 rfl) ?_
  refine lv_if_lt (tgt := 9) hx hb d_Preconditions_checkIndex_1 (by decide) (fun c1 => ?_) (fun c1 => ?_)
  · exact absurd c1 h0
  · refine lv_iload_n hx hb d_Preconditions_checkIndex_4 rfl (lv_at hl 0 rfl) ?_
    refine lv_iload_n hx hb d_Preconditions_checkIndex_5 rfl (lv_at hl 1 rfl) ?_
    refine lv_icmp_lt (tgt := 16) hx hb d_Preconditions_checkIndex_6 (by decide) (fun c6 => ?_) (fun c6 => ?_)
    · refine lv_iload_n hx hb d_Preconditions_checkIndex_16 rfl (lv_at hl 0 rfl) ?_
      exact gr_iret hx hb hr hlocks d_Preconditions_checkIndex_17 trivial
    · exact absurd h1 c6

set_option maxHeartbeats 4000000 in
set_option maxRecDepth 100000 in
theorem s_obj (l : Launch) (G : gw_G) (M : gw_M) (i : Int32) (v : Int32) (h0 : ¬ i < 0) (h1 : i < v) : Met l y_Objects_checkIndex [.code y_Objects_checkIndex b_Objects_checkIndex 2 (some .int)] ({ frames := 1, cells := 0, slots := 0, locals := 22 }) (gw_Pc G M [.int i, .int v]) (gr_Qi (fun r => True)) 0 0 (fun _ => False) := by
  refine gw_startR (by decide) (Nat.le_of_ble_eq_true rfl) (fun p9 e9 s m b9 mt9 c9 hx hb hr hml hown hlocks hin hE hB hW ls hl => ?_)
  have hts := hE.ts ([.int i, .int v] : List Value).toArray
  have hl : lv_has ls 2 [(0, .int i), (1, .int v)] := hl
  have hown : s.vm.findClass "java/util/Objects" = some m.cls := hown
  have hS : va_S (gw_A G) s.heap s.heap [] := va_S.rf
  refine lv_iload_n hx hb d_Objects_checkIndex_0 rfl (lv_at hl 0 rfl) ?_
  refine lv_iload_n hx hb d_Objects_checkIndex_1 rfl (lv_at hl 1 rfl) ?_
  refine lv_null hx hb d_Objects_checkIndex_2 ?_
  refine gr_calli (va_runS (As := [.int i, .int v, .null]) (rest := []) ⟨hx, hb, hml, hown, hts⟩ (s_pre l G M i v  (by assumption) (by assumption)) (va_cwS 3 hts (gw_gt mw2 mw3 mw4 mw1) rfl rfl rfl (by decide +kernel) ⟨Nat.le_of_ble_eq_true rfl, Nat.le_of_ble_eq_true rfl⟩) (gw_ps hE hB hS hW) rfl rfl hl.1 rfl (lv_room (Nat.le_of_ble_eq_true rfl)) d_Objects_checkIndex_3 ⟨Nat.le_of_ble_eq_true rfl, Nat.le_of_ble_eq_true rfl⟩) (fun r1 hw2 => ?_)
  exact gr_iret hx hb hr hlocks d_Objects_checkIndex_6 trivial

set_option maxHeartbeats 4000000 in
set_option maxRecDepth 100000 in
theorem s_eld (l : Launch) (G : gw_G) (M : gw_M) (o : Nat) (ro : Nat) (k : Int32) (a : Nat) (v : Int32) (ra : Nat) (cap : Nat) (f : Nat → Option Nat) (i : Nat) (y : Nat) (hf_o : M o = some (ro, .inr (4, [.int k, .ref a, .int v]))) (hf_a : M a = some (ra, .inl (G.2.1 1, cap, .inr (.inr (.inr (.inr f)))))) (hi : i < cap) (hcap : cap ≤ 1000) (hy : f i = some y) : Met l y_AL_elementData [.code y_AL_elementData b_AL_elementData 2 (some (.object "java/lang/Object"))] ({ frames := 0, cells := 0, slots := 0, locals := 0 }) (gw_Pc G M [.ref o, .int (nI i)]) (gr_Qr (fun r => r = y)) 0 0 (fun _ => False) := by
  refine gw_startR (by decide) (Nat.le_of_ble_eq_true rfl) (fun p9 e9 s m b9 mt9 c9 hx hb hr hml hown hlocks hin hE hB hW ls hl => ?_)
  have hts := hE.ts ([.ref o, .int (nI i)] : List Value).toArray
  have hl : lv_has ls 2 [(0, .ref o), (1, .int (nI i))] := hl
  have hown : s.vm.findClass "java/util/ArrayList" = some m.cls := hown
  have hS : va_S (gw_A G) s.heap s.heap [] := va_S.rf
  refine lv_aload_n hx hb d_AL_elementData_0 rfl (lv_at hl 0 rfl) ?_
  refine gw_get (ci := 4) (fs := [.int k, .ref a, .int v]) hx hb hts in_AL hown hE.K hW hf_o rfl 1 (by decide) (hts _ mw5) (fun _ h9 => h9) rfl d_AL_elementData_1 ?_
  refine lv_iload_n hx hb d_AL_elementData_4 rfl (lv_at hl 1 rfl) ?_
  refine gw_aald (i := nI i) hx hb hE.K hW 1 hf_a rfl (vp_in_nI hi (by omega)) d_AL_elementData_5 ?_
  refine W.eq (g2 := F0 m 6 ls [.ref y]) (by rw [nI_clamp (by omega), hy]; rfl) ?_
  exact gr_aret hx hb hr hlocks (Or.inl ⟨_, rfl⟩) d_AL_elementData_6 rfl

set_option maxHeartbeats 4000000 in
set_option maxRecDepth 100000 in
theorem s_get0 (l : Launch) (G : gw_G) (M : gw_M) (o : Nat) (ro : Nat) (k : Int32) (a : Nat) (n : Nat) (ra : Nat) (cap : Nat) (f : Nat → Option Nat) (i : Nat) (y : Nat) (hf_o : M o = some (ro, .inr (4, [.int k, .ref a, .int (nI n)]))) (hf_a : M a = some (ra, .inl (G.2.1 1, cap, .inr (.inr (.inr (.inr f)))))) (hi : i < n) (hn : n ≤ cap) (hcap : cap ≤ 1000) (hy : f i = some y) : Met l y_AL_get [.code y_AL_get b_AL_get 2 (some (.object "java/lang/Object"))] ({ frames := 2, cells := 0, slots := 0, locals := 43 }) (gw_Pc G M [.ref o, .int (nI i)]) (gr_Qr (fun r => r = y)) 0 0 (fun _ => False) := by
  refine gw_startR (by decide) (Nat.le_of_ble_eq_true rfl) (fun p9 e9 s m b9 mt9 c9 hx hb hr hml hown hlocks hin hE hB hW ls hl => ?_)
  have hts := hE.ts ([.ref o, .int (nI i)] : List Value).toArray
  have hl : lv_has ls 2 [(0, .ref o), (1, .int (nI i))] := hl
  have hown : s.vm.findClass "java/util/ArrayList" = some m.cls := hown
  have hS : va_S (gw_A G) s.heap s.heap [] := va_S.rf
  refine lv_iload_n hx hb d_AL_get_0 rfl (lv_at hl 1 rfl) ?_
  refine lv_aload_n hx hb d_AL_get_1 rfl (lv_at hl 0 rfl) ?_
  refine gw_get (ci := 4) (fs := [.int k, .ref a, .int (nI n)]) hx hb hts in_AL hown hE.K hW hf_o rfl 2 (by decide) (hts _ mw0) (fun _ h9 => h9) rfl d_AL_get_2 ?_
  refine gr_calli (va_runS (As := [.int (nI i), .int (nI n)]) (rest := []) ⟨hx, hb, hml, hown, hts⟩ (s_obj l G M (nI i) (nI n)  (nI_pos (by omega)) (nI_lt hi (by omega))) (va_cwS 2 hts (gw_gt mw7 mw8 mw9 mw6) rfl rfl rfl (by decide +kernel) ⟨Nat.le_of_ble_eq_true rfl, Nat.le_of_ble_eq_true rfl⟩) (gw_ps hE hB hS hW) rfl rfl hl.1 rfl (lv_room (Nat.le_of_ble_eq_true rfl)) d_AL_get_5 ⟨Nat.le_of_ble_eq_true rfl, Nat.le_of_ble_eq_true rfl⟩) (fun r1 hw2 => ?_)
  refine lv_pop hx hb d_AL_get_8 rfl ?_
  refine lv_aload_n hx hb d_AL_get_9 rfl (lv_at hl 0 rfl) ?_
  refine lv_iload_n hx hb d_AL_get_10 rfl (lv_at hl 1 rfl) ?_
  refine gr_callr (va_runV (As := [.int (nI i)]) (rest := []) ⟨hx, hb, hml, hown, hts⟩ (s_eld l G M o ro k a (nI n) ra cap f i y hf_o hf_a (Nat.lt_of_lt_of_le hi hn) hcap hy) (cwV 1 hts (gw_gv mw11 mw12 mw13 mw14 mw10) rfl rfl rfl (by decide +kernel) ⟨Nat.le_of_ble_eq_true rfl, Nat.le_of_ble_eq_true rfl⟩) (gw_pv hE hB hS hW rfl hf_o) rfl rfl hl.1 rfl (lv_room (Nat.le_of_ble_eq_true rfl)) d_AL_get_11 ⟨Nat.le_of_ble_eq_true rfl, Nat.le_of_ble_eq_true rfl⟩) (fun r3 hw4 => ?_)
  have hw9 := hw4
  exact gr_aret hx hb hr hlocks (Or.inl ⟨_, rfl⟩) d_AL_get_14 hw9
/-- the list's size, and an element, read -/
theorem s_size (l : Launch) (G : gw_G) (M : gw_M) (o ro ra re n : Nat) (hL : gl_L G M o ro ra re n) : Met l y_AL_size [.code y_AL_size b_AL_size 1 (some .int)] ({ frames := 0, cells := 0, slots := 0, locals := 0 }) (gw_Pc G M [.ref o]) (gr_Qi (fun r => nI n = r)) 0 0 (fun _ => False) := by
  obtain ⟨k, ⟨-, hf⟩ | ⟨a, cap, f, hf, -⟩⟩ := hL
  · exact s_size0 l G M o ro k _ _ hf
  · exact s_size0 l G M o ro k _ _ hf
theorem s_get (l : Launch) (G : gw_G) (M : gw_M) (o ro ra re n i : Nat) (hL : gl_L G M o ro ra re n) (hi : i < n) : Met l y_AL_get [.code y_AL_get b_AL_get 2 (some (.object "java/lang/Object"))] ({ frames := 2, cells := 0, slots := 0, locals := 43 }) (gw_Pc G M [.ref o, .int (nI i)]) (gr_Qr (fun r => gp_R M re r)) 0 0 (fun _ => False) := by
  obtain ⟨k, ⟨e0, -⟩ | ⟨a, cap, f, hf, ha, hc, hc2, he⟩⟩ := hL
  · omega
  · obtain ⟨y, e, hy, hM⟩ := he i hi
    exact gr_mono (s_get0 l G M o ro k a n ra cap f i y hf ha hi hc hc2.2 hy) (fun r hr => by rw [hr]; exact ⟨e, hM⟩)
