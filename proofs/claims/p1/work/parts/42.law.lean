/-! THE CLAIM OUT OF ONE WALK OF THE LAW'S BODY. Your part is whole_start (and what it stands on); all else here is the same for every law, but numbers. -/
def R_law : String := "GenerationsLaw"
def lw_P (b : Addr) (xs : List Int32) (args : Array Value) (s : State) : Prop := args = #[.ref b] ∧ s.IntsAt b xs ∧ xs.length ≤ 6 ∧ (Jvm.Cond.and given_1 narrow_1).before args s = true
def lw_Q (_ : Array Value) (s : State) (o : Outcome) (t : State) : Prop := o = .returned (some (.int 1)) ∧ Framed s o t [] 600002 7302198
def lw_Z (below : List Frame) (a : Array Value) (s : State) : State → Prop := fun t => ∃ o, t.status = .running ∧ Ended t below o ∧ lw_Q a s o t
/-- the law's own end, with 1 on the stack, nothing written that was there before, its room as the claim has it -/
theorem lw_ret {p : Program} {l : Launch} {e : Env} {s : State} {m : MethodId} {below : List Frame} {meth : Method} {c : Code} {b : Nat} (hx : p.tables.exec = Jvm.exec) (hb : c.code = code) (hr : meth.sig.returnType = ret) (hlocks : meth.locks = false) {pc : Nat} {H : Heap} {ls : Array Slot} (hdg : decode code pc = .ok (.ireturn, 1)) : W p l e room_1 s m #[Value.ref b] below meth c H [] 600002 7302198 (lw_Z below #[Value.ref b] s) (F0 m pc ls [.int 1]) := by
  intro T hT X
  obtain ⟨fs, hret, hrun, hended, hW, hframe⟩ := X.leave (v := some (.int 1)) (hlocks := hlocks) (fun h => by rw [hr] at h; cases h)
  have hmeth' : T.vm.method? m = some meth := X.method'
  refine ⟨T.setFrames fs, ?_, .returned (some (.int 1)), hrun, hended, rfl, ⟨_, rfl⟩, hW, hframe⟩
  jvm_step X.here [X.here.top, hx, hb, hdg, hmeth', hr, ret, narrow_b1]
  (try refine ⟨rfl, ?_⟩); (try refine ⟨rfl, ?_⟩)
  first | (intro acts; rw [hret _ acts rfl rfl rfl]) | rw [hret _ _ rfl rfl rfl]
  exact Steps.refl _
/-- what holds at the law's entry: the machine, the code, the tables' words (any of lw_tbl by 'hts w (by decide +kernel)'), the script of L ints xs at the cell b, what the Statement gives of the start (any of its parts by flat_of_before) -/
def lw_At (p : Program) (s : State) (m : MethodId) (meth : Method) (c : Code) (b L : Nat) (xs : Nat → Int32) : Prop :=
  p.tables.exec = Jvm.exec ∧ c.code = code ∧ meth.sig.returnType = ret ∧ c.maxLocals = 7 ∧ s.vm.findClass R_law = some m.cls ∧ (∀ w ∈ lw_tbl, w.before #[Value.ref b] s = true) ∧ va_X b L xs s s.heap ∧ b < s.heap.size ∧ meth.locks = false ∧ (Jvm.Cond.and given_1 narrow_1).before #[Value.ref b] s = true
set_option maxHeartbeats 8000000 in
set_option maxRecDepth 100000 in
theorem whole_start {p : Program} {e : Env} {s : State} {m : MethodId} {below : List Frame} {meth : Method} {c : Code} (l : Launch) (hl9 : l.stackTraces = false) {b L : Nat} {xs : Nat → Int32} (hL : L ≤ 6) (C0 : lw_At p s m meth c b L xs) : W p l e room_1 s m #[Value.ref b] below meth c s.heap [] 0 0 (lw_Z below #[Value.ref b] s) (entryFrame m ([Value.ref b] : List Value).toArray 7) := by
  obtain ⟨hx, hb, hr, hml, hown, hts0, hX, hbl, hlocks, hgv⟩ := id C0
  obtain ⟨G, eG, hE⟩ := gw_law hts0 hgv
  have hts := hE.ts #[Value.ref b]
  have hL31 : L < 2 ^ 31 := by omega
  have hB : G.2.2.2 ≤ s.heap.size := by rw [eG]; exact Nat.le_refl _
  have hbA : ¬ gw_A G b := by show ¬ G.2.2.2 ≤ b; rw [eG]; exact Nat.not_le.mpr hbl
  have hS : va_S (gw_A G) s.heap s.heap [] := va_S.rf
  have hown : s.vm.findClass "GenerationsLaw" = some m.cls := hown
  obtain ⟨M, eM⟩ : ∃ z : gw_M, z = fun _ => none := ⟨_, rfl⟩
  have hW : gw_P G.1 vwCl G.2.2.2 M s.heap := by rw [eM]; exact gw_P.nil
  have hl := lv_entry ([.ref b]) (n := 7) (Nat.le_of_ble_eq_true rfl)
  rw [lg_entry_eq]
  generalize (lg_sl ([.ref b]) ++ List.replicate (7 - (lg_sl ([.ref b])).length) Slot.unset).toArray = ls at hl ⊢
  have hl : lv_has ls 7 [(0, .ref b)] := hl
  refine gw_new (ci := 0) (fs := [.int 0, .int 0, .int 0, .null, .null, .null, .null, .null, .int 0]) hx hb hts in_X t_X t_X_ok hown (hts _ mw230) (hts _ mw231) (hts _ mw83) hE.K hW hS hB rfl (fun j hj => by rcases (show j = 0 ∨ j = 1 ∨ j = 2 ∨ j = 3 ∨ j = 4 ∨ j = 5 ∨ j = 6 ∨ j = 7 ∨ j = 8 by omega) with rfl | rfl | rfl | rfl | rfl | rfl | rfl | rfl | rfl <;> rfl) (Nat.le_of_ble_eq_true rfl) (Nat.le_of_ble_eq_true rfl) d_Law_law_0 1 (fun q1 H hq2 hW hS => ?_)
  refine W.widen (k := 1) (n := 9) (Nat.le_refl _) (Nat.le_refl _) ?_
  obtain ⟨M3, eM3⟩ : ∃ z, z = gw_up M q1 1 (.inr (0, [.int 0, .int 0, .int 0, .null, .null, .null, .null, .null, .int 0])) := ⟨_, rfl⟩
  replace hW : gw_P G.1 vwCl G.2.2.2 M3 H := by rw [eM3]; exact hW
  have hf_q1 : M3 q1 = some (1, .inr (0, [.int 0, .int 0, .int 0, .null, .null, .null, .null, .null, .int 0])) := by rw [eM3]; exact gw_up_self _ _ _ _
  refine lv_dup hx hb d_Law_law_3 rfl ?_
  refine lv_aload_n hx hb d_Law_law_4 rfl (lv_at hl 0 rfl) ?_
  refine lv_iconst (v := 0) hx hb d_Law_law_5 (by decide) ?_
  refine W.callA (W.runS (As := [.ref b, .int 0]) (rest := [.ref q1, .ref q1]) ⟨hx, hb, hml, hown, hts⟩ (c_cell l b L xs 0 (by decide) hL31) (cwS 2 hts (gw_gs mw232 mw233 mw234 mw235) rfl rfl rfl (by decide +kernel) ⟨Nat.le_of_ble_eq_true rfl, Nat.le_of_ble_eq_true rfl⟩) (gc_ps hX hbl hbA hS) rfl rfl hl.1 rfl (lv_room (Nat.le_of_ble_eq_true rfl)) d_Law_law_6 ⟨Nat.le_of_ble_eq_true rfl, Nat.le_of_ble_eq_true rfl⟩) (fun z4 => ?_)
  refine W.eq (g2 := F0 m 9 ls [.int z4, .ref q1, .ref q1]) rfl ?_
  refine lv_aload_n hx hb d_Law_law_9 rfl (lv_at hl 0 rfl) ?_
  refine lv_iconst (v := 1) hx hb d_Law_law_10 (by decide) ?_
  refine W.callA (W.runS (As := [.ref b, .int 1]) (rest := [.int z4, .ref q1, .ref q1]) ⟨hx, hb, hml, hown, hts⟩ (c_cell l b L xs 1 (by decide) hL31) (cwS 2 hts (gw_gs mw232 mw233 mw234 mw235) rfl rfl rfl (by decide +kernel) ⟨Nat.le_of_ble_eq_true rfl, Nat.le_of_ble_eq_true rfl⟩) (gc_ps hX hbl hbA hS) rfl rfl hl.1 rfl (lv_room (Nat.le_of_ble_eq_true rfl)) d_Law_law_11 ⟨Nat.le_of_ble_eq_true rfl, Nat.le_of_ble_eq_true rfl⟩) (fun z5 => ?_)
  refine W.eq (g2 := F0 m 14 ls [.int z5, .int z4, .ref q1, .ref q1]) rfl ?_
  refine gw_callv hS (va_runI (As := [.int z4, .int z5]) (rest := [.ref q1]) ⟨hx, hb, hml, hown, hts⟩ (c_X_init l G M3 q1 z4 z5 hf_q1 ) (cwI 2 hts (gw_g1 mw236) rfl rfl rfl (hts _ mw83) (hts _ mw237) (hts _ mw238) rfl (by decide +kernel) ⟨Nat.le_of_ble_eq_true rfl, Nat.le_of_ble_eq_true rfl⟩) (gw_ps hE hB hS hW) rfl rfl hl.1 rfl (lv_room (Nat.le_of_ble_eq_true rfl)) d_Law_law_14 ⟨Nat.le_of_ble_eq_true rfl, Nat.le_of_ble_eq_true rfl⟩) (fun M7 H locs hw8 hW hS => ?_)
  refine W.widen (k := 7) (n := 790) (Nat.le_refl _) (Nat.le_refl _) ?_
  obtain ⟨row9, nums10, jobs11, known12, nowh13, gone14, sc15, hf_q1', hf_row9', hf_nums10', hf_jobs11', hf_known12', hf_nowh13', hf_gone14', hfr16⟩ := hw8
  have hf_q1 : M7 q1 = some (1, .inr (0, [.int (if 1 < (if 255 < z4 then 255 else z4) then (if 255 < z4 then 255 else z4) else 1), .int sc15, .int 0, .ref row9, .ref jobs11, .ref known12, .ref nowh13, .ref gone14, .int 0])) := hf_q1'
  have hf_row9 : M7 row9 = some (2, .inr (1, [.ref nums10, .int 0])) := hf_row9'
  have hf_nums10 : M7 nums10 = some (3, .inl (G.2.1 0, 256, .inl (fun _ => 0))) := hf_nums10'
  have hf_jobs11 : M7 jobs11 = some (4, .inr (4, [.int 0, .ref (G.2.2.1 0), .int 0])) := hf_jobs11'
  have hf_known12 : M7 known12 = some (5, .inr (4, [.int 0, .ref (G.2.2.1 0), .int 0])) := hf_known12'
  have hf_nowh13 : M7 nowh13 = some (12, .inr (2, [.int 0, .int 0, .int 0, .int 0, .int 0])) := hf_nowh13'
  have hf_gone14 : M7 gone14 = some (8, .inl (G.2.1 0, 512, .inl (fun _ => 0))) := hf_gone14'
  refine lv_astore_n (lv' := [(1, .ref q1), (0, .ref b)]) hx hb d_Law_law_17 rfl hl (by decide) rfl (fun ls hl => ?_)
  refine gw_new (ci := 5) (fs := [.int 0, .int 0, .int 0, .int 0, .null, .null, .int 0, .null, .null, .null, .null, .int 0, .int 0, .null, .int 0]) hx hb hts in_Mo t_Mo t_Mo_ok hown (hts _ mw239) (hts _ mw240) (hts _ mw169) hE.K hW hS hB rfl (fun j hj => by rcases (show j = 0 ∨ j = 1 ∨ j = 2 ∨ j = 3 ∨ j = 4 ∨ j = 5 ∨ j = 6 ∨ j = 7 ∨ j = 8 ∨ j = 9 ∨ j = 10 ∨ j = 11 ∨ j = 12 ∨ j = 13 ∨ j = 14 by omega) with rfl | rfl | rfl | rfl | rfl | rfl | rfl | rfl | rfl | rfl | rfl | rfl | rfl | rfl | rfl <;> rfl) (Nat.le_of_ble_eq_true rfl) (Nat.le_of_ble_eq_true rfl) d_Law_law_18 100 (fun q17 H hq18 hW hS => ?_)
  refine W.widen (k := 8) (n := 805) (Nat.le_refl _) (Nat.le_refl _) ?_
  obtain ⟨M19, eM19⟩ : ∃ z, z = gw_up M7 q17 100 (.inr (5, [.int 0, .int 0, .int 0, .int 0, .null, .null, .int 0, .null, .null, .null, .null, .int 0, .int 0, .null, .int 0])) := ⟨_, rfl⟩
  replace hW : gw_P G.1 vwCl G.2.2.2 M19 H := by rw [eM19]; exact hW
  have hf_q1 : M19 q1 = some (1, .inr (0, [.int (if 1 < (if 255 < z4 then 255 else z4) then (if 255 < z4 then 255 else z4) else 1), .int sc15, .int 0, .ref row9, .ref jobs11, .ref known12, .ref nowh13, .ref gone14, .int 0])) := by rw [eM19]; exact gw_keepN hf_q1 hq18
  have hf_row9 : M19 row9 = some (2, .inr (1, [.ref nums10, .int 0])) := by rw [eM19]; exact gw_keepN hf_row9 hq18
  have hf_nums10 : M19 nums10 = some (3, .inl (G.2.1 0, 256, .inl (fun _ => 0))) := by rw [eM19]; exact gw_keepN hf_nums10 hq18
  have hf_jobs11 : M19 jobs11 = some (4, .inr (4, [.int 0, .ref (G.2.2.1 0), .int 0])) := by rw [eM19]; exact gw_keepN hf_jobs11 hq18
  have hf_known12 : M19 known12 = some (5, .inr (4, [.int 0, .ref (G.2.2.1 0), .int 0])) := by rw [eM19]; exact gw_keepN hf_known12 hq18
  have hf_nowh13 : M19 nowh13 = some (12, .inr (2, [.int 0, .int 0, .int 0, .int 0, .int 0])) := by rw [eM19]; exact gw_keepN hf_nowh13 hq18
  have hf_gone14 : M19 gone14 = some (8, .inl (G.2.1 0, 512, .inl (fun _ => 0))) := by rw [eM19]; exact gw_keepN hf_gone14 hq18
  have hf_q17 : M19 q17 = some (100, .inr (5, [.int 0, .int 0, .int 0, .int 0, .null, .null, .int 0, .null, .null, .null, .null, .int 0, .int 0, .null, .int 0])) := by rw [eM19]; exact gw_up_self _ _ _ _
  refine lv_dup hx hb d_Law_law_21 rfl ?_
  refine lv_aload_n hx hb d_Law_law_22 rfl (lv_at hl 1 rfl) ?_
  refine lv_iconst (v := 0) hx hb d_Law_law_23 (by decide) ?_
  refine W.callA (W.runS (As := [.ref b, .int 0]) (rest := [.ref q17, .ref q17]) ⟨hx, hb, hml, hown, hts⟩ (c_cell l b L xs 0 (by decide) hL31) (cwS 2 hts (gw_gs mw232 mw233 mw234 mw235) rfl rfl rfl (by decide +kernel) ⟨Nat.le_of_ble_eq_true rfl, Nat.le_of_ble_eq_true rfl⟩) (gc_ps hX hbl hbA hS) rfl rfl hl.1 rfl (lv_room (Nat.le_of_ble_eq_true rfl)) d_Law_law_24 ⟨Nat.le_of_ble_eq_true rfl, Nat.le_of_ble_eq_true rfl⟩) (fun z20 => ?_)
  refine W.eq (g2 := F0 m 27 ls [.int z20, .ref q17, .ref q17]) rfl ?_
  refine lv_aload_n hx hb d_Law_law_27 rfl (lv_at hl 1 rfl) ?_
  refine lv_iconst (v := 1) hx hb d_Law_law_28 (by decide) ?_
  refine W.callA (W.runS (As := [.ref b, .int 1]) (rest := [.int z20, .ref q17, .ref q17]) ⟨hx, hb, hml, hown, hts⟩ (c_cell l b L xs 1 (by decide) hL31) (cwS 2 hts (gw_gs mw232 mw233 mw234 mw235) rfl rfl rfl (by decide +kernel) ⟨Nat.le_of_ble_eq_true rfl, Nat.le_of_ble_eq_true rfl⟩) (gc_ps hX hbl hbA hS) rfl rfl hl.1 rfl (lv_room (Nat.le_of_ble_eq_true rfl)) d_Law_law_29 ⟨Nat.le_of_ble_eq_true rfl, Nat.le_of_ble_eq_true rfl⟩) (fun z21 => ?_)
  refine W.eq (g2 := F0 m 32 ls [.int z21, .int z20, .ref q17, .ref q17]) rfl ?_
  refine gw_callv hS (va_runI (As := [.int z20, .int z21]) (rest := [.ref q17]) ⟨hx, hb, hml, hown, hts⟩ (m_init l G M19 q17 z20 z21 hf_q17 ) (cwI 2 hts (gw_g1 mw241) rfl rfl rfl (hts _ mw169) (hts _ mw242) (hts _ mw243) rfl (by decide +kernel) ⟨Nat.le_of_ble_eq_true rfl, Nat.le_of_ble_eq_true rfl⟩) (gw_ps hE hB hS hW) rfl rfl hl.1 rfl (lv_room (Nat.le_of_ble_eq_true rfl)) d_Law_law_32 ⟨Nat.le_of_ble_eq_true rfl, Nat.le_of_ble_eq_true rfl⟩) (fun M23 H locs hw24 hW hS => ?_)
  refine W.widen (k := 15) (n := 27575) (Nat.le_refl _) (Nat.le_refl _) ?_
  obtain ⟨there25, mrow26, found27, fsz28, ends29, made30, drops31, lm32, sm33, hf_q17', hf_there25', hf_mrow26', hf_found27', hf_fsz28', hf_ends29', hf_made30', hf_drops31', hlm, hfr34⟩ := hw24
  have hf_q1 : M23 q1 = some (1, .inr (0, [.int (if 1 < (if 255 < z4 then 255 else z4) then (if 255 < z4 then 255 else z4) else 1), .int sc15, .int 0, .ref row9, .ref jobs11, .ref known12, .ref nowh13, .ref gone14, .int 0])) := (hfr34 _ _ _ (by decide)).mp hf_q1
  have hf_row9 : M23 row9 = some (2, .inr (1, [.ref nums10, .int 0])) := (hfr34 _ _ _ (by decide)).mp hf_row9
  have hf_nums10 : M23 nums10 = some (3, .inl (G.2.1 0, 256, .inl (fun _ => 0))) := (hfr34 _ _ _ (by decide)).mp hf_nums10
  have hf_jobs11 : M23 jobs11 = some (4, .inr (4, [.int 0, .ref (G.2.2.1 0), .int 0])) := (hfr34 _ _ _ (by decide)).mp hf_jobs11
  have hf_known12 : M23 known12 = some (5, .inr (4, [.int 0, .ref (G.2.2.1 0), .int 0])) := (hfr34 _ _ _ (by decide)).mp hf_known12
  have hf_nowh13 : M23 nowh13 = some (12, .inr (2, [.int 0, .int 0, .int 0, .int 0, .int 0])) := (hfr34 _ _ _ (by decide)).mp hf_nowh13
  have hf_gone14 : M23 gone14 = some (8, .inl (G.2.1 0, 512, .inl (fun _ => 0))) := (hfr34 _ _ _ (by decide)).mp hf_gone14
  have hf_q17 : M23 q17 = some (100, .inr (5, [.int 0, .int lm32, .int sm33, .int 0, .ref there25, .ref mrow26, .int 0, .ref found27, .ref fsz28, .ref ends29, .ref made30, .int 0, .int 0, .ref drops31, .int 0])) := hf_q17'
  have hf_there25 : M23 there25 = some (101, .inl (G.2.1 0, 10000, .inl (fun _ => 0))) := hf_there25'
  have hf_mrow26 : M23 mrow26 = some (102, .inl (G.2.1 0, 300, .inl (fun _ => 0))) := hf_mrow26'
  have hf_found27 : M23 found27 = some (103, .inl (G.2.1 0, 10240, .inl (fun _ => 0))) := hf_found27'
  have hf_fsz28 : M23 fsz28 = some (104, .inl (G.2.1 0, 41, .inl (fun _ => 0))) := hf_fsz28'
  have hf_ends29 : M23 ends29 = some (105, .inl (G.2.1 0, 41, .inl (fun _ => 0))) := hf_ends29'
  have hf_made30 : M23 made30 = some (106, .inl (G.2.1 0, 4100, .inl (fun _ => 0))) := hf_made30'
  have hf_drops31 : M23 drops31 = some (107, .inl (G.2.1 0, 2048, .inl (fun _ => 0))) := hf_drops31'
  refine lv_astore_n (lv' := [(2, .ref q17), (1, .ref q1), (0, .ref b)]) hx hb d_Law_law_35 rfl hl (by decide) rfl (fun ls hl => ?_)
  refine lv_iconst (v := 1) hx hb d_Law_law_36 (by decide) ?_
  refine gw_newa (atype := .long) (ty := .long) (n := 1) (a0 := (1, .inr (.inl (fun _ => 0)))) (N' := 1) hx hb (hts (.arrayClass .long) mw244) rfl hE.K hW hS hB (gw_zl 1) (by decide) (by decide) (Nat.le_of_ble_eq_true rfl) (Nat.le_of_ble_eq_true rfl) (Nat.le_of_ble_eq_true rfl) d_Law_law_37 2 rfl (fun cA h1 h2 => gw_rl _ _ h1 h2) 50 (fun q35 H hq36 hW hS => ?_)
  refine W.widen (k := 16) (n := 27576) (Nat.le_refl _) (Nat.le_refl _) ?_
  obtain ⟨M37, eM37⟩ : ∃ z, z = gw_up M23 q35 50 (.inl (G.2.1 2, 1, .inr (.inl (fun _ => 0)))) := ⟨_, rfl⟩
  replace hW : gw_P G.1 vwCl G.2.2.2 M37 H := by rw [eM37]; exact hW
  have hf_q17 : M37 q17 = some (100, .inr (5, [.int 0, .int lm32, .int sm33, .int 0, .ref there25, .ref mrow26, .int 0, .ref found27, .ref fsz28, .ref ends29, .ref made30, .int 0, .int 0, .ref drops31, .int 0])) := by rw [eM37]; exact gw_keepN hf_q17 hq36
  have hf_there25 : M37 there25 = some (101, .inl (G.2.1 0, 10000, .inl (fun _ => 0))) := by rw [eM37]; exact gw_keepN hf_there25 hq36
  have hf_mrow26 : M37 mrow26 = some (102, .inl (G.2.1 0, 300, .inl (fun _ => 0))) := by rw [eM37]; exact gw_keepN hf_mrow26 hq36
  have hf_found27 : M37 found27 = some (103, .inl (G.2.1 0, 10240, .inl (fun _ => 0))) := by rw [eM37]; exact gw_keepN hf_found27 hq36
  have hf_fsz28 : M37 fsz28 = some (104, .inl (G.2.1 0, 41, .inl (fun _ => 0))) := by rw [eM37]; exact gw_keepN hf_fsz28 hq36
  have hf_ends29 : M37 ends29 = some (105, .inl (G.2.1 0, 41, .inl (fun _ => 0))) := by rw [eM37]; exact gw_keepN hf_ends29 hq36
  have hf_made30 : M37 made30 = some (106, .inl (G.2.1 0, 4100, .inl (fun _ => 0))) := by rw [eM37]; exact gw_keepN hf_made30 hq36
  have hf_drops31 : M37 drops31 = some (107, .inl (G.2.1 0, 2048, .inl (fun _ => 0))) := by rw [eM37]; exact gw_keepN hf_drops31 hq36
  have hf_q1 : M37 q1 = some (1, .inr (0, [.int (if 1 < (if 255 < z4 then 255 else z4) then (if 255 < z4 then 255 else z4) else 1), .int sc15, .int 0, .ref row9, .ref jobs11, .ref known12, .ref nowh13, .ref gone14, .int 0])) := by rw [eM37]; exact gw_keepN hf_q1 hq36
  have hf_row9 : M37 row9 = some (2, .inr (1, [.ref nums10, .int 0])) := by rw [eM37]; exact gw_keepN hf_row9 hq36
  have hf_nums10 : M37 nums10 = some (3, .inl (G.2.1 0, 256, .inl (fun _ => 0))) := by rw [eM37]; exact gw_keepN hf_nums10 hq36
  have hf_jobs11 : M37 jobs11 = some (4, .inr (4, [.int 0, .ref (G.2.2.1 0), .int 0])) := by rw [eM37]; exact gw_keepN hf_jobs11 hq36
  have hf_known12 : M37 known12 = some (5, .inr (4, [.int 0, .ref (G.2.2.1 0), .int 0])) := by rw [eM37]; exact gw_keepN hf_known12 hq36
  have hf_nowh13 : M37 nowh13 = some (12, .inr (2, [.int 0, .int 0, .int 0, .int 0, .int 0])) := by rw [eM37]; exact gw_keepN hf_nowh13 hq36
  have hf_gone14 : M37 gone14 = some (8, .inl (G.2.1 0, 512, .inl (fun _ => 0))) := by rw [eM37]; exact gw_keepN hf_gone14 hq36
  have hf_q35 : M37 q35 = some (50, .inl (G.2.1 2, 1, .inr (.inl (fun _ => 0)))) := by rw [eM37]; exact gw_up_self _ _ _ _
  refine lv_astore_n (lv' := [(3, .ref q35), (2, .ref q17), (1, .ref q1), (0, .ref b)]) hx hb d_Law_law_39 rfl hl (by decide) rfl (fun ls hl => ?_)
  refine lv_iconst (v := 2) hx hb d_Law_law_40 (by decide) ?_
  refine lv_istore (lv' := [(4, .int 2), (3, .ref q35), (2, .ref q17), (1, .ref q1), (0, .ref b)]) hx hb d_Law_law_41 hl (by decide) rfl (fun ls hl => ?_)
  refine lv_iload hx hb d_Law_law_43 (lv_at hl 0 rfl) ?_
  refine lv_aload_n hx hb d_Law_law_45 rfl (lv_at hl 4 rfl) ?_
  refine va_slen hx hb hX hbl hbA hS d_Law_law_46 ?_
  refine lv_iconst (v := 4) hx hb d_Law_law_47 (by decide) ?_
  refine lv_isub hx hb d_Law_law_48 ?_
  refine lv_icmp_gt (tgt := 659) hx hb d_Law_law_49 (by decide) (fun c49 => ?_) (fun c49 => ?_)
  · refine lv_iconst (v := 1) hx hb d_Law_law_659 (by decide) ?_
    refine va_forget (fun q hq => by have h9 := hS.2.2 q hq; rw [← eG]; exact h9) ?_
    refine W.widen (k := 600002) (n := 7302198) (Nat.le_of_ble_eq_true rfl) (Nat.le_of_ble_eq_true rfl) ?_
    exact lw_ret hx hb hr hlocks d_Law_law_660
  · obtain rfl : L = 6 := gx_L6 L hL c49
    refine lv_aload_n hx hb d_Law_law_52 rfl (lv_at hl 4 rfl) ?_
    refine lv_iload hx hb d_Law_law_53 (lv_at hl 0 rfl) ?_
    refine va_sld hx hb hX hbl hbA hS (i := 2) (show ¬ ((2 : Int32) < 0 ∨ 6 ≤ (2 : Int32).toNatClampNeg) by decide) d_Law_law_55 ?_
    refine lv_bipush (v := 15) hx hb d_Law_law_56 (by decide) ?_
    refine lv_iand hx hb d_Law_law_58 ?_
    rcases gx_sw12 ((xs (2 : Int32).toNatClampNeg) &&& 15) with h9 | h9 | h9 | h9 | h9 | h9 | h9 | h9 | h9 | h9 | h9 | h9 | h9 | h9
    · refine lv_tableOut (tgt := 653) hx hb d_Law_law_59 h9 (by decide) ?_
      refine lv_iinc (v := 2 + 4) (lv' := [(4, .int (2 + 4)), (3, .ref q35), (2, .ref q17), (1, .ref q1), (0, .ref b)]) hx hb d_Law_law_653 hl (k := 0) rfl rfl (by decide) rfl (fun ls hl => ?_)
      refine lv_goto (tgt := 43) hx hb d_Law_law_656 (by decide) ?_
      refine lv_iload hx hb d_Law_law_43 (lv_at hl 0 rfl) ?_
      refine lv_aload_n hx hb d_Law_law_45 rfl (lv_at hl 4 rfl) ?_
      refine va_slen hx hb hX hbl hbA hS d_Law_law_46 ?_
      refine lv_iconst (v := 4) hx hb d_Law_law_47 (by decide) ?_
      refine lv_isub hx hb d_Law_law_48 ?_
      refine lv_icmp_gt (tgt := 659) hx hb d_Law_law_49 (by decide) (fun c49 => ?_) (fun c49 => ?_)
      · refine lv_iconst (v := 1) hx hb d_Law_law_659 (by decide) ?_
        refine va_forget (fun q hq => by have h9 := hS.2.2 q hq; rw [← eG]; exact h9) ?_
        refine W.widen (k := 600002) (n := 7302198) (Nat.le_of_ble_eq_true rfl) (Nat.le_of_ble_eq_true rfl) ?_
        exact lw_ret hx hb hr hlocks d_Law_law_660
      · exact absurd (by decide) c49
    · refine lv_tableIn (tgt := 124) hx hb d_Law_law_59 (by rw [h9]; decide) (by rw [h9]; decide) (by rw [h9]; rfl) (by decide) ?_
      refine lv_aload_n hx hb d_Law_law_124 rfl (lv_at hl 3 rfl) ?_
      refine lv_aload_n hx hb d_Law_law_125 rfl (lv_at hl 4 rfl) ?_
      refine lv_iload hx hb d_Law_law_126 (lv_at hl 0 rfl) ?_
      refine lv_iconst (v := 1) hx hb d_Law_law_128 (by decide) ?_
      refine lv_iadd hx hb d_Law_law_129 ?_
      refine va_sld hx hb hX hbl hbA hS (i := 2 + 1) (show ¬ ((2 + 1 : Int32) < 0 ∨ 6 ≤ (2 + 1 : Int32).toNatClampNeg) by decide) d_Law_law_130 ?_
      refine gw_calli hS (va_runV (As := [.int (xs (2 + 1 : Int32).toNatClampNeg)]) (rest := []) ⟨hx, hb, hml, hown, hts⟩ (c_catalogue l G M37 q1 row9 nums10 jobs11 known12 nowh13 gone14 (if 1 < (if 255 < z4 then 255 else z4) then (if 255 < z4 then 255 else z4) else 1) sc15 (xs (2 + 1 : Int32).toNatClampNeg) hf_q1 hf_row9 hf_nums10 hf_known12 hf_nowh13 (gx_lim _)) (cwV 1 hts (gw_gv mw246 mw247 mw248 mw83 mw245) rfl rfl rfl (by decide +kernel) ⟨Nat.le_of_ble_eq_true rfl, Nat.le_of_ble_eq_true rfl⟩) (gw_pv hE hB hS hW rfl hf_q1) rfl rfl hl.1 rfl (lv_room (Nat.le_of_ble_eq_true rfl)) d_Law_law_131 ⟨Nat.le_of_ble_eq_true rfl, Nat.le_of_ble_eq_true rfl⟩) (fun r38 M39 H locs hw40 hW hS => ?_)
      refine W.widen (k := 18) (n := 27591) (Nat.le_refl _) (Nat.le_refl _) ?_
      obtain ⟨rfl, hfr41⟩ := hw40
      have hf_q17 : M39 q17 = some (100, .inr (5, [.int 0, .int lm32, .int sm33, .int 0, .ref there25, .ref mrow26, .int 0, .ref found27, .ref fsz28, .ref ends29, .ref made30, .int 0, .int 0, .ref drops31, .int 0])) := (hfr41 _ _ _ (by decide)).mp hf_q17
      have hf_there25 : M39 there25 = some (101, .inl (G.2.1 0, 10000, .inl (fun _ => 0))) := (hfr41 _ _ _ (by decide)).mp hf_there25
      have hf_mrow26 : M39 mrow26 = some (102, .inl (G.2.1 0, 300, .inl (fun _ => 0))) := (hfr41 _ _ _ (by decide)).mp hf_mrow26
      have hf_found27 : M39 found27 = some (103, .inl (G.2.1 0, 10240, .inl (fun _ => 0))) := (hfr41 _ _ _ (by decide)).mp hf_found27
      have hf_fsz28 : M39 fsz28 = some (104, .inl (G.2.1 0, 41, .inl (fun _ => 0))) := (hfr41 _ _ _ (by decide)).mp hf_fsz28
      have hf_ends29 : M39 ends29 = some (105, .inl (G.2.1 0, 41, .inl (fun _ => 0))) := (hfr41 _ _ _ (by decide)).mp hf_ends29
      have hf_made30 : M39 made30 = some (106, .inl (G.2.1 0, 4100, .inl (fun _ => 0))) := (hfr41 _ _ _ (by decide)).mp hf_made30
      have hf_drops31 : M39 drops31 = some (107, .inl (G.2.1 0, 2048, .inl (fun _ => 0))) := (hfr41 _ _ _ (by decide)).mp hf_drops31
      have hf_q1 : M39 q1 = some (1, .inr (0, [.int (if 1 < (if 255 < z4 then 255 else z4) then (if 255 < z4 then 255 else z4) else 1), .int sc15, .int 0, .ref row9, .ref jobs11, .ref known12, .ref nowh13, .ref gone14, .int 0])) := (hfr41 _ _ _ (by decide)).mp hf_q1
      have hf_jobs11 : M39 jobs11 = some (4, .inr (4, [.int 0, .ref (G.2.2.1 0), .int 0])) := (hfr41 _ _ _ (by decide)).mp hf_jobs11
      have hf_nowh13 : M39 nowh13 = some (12, .inr (2, [.int 0, .int 0, .int 0, .int 0, .int 0])) := (hfr41 _ _ _ (by decide)).mp hf_nowh13
      have hf_gone14 : M39 gone14 = some (8, .inl (G.2.1 0, 512, .inl (fun _ => 0))) := (hfr41 _ _ _ (by decide)).mp hf_gone14
      have hf_q35 : M39 q35 = some (50, .inl (G.2.1 2, 1, .inr (.inl (fun _ => 0)))) := (hfr41 _ _ _ (by decide)).mp hf_q35
      refine lv_aload_n hx hb d_Law_law_134 rfl (lv_at hl 2 rfl) ?_
      refine lv_aload_n hx hb d_Law_law_135 rfl (lv_at hl 4 rfl) ?_
      refine lv_iload hx hb d_Law_law_136 (lv_at hl 0 rfl) ?_
      refine lv_iconst (v := 1) hx hb d_Law_law_138 (by decide) ?_
      refine lv_iadd hx hb d_Law_law_139 ?_
      refine va_sld hx hb hX hbl hbA hS (i := 2 + 1) (show ¬ ((2 + 1 : Int32) < 0 ∨ 6 ≤ (2 + 1 : Int32).toNatClampNeg) by decide) d_Law_law_140 ?_
      refine gw_calli hS (va_runV (As := [.int (xs (2 + 1 : Int32).toNatClampNeg)]) (rest := [.int (gx_cat (xs (2 + 1 : Int32).toNatClampNeg))]) ⟨hx, hb, hml, hown, hts⟩ (m_catalogue l G M39 q17 there25 mrow26 found27 fsz28 ends29 made30 drops31 0 lm32 sm33 (xs (2 + 1 : Int32).toNatClampNeg) hf_q17 hf_there25 hf_mrow26 hlm) (cwV 1 hts (gw_gv mw250 mw251 mw252 mw169 mw249) rfl rfl rfl (by decide +kernel) ⟨Nat.le_of_ble_eq_true rfl, Nat.le_of_ble_eq_true rfl⟩) (gw_pv hE hB hS hW rfl hf_q17) rfl rfl hl.1 rfl (lv_room (Nat.le_of_ble_eq_true rfl)) d_Law_law_141 ⟨Nat.le_of_ble_eq_true rfl, Nat.le_of_ble_eq_true rfl⟩) (fun r42 M43 H locs hw44 hW hS => ?_)
      obtain ⟨rfl, hfr45⟩ := hw44
      have hf_found27 : M43 found27 = some (103, .inl (G.2.1 0, 10240, .inl (fun _ => 0))) := (hfr45 _ _ _ (by decide)).mp hf_found27
      have hf_fsz28 : M43 fsz28 = some (104, .inl (G.2.1 0, 41, .inl (fun _ => 0))) := (hfr45 _ _ _ (by decide)).mp hf_fsz28
      have hf_ends29 : M43 ends29 = some (105, .inl (G.2.1 0, 41, .inl (fun _ => 0))) := (hfr45 _ _ _ (by decide)).mp hf_ends29
      have hf_made30 : M43 made30 = some (106, .inl (G.2.1 0, 4100, .inl (fun _ => 0))) := (hfr45 _ _ _ (by decide)).mp hf_made30
      have hf_drops31 : M43 drops31 = some (107, .inl (G.2.1 0, 2048, .inl (fun _ => 0))) := (hfr45 _ _ _ (by decide)).mp hf_drops31
      have hf_q1 : M43 q1 = some (1, .inr (0, [.int (if 1 < (if 255 < z4 then 255 else z4) then (if 255 < z4 then 255 else z4) else 1), .int sc15, .int 0, .ref row9, .ref jobs11, .ref known12, .ref nowh13, .ref gone14, .int 0])) := (hfr45 _ _ _ (by decide)).mp hf_q1
      have hf_jobs11 : M43 jobs11 = some (4, .inr (4, [.int 0, .ref (G.2.2.1 0), .int 0])) := (hfr45 _ _ _ (by decide)).mp hf_jobs11
      have hf_nowh13 : M43 nowh13 = some (12, .inr (2, [.int 0, .int 0, .int 0, .int 0, .int 0])) := (hfr45 _ _ _ (by decide)).mp hf_nowh13
      have hf_gone14 : M43 gone14 = some (8, .inl (G.2.1 0, 512, .inl (fun _ => 0))) := (hfr45 _ _ _ (by decide)).mp hf_gone14
      have hf_q35 : M43 q35 = some (50, .inl (G.2.1 2, 1, .inr (.inl (fun _ => 0)))) := (hfr45 _ _ _ (by decide)).mp hf_q35
      refine lv_icmp_eq (tgt := 653) hx hb d_Law_law_144 (by decide) (fun c144 => ?_) (fun c144 => ?_)
      · refine lv_iinc (v := 2 + 4) (lv' := [(4, .int (2 + 4)), (3, .ref q35), (2, .ref q17), (1, .ref q1), (0, .ref b)]) hx hb d_Law_law_653 hl (k := 0) rfl rfl (by decide) rfl (fun ls hl => ?_)
        refine lv_goto (tgt := 43) hx hb d_Law_law_656 (by decide) ?_
        refine lv_iload hx hb d_Law_law_43 (lv_at hl 0 rfl) ?_
        refine lv_aload_n hx hb d_Law_law_45 rfl (lv_at hl 4 rfl) ?_
        refine va_slen hx hb hX hbl hbA hS d_Law_law_46 ?_
        refine lv_iconst (v := 4) hx hb d_Law_law_47 (by decide) ?_
        refine lv_isub hx hb d_Law_law_48 ?_
        refine lv_icmp_gt (tgt := 659) hx hb d_Law_law_49 (by decide) (fun c49 => ?_) (fun c49 => ?_)
        · refine lv_iconst (v := 1) hx hb d_Law_law_659 (by decide) ?_
          refine va_forget (fun q hq => by have h9 := hS.2.2 q hq; rw [← eG]; exact h9) ?_
          refine W.widen (k := 600002) (n := 7302198) (Nat.le_of_ble_eq_true rfl) (Nat.le_of_ble_eq_true rfl) ?_
          exact lw_ret hx hb hr hlocks d_Law_law_660
        · exact absurd (by decide) c49
      · exact absurd rfl c144
    · refine lv_tableIn (tgt := 149) hx hb d_Law_law_59 (by rw [h9]; decide) (by rw [h9]; decide) (by rw [h9]; rfl) (by decide) ?_
      refine lv_aload_n hx hb d_Law_law_149 rfl (lv_at hl 3 rfl) ?_
      refine gw_calli hS (va_runV (As := []) (rest := []) ⟨hx, hb, hml, hown, hts⟩ (c_job l G M37 q1 row9 nums10 jobs11 known12 nowh13 gone14 (if 1 < (if 255 < z4 then 255 else z4) then (if 255 < z4 then 255 else z4) else 1) sc15 hf_q1 hf_row9 hf_nums10 hf_jobs11 ) (cwV 0 hts (gw_gv mw254 mw255 mw256 mw83 mw253) rfl rfl rfl (by decide +kernel) ⟨Nat.le_of_ble_eq_true rfl, Nat.le_of_ble_eq_true rfl⟩) (gw_pv hE hB hS hW rfl hf_q1) rfl rfl hl.1 rfl (lv_room (Nat.le_of_ble_eq_true rfl)) d_Law_law_150 ⟨Nat.le_of_ble_eq_true rfl, Nat.le_of_ble_eq_true rfl⟩) (fun r46 M47 H locs hw48 hW hS => ?_)
      refine W.widen (k := 19) (n := 27588) (Nat.le_refl _) (Nat.le_refl _) ?_
      obtain ⟨rfl, hfr49⟩ := hw48
      have hf_q17 : M47 q17 = some (100, .inr (5, [.int 0, .int lm32, .int sm33, .int 0, .ref there25, .ref mrow26, .int 0, .ref found27, .ref fsz28, .ref ends29, .ref made30, .int 0, .int 0, .ref drops31, .int 0])) := (hfr49 _ _ _ (by decide)).mp hf_q17
      have hf_there25 : M47 there25 = some (101, .inl (G.2.1 0, 10000, .inl (fun _ => 0))) := (hfr49 _ _ _ (by decide)).mp hf_there25
      have hf_mrow26 : M47 mrow26 = some (102, .inl (G.2.1 0, 300, .inl (fun _ => 0))) := (hfr49 _ _ _ (by decide)).mp hf_mrow26
      have hf_found27 : M47 found27 = some (103, .inl (G.2.1 0, 10240, .inl (fun _ => 0))) := (hfr49 _ _ _ (by decide)).mp hf_found27
      have hf_fsz28 : M47 fsz28 = some (104, .inl (G.2.1 0, 41, .inl (fun _ => 0))) := (hfr49 _ _ _ (by decide)).mp hf_fsz28
      have hf_ends29 : M47 ends29 = some (105, .inl (G.2.1 0, 41, .inl (fun _ => 0))) := (hfr49 _ _ _ (by decide)).mp hf_ends29
      have hf_made30 : M47 made30 = some (106, .inl (G.2.1 0, 4100, .inl (fun _ => 0))) := (hfr49 _ _ _ (by decide)).mp hf_made30
      have hf_drops31 : M47 drops31 = some (107, .inl (G.2.1 0, 2048, .inl (fun _ => 0))) := (hfr49 _ _ _ (by decide)).mp hf_drops31
      have hf_q1 : M47 q1 = some (1, .inr (0, [.int (if 1 < (if 255 < z4 then 255 else z4) then (if 255 < z4 then 255 else z4) else 1), .int sc15, .int 0, .ref row9, .ref jobs11, .ref known12, .ref nowh13, .ref gone14, .int 0])) := (hfr49 _ _ _ (by decide)).mp hf_q1
      have hf_row9 : M47 row9 = some (2, .inr (1, [.ref nums10, .int 0])) := (hfr49 _ _ _ (by decide)).mp hf_row9
      have hf_nums10 : M47 nums10 = some (3, .inl (G.2.1 0, 256, .inl (fun _ => 0))) := (hfr49 _ _ _ (by decide)).mp hf_nums10
      have hf_known12 : M47 known12 = some (5, .inr (4, [.int 0, .ref (G.2.2.1 0), .int 0])) := (hfr49 _ _ _ (by decide)).mp hf_known12
      have hf_nowh13 : M47 nowh13 = some (12, .inr (2, [.int 0, .int 0, .int 0, .int 0, .int 0])) := (hfr49 _ _ _ (by decide)).mp hf_nowh13
      have hf_gone14 : M47 gone14 = some (8, .inl (G.2.1 0, 512, .inl (fun _ => 0))) := (hfr49 _ _ _ (by decide)).mp hf_gone14
      have hf_q35 : M47 q35 = some (50, .inl (G.2.1 2, 1, .inr (.inl (fun _ => 0)))) := (hfr49 _ _ _ (by decide)).mp hf_q35
      refine lv_aload_n hx hb d_Law_law_153 rfl (lv_at hl 2 rfl) ?_
      refine gw_calli hS (va_runV (As := []) (rest := [.int 1]) ⟨hx, hb, hml, hown, hts⟩ (m_job l G M47 q17 there25 mrow26 found27 fsz28 ends29 made30 drops31 0 lm32 sm33 hf_q17 hf_fsz28 ) (cwV 0 hts (gw_gv mw258 mw259 mw260 mw169 mw257) rfl rfl rfl (by decide +kernel) ⟨Nat.le_of_ble_eq_true rfl, Nat.le_of_ble_eq_true rfl⟩) (gw_pv hE hB hS hW rfl hf_q17) rfl rfl hl.1 rfl (lv_room (Nat.le_of_ble_eq_true rfl)) d_Law_law_154 ⟨Nat.le_of_ble_eq_true rfl, Nat.le_of_ble_eq_true rfl⟩) (fun r50 M51 H locs hw52 hW hS => ?_)
      obtain ⟨rfl, hfr53⟩ := hw52
      have hf_there25 : M51 there25 = some (101, .inl (G.2.1 0, 10000, .inl (fun _ => 0))) := (hfr53 _ _ _ (by decide)).mp hf_there25
      have hf_mrow26 : M51 mrow26 = some (102, .inl (G.2.1 0, 300, .inl (fun _ => 0))) := (hfr53 _ _ _ (by decide)).mp hf_mrow26
      have hf_found27 : M51 found27 = some (103, .inl (G.2.1 0, 10240, .inl (fun _ => 0))) := (hfr53 _ _ _ (by decide)).mp hf_found27
      have hf_ends29 : M51 ends29 = some (105, .inl (G.2.1 0, 41, .inl (fun _ => 0))) := (hfr53 _ _ _ (by decide)).mp hf_ends29
      have hf_made30 : M51 made30 = some (106, .inl (G.2.1 0, 4100, .inl (fun _ => 0))) := (hfr53 _ _ _ (by decide)).mp hf_made30
      have hf_drops31 : M51 drops31 = some (107, .inl (G.2.1 0, 2048, .inl (fun _ => 0))) := (hfr53 _ _ _ (by decide)).mp hf_drops31
      have hf_q1 : M51 q1 = some (1, .inr (0, [.int (if 1 < (if 255 < z4 then 255 else z4) then (if 255 < z4 then 255 else z4) else 1), .int sc15, .int 0, .ref row9, .ref jobs11, .ref known12, .ref nowh13, .ref gone14, .int 0])) := (hfr53 _ _ _ (by decide)).mp hf_q1
      have hf_row9 : M51 row9 = some (2, .inr (1, [.ref nums10, .int 0])) := (hfr53 _ _ _ (by decide)).mp hf_row9
      have hf_nums10 : M51 nums10 = some (3, .inl (G.2.1 0, 256, .inl (fun _ => 0))) := (hfr53 _ _ _ (by decide)).mp hf_nums10
      have hf_known12 : M51 known12 = some (5, .inr (4, [.int 0, .ref (G.2.2.1 0), .int 0])) := (hfr53 _ _ _ (by decide)).mp hf_known12
      have hf_nowh13 : M51 nowh13 = some (12, .inr (2, [.int 0, .int 0, .int 0, .int 0, .int 0])) := (hfr53 _ _ _ (by decide)).mp hf_nowh13
      have hf_gone14 : M51 gone14 = some (8, .inl (G.2.1 0, 512, .inl (fun _ => 0))) := (hfr53 _ _ _ (by decide)).mp hf_gone14
      have hf_q35 : M51 q35 = some (50, .inl (G.2.1 2, 1, .inr (.inl (fun _ => 0)))) := (hfr53 _ _ _ (by decide)).mp hf_q35
      refine lv_icmp_eq (tgt := 653) hx hb d_Law_law_157 (by decide) (fun c157 => ?_) (fun c157 => ?_)
      · refine lv_iinc (v := 2 + 4) (lv' := [(4, .int (2 + 4)), (3, .ref q35), (2, .ref q17), (1, .ref q1), (0, .ref b)]) hx hb d_Law_law_653 hl (k := 0) rfl rfl (by decide) rfl (fun ls hl => ?_)
        refine lv_goto (tgt := 43) hx hb d_Law_law_656 (by decide) ?_
        refine lv_iload hx hb d_Law_law_43 (lv_at hl 0 rfl) ?_
        refine lv_aload_n hx hb d_Law_law_45 rfl (lv_at hl 4 rfl) ?_
        refine va_slen hx hb hX hbl hbA hS d_Law_law_46 ?_
        refine lv_iconst (v := 4) hx hb d_Law_law_47 (by decide) ?_
        refine lv_isub hx hb d_Law_law_48 ?_
        refine lv_icmp_gt (tgt := 659) hx hb d_Law_law_49 (by decide) (fun c49 => ?_) (fun c49 => ?_)
        · refine lv_iconst (v := 1) hx hb d_Law_law_659 (by decide) ?_
          refine va_forget (fun q hq => by have h9 := hS.2.2 q hq; rw [← eG]; exact h9) ?_
          refine W.widen (k := 600002) (n := 7302198) (Nat.le_of_ble_eq_true rfl) (Nat.le_of_ble_eq_true rfl) ?_
          exact lw_ret hx hb hr hlocks d_Law_law_660
        · exact absurd (by decide) c49
      · exact absurd rfl c157
    · refine lv_tableIn (tgt := 162) hx hb d_Law_law_59 (by rw [h9]; decide) (by rw [h9]; decide) (by rw [h9]; rfl) (by decide) ?_
      refine lv_aload_n hx hb d_Law_law_162 rfl (lv_at hl 3 rfl) ?_
      refine lv_aload_n hx hb d_Law_law_163 rfl (lv_at hl 4 rfl) ?_
      refine lv_iload hx hb d_Law_law_164 (lv_at hl 0 rfl) ?_
      refine lv_iconst (v := 1) hx hb d_Law_law_166 (by decide) ?_
      refine lv_iadd hx hb d_Law_law_167 ?_
      refine va_sld hx hb hX hbl hbA hS (i := 2 + 1) (show ¬ ((2 + 1 : Int32) < 0 ∨ 6 ≤ (2 + 1 : Int32).toNatClampNeg) by decide) d_Law_law_168 ?_
      refine lv_aload_n hx hb d_Law_law_169 rfl (lv_at hl 4 rfl) ?_
      refine lv_iload hx hb d_Law_law_170 (lv_at hl 0 rfl) ?_
      refine lv_iconst (v := 2) hx hb d_Law_law_172 (by decide) ?_
      refine lv_iadd hx hb d_Law_law_173 ?_
      refine va_sld hx hb hX hbl hbA hS (i := 2 + 2) (show ¬ ((2 + 2 : Int32) < 0 ∨ 6 ≤ (2 + 2 : Int32).toNatClampNeg) by decide) d_Law_law_174 ?_
      refine lv_aload_n hx hb d_Law_law_175 rfl (lv_at hl 1 rfl) ?_
      refine gw_calli hS (gt_runSW (n := 4) (As := [.ref q1, .int (xs (2 + 1 : Int32).toNatClampNeg), .int (xs (2 + 2 : Int32).toNatClampNeg), .ref q35]) (rest := []) ⟨hx, hb, hml, hown, hts⟩ (h_relative l hl9 G M37 q1 row9 jobs11 known12 nowh13 gone14 (if 1 < (if 255 < z4 then 255 else z4) then (if 255 < z4 then 255 else z4) else 1) sc15 (xs (2 + 1 : Int32).toNatClampNeg) (xs (2 + 2 : Int32).toNatClampNeg) q35 hf_q1 hf_jobs11 ) rfl rfl ⟨Nat.le_of_ble_eq_true rfl, Nat.le_of_ble_eq_true rfl⟩ (gw_gt mw262 mw263 mw234 mw261) (by decide +kernel) (gw_ps hE hB hS hW) rfl rfl hl.1 rfl (lv_room (Nat.le_of_ble_eq_true rfl)) d_Law_law_176 ⟨Nat.le_of_ble_eq_true rfl, Nat.le_of_ble_eq_true rfl⟩) (fun r54 M55 H locs hw56 hW hS => ?_)
      refine W.widen (k := 17) (n := 27582) (Nat.le_refl _) (Nat.le_refl _) ?_
      obtain ⟨rfl, rfl⟩ := hw56
      refine lv_istore (lv' := [(5, .int 1), (4, .int 2), (3, .ref q35), (2, .ref q17), (1, .ref q1), (0, .ref b)]) hx hb d_Law_law_179 hl (by decide) rfl (fun ls hl => ?_)
      refine lv_aload_n hx hb d_Law_law_181 rfl (lv_at hl 3 rfl) ?_
      refine lv_aload_n hx hb d_Law_law_182 rfl (lv_at hl 5 rfl) ?_
      refine lv_iload hx hb d_Law_law_183 (lv_at hl 1 rfl) ?_
      refine lv_iconst (v := 1) hx hb d_Law_law_185 (by decide) ?_
      refine lv_iadd hx hb d_Law_law_186 ?_
      refine va_sld hx hb hX hbl hbA hS (i := 2 + 1) (show ¬ ((2 + 1 : Int32) < 0 ∨ 6 ≤ (2 + 1 : Int32).toNatClampNeg) by decide) d_Law_law_187 ?_
      refine lv_aload_n hx hb d_Law_law_188 rfl (lv_at hl 5 rfl) ?_
      refine lv_iload hx hb d_Law_law_189 (lv_at hl 1 rfl) ?_
      refine lv_iconst (v := 2) hx hb d_Law_law_191 (by decide) ?_
      refine lv_iadd hx hb d_Law_law_192 ?_
      refine va_sld hx hb hX hbl hbA hS (i := 2 + 2) (show ¬ ((2 + 2 : Int32) < 0 ∨ 6 ≤ (2 + 2 : Int32).toNatClampNeg) by decide) d_Law_law_193 ?_
      refine gw_calli hS (va_runV (As := [.int (xs (2 + 1 : Int32).toNatClampNeg), .int (xs (2 + 2 : Int32).toNatClampNeg)]) (rest := []) ⟨hx, hb, hml, hown, hts⟩ (m_relative l G M37 q17 there25 mrow26 found27 fsz28 ends29 made30 drops31 0 lm32 sm33 (xs (2 + 1 : Int32).toNatClampNeg) (xs (2 + 2 : Int32).toNatClampNeg) hf_q17 ) (cwV 2 hts (gw_gv mw265 mw266 mw267 mw169 mw264) rfl rfl rfl (by decide +kernel) ⟨Nat.le_of_ble_eq_true rfl, Nat.le_of_ble_eq_true rfl⟩) (gw_pv hE hB hS hW rfl hf_q17) rfl rfl hl.1 rfl (lv_room (Nat.le_of_ble_eq_true rfl)) d_Law_law_194 ⟨Nat.le_of_ble_eq_true rfl, Nat.le_of_ble_eq_true rfl⟩) (fun r57 M58 H locs hw59 hW hS => ?_)
      obtain ⟨rfl, hf_q17', hfr60⟩ := hw59
      have hf_there25 : M58 there25 = some (101, .inl (G.2.1 0, 10000, .inl (fun _ => 0))) := (hfr60 _ _ _ (by decide)).mp hf_there25
      have hf_mrow26 : M58 mrow26 = some (102, .inl (G.2.1 0, 300, .inl (fun _ => 0))) := (hfr60 _ _ _ (by decide)).mp hf_mrow26
      have hf_found27 : M58 found27 = some (103, .inl (G.2.1 0, 10240, .inl (fun _ => 0))) := (hfr60 _ _ _ (by decide)).mp hf_found27
      have hf_fsz28 : M58 fsz28 = some (104, .inl (G.2.1 0, 41, .inl (fun _ => 0))) := (hfr60 _ _ _ (by decide)).mp hf_fsz28
      have hf_ends29 : M58 ends29 = some (105, .inl (G.2.1 0, 41, .inl (fun _ => 0))) := (hfr60 _ _ _ (by decide)).mp hf_ends29
      have hf_made30 : M58 made30 = some (106, .inl (G.2.1 0, 4100, .inl (fun _ => 0))) := (hfr60 _ _ _ (by decide)).mp hf_made30
      have hf_drops31 : M58 drops31 = some (107, .inl (G.2.1 0, 2048, .inl (fun _ => 0))) := (hfr60 _ _ _ (by decide)).mp hf_drops31
      have hf_q1 : M58 q1 = some (1, .inr (0, [.int (if 1 < (if 255 < z4 then 255 else z4) then (if 255 < z4 then 255 else z4) else 1), .int sc15, .int 0, .ref row9, .ref jobs11, .ref known12, .ref nowh13, .ref gone14, .int 0])) := (hfr60 _ _ _ (by decide)).mp hf_q1
      have hf_row9 : M58 row9 = some (2, .inr (1, [.ref nums10, .int 0])) := (hfr60 _ _ _ (by decide)).mp hf_row9
      have hf_nums10 : M58 nums10 = some (3, .inl (G.2.1 0, 256, .inl (fun _ => 0))) := (hfr60 _ _ _ (by decide)).mp hf_nums10
      have hf_jobs11 : M58 jobs11 = some (4, .inr (4, [.int 0, .ref (G.2.2.1 0), .int 0])) := (hfr60 _ _ _ (by decide)).mp hf_jobs11
      have hf_known12 : M58 known12 = some (5, .inr (4, [.int 0, .ref (G.2.2.1 0), .int 0])) := (hfr60 _ _ _ (by decide)).mp hf_known12
      have hf_nowh13 : M58 nowh13 = some (12, .inr (2, [.int 0, .int 0, .int 0, .int 0, .int 0])) := (hfr60 _ _ _ (by decide)).mp hf_nowh13
      have hf_gone14 : M58 gone14 = some (8, .inl (G.2.1 0, 512, .inl (fun _ => 0))) := (hfr60 _ _ _ (by decide)).mp hf_gone14
      have hf_q35 : M58 q35 = some (50, .inl (G.2.1 2, 1, .inr (.inl (fun _ => 0)))) := (hfr60 _ _ _ (by decide)).mp hf_q35
      have hf_q17 : M58 q17 = some (100, .inr (5, [.int 1, .int lm32, .int sm33, .int 0, .ref there25, .ref mrow26, .int 0, .ref found27, .ref fsz28, .ref ends29, .ref made30, .int 0, .int 0, .ref drops31, .int 0])) := hf_q17'
      refine lv_istore (lv' := [(6, .int 0), (5, .int 1), (4, .int 2), (3, .ref q35), (2, .ref q17), (1, .ref q1), (0, .ref b)]) hx hb d_Law_law_197 hl (by decide) rfl (fun ls hl => ?_)
      refine lv_aload_n hx hb d_Law_law_199 rfl (lv_at hl 4 rfl) ?_
      refine gw_calli hS (va_runV (As := []) (rest := []) ⟨hx, hb, hml, hown, hts⟩ (m_thrown l G M58 q17 there25 mrow26 found27 fsz28 ends29 made30 drops31 1 lm32 sm33 hf_q17 ) (cwV 0 hts (gw_gv mw269 mw270 mw271 mw169 mw268) rfl rfl rfl (by decide +kernel) ⟨Nat.le_of_ble_eq_true rfl, Nat.le_of_ble_eq_true rfl⟩) (gw_pv hE hB hS hW rfl hf_q17) rfl rfl hl.1 rfl (lv_room (Nat.le_of_ble_eq_true rfl)) d_Law_law_200 ⟨Nat.le_of_ble_eq_true rfl, Nat.le_of_ble_eq_true rfl⟩) (fun r61 M62 H locs hw63 hW hS => ?_)
      obtain ⟨rfl, rfl⟩ := hw63
      refine lv_iload hx hb d_Law_law_203 (lv_at hl 1 rfl) ?_
      refine lv_icmp_eq (tgt := 210) hx hb d_Law_law_205 (by decide) (fun c205 => ?_) (fun c205 => ?_)
      · refine lv_iload hx hb d_Law_law_210 (lv_at hl 1 rfl) ?_
        refine lv_if_ne (tgt := 227) hx hb d_Law_law_212 (by decide) (fun c212 => ?_) (fun c212 => ?_)
        · refine lv_goto (tgt := 653) hx hb d_Law_law_227 (by decide) ?_
          refine lv_iinc (v := 2 + 4) (lv' := [(4, .int (2 + 4)), (6, .int 0), (5, .int 1), (3, .ref q35), (2, .ref q17), (1, .ref q1), (0, .ref b)]) hx hb d_Law_law_653 hl (k := 2) rfl rfl (by decide) rfl (fun ls hl => ?_)
          refine lv_goto (tgt := 43) hx hb d_Law_law_656 (by decide) ?_
          refine lv_iload hx hb d_Law_law_43 (lv_at hl 0 rfl) ?_
          refine lv_aload_n hx hb d_Law_law_45 rfl (lv_at hl 6 rfl) ?_
          refine va_slen hx hb hX hbl hbA hS d_Law_law_46 ?_
          refine lv_iconst (v := 4) hx hb d_Law_law_47 (by decide) ?_
          refine lv_isub hx hb d_Law_law_48 ?_
          refine lv_icmp_gt (tgt := 659) hx hb d_Law_law_49 (by decide) (fun c49 => ?_) (fun c49 => ?_)
          · refine lv_iconst (v := 1) hx hb d_Law_law_659 (by decide) ?_
            refine va_forget (fun q hq => by have h9 := hS.2.2 q hq; rw [← eG]; exact h9) ?_
            refine W.widen (k := 600002) (n := 7302198) (Nat.le_of_ble_eq_true rfl) (Nat.le_of_ble_eq_true rfl) ?_
            exact lw_ret hx hb hr hlocks d_Law_law_660
          · exact absurd (by decide) c49
        · exact absurd c212 (by decide)
      · exact absurd rfl c205
    · refine lv_tableIn (tgt := 230) hx hb d_Law_law_59 (by rw [h9]; decide) (by rw [h9]; decide) (by rw [h9]; rfl) (by decide) ?_
      refine lv_aload_n hx hb d_Law_law_230 rfl (lv_at hl 3 rfl) ?_
      refine lv_aload_n hx hb d_Law_law_231 rfl (lv_at hl 4 rfl) ?_
      refine lv_iload hx hb d_Law_law_232 (lv_at hl 0 rfl) ?_
      refine lv_iconst (v := 1) hx hb d_Law_law_234 (by decide) ?_
      refine lv_iadd hx hb d_Law_law_235 ?_
      refine va_sld hx hb hX hbl hbA hS (i := 2 + 1) (show ¬ ((2 + 1 : Int32) < 0 ∨ 6 ≤ (2 + 1 : Int32).toNatClampNeg) by decide) d_Law_law_236 ?_
      refine lv_aload_n hx hb d_Law_law_237 rfl (lv_at hl 4 rfl) ?_
      refine lv_iload hx hb d_Law_law_238 (lv_at hl 0 rfl) ?_
      refine lv_iconst (v := 2) hx hb d_Law_law_240 (by decide) ?_
      refine lv_iadd hx hb d_Law_law_241 ?_
      refine va_sld hx hb hX hbl hbA hS (i := 2 + 2) (show ¬ ((2 + 2 : Int32) < 0 ∨ 6 ≤ (2 + 2 : Int32).toNatClampNeg) by decide) d_Law_law_242 ?_
      refine lv_aload_n hx hb d_Law_law_243 rfl (lv_at hl 1 rfl) ?_
      refine gw_calli hS (gt_runSW (n := 4) (As := [.ref q1, .int (xs (2 + 1 : Int32).toNatClampNeg), .int (xs (2 + 2 : Int32).toNatClampNeg), .ref q35]) (rest := []) ⟨hx, hb, hml, hown, hts⟩ (h_make l hl9 G M37 q1 row9 jobs11 known12 nowh13 gone14 (if 1 < (if 255 < z4 then 255 else z4) then (if 255 < z4 then 255 else z4) else 1) sc15 (xs (2 + 1 : Int32).toNatClampNeg) (xs (2 + 2 : Int32).toNatClampNeg) q35 hf_q1 hf_jobs11 ) rfl rfl ⟨Nat.le_of_ble_eq_true rfl, Nat.le_of_ble_eq_true rfl⟩ (gw_gt mw273 mw274 mw234 mw272) (by decide +kernel) (gw_ps hE hB hS hW) rfl rfl hl.1 rfl (lv_room (Nat.le_of_ble_eq_true rfl)) d_Law_law_244 ⟨Nat.le_of_ble_eq_true rfl, Nat.le_of_ble_eq_true rfl⟩) (fun r64 M65 H locs hw66 hW hS => ?_)
      refine W.widen (k := 17) (n := 27582) (Nat.le_refl _) (Nat.le_refl _) ?_
      obtain ⟨rfl, rfl⟩ := hw66
      refine lv_istore (lv' := [(5, .int 1), (4, .int 2), (3, .ref q35), (2, .ref q17), (1, .ref q1), (0, .ref b)]) hx hb d_Law_law_247 hl (by decide) rfl (fun ls hl => ?_)
      refine lv_aload_n hx hb d_Law_law_249 rfl (lv_at hl 3 rfl) ?_
      refine lv_aload_n hx hb d_Law_law_250 rfl (lv_at hl 5 rfl) ?_
      refine lv_iload hx hb d_Law_law_251 (lv_at hl 1 rfl) ?_
      refine lv_iconst (v := 1) hx hb d_Law_law_253 (by decide) ?_
      refine lv_iadd hx hb d_Law_law_254 ?_
      refine va_sld hx hb hX hbl hbA hS (i := 2 + 1) (show ¬ ((2 + 1 : Int32) < 0 ∨ 6 ≤ (2 + 1 : Int32).toNatClampNeg) by decide) d_Law_law_255 ?_
      refine lv_aload_n hx hb d_Law_law_256 rfl (lv_at hl 5 rfl) ?_
      refine lv_iload hx hb d_Law_law_257 (lv_at hl 1 rfl) ?_
      refine lv_iconst (v := 2) hx hb d_Law_law_259 (by decide) ?_
      refine lv_iadd hx hb d_Law_law_260 ?_
      refine va_sld hx hb hX hbl hbA hS (i := 2 + 2) (show ¬ ((2 + 2 : Int32) < 0 ∨ 6 ≤ (2 + 2 : Int32).toNatClampNeg) by decide) d_Law_law_261 ?_
      refine gw_calli hS (va_runV (As := [.int (xs (2 + 1 : Int32).toNatClampNeg), .int (xs (2 + 2 : Int32).toNatClampNeg)]) (rest := []) ⟨hx, hb, hml, hown, hts⟩ (m_make l G M37 q17 there25 mrow26 found27 fsz28 ends29 made30 drops31 0 lm32 sm33 (xs (2 + 1 : Int32).toNatClampNeg) (xs (2 + 2 : Int32).toNatClampNeg) hf_q17 ) (cwV 2 hts (gw_gv mw276 mw277 mw278 mw169 mw275) rfl rfl rfl (by decide +kernel) ⟨Nat.le_of_ble_eq_true rfl, Nat.le_of_ble_eq_true rfl⟩) (gw_pv hE hB hS hW rfl hf_q17) rfl rfl hl.1 rfl (lv_room (Nat.le_of_ble_eq_true rfl)) d_Law_law_262 ⟨Nat.le_of_ble_eq_true rfl, Nat.le_of_ble_eq_true rfl⟩) (fun r67 M68 H locs hw69 hW hS => ?_)
      obtain ⟨rfl, hf_q17', hfr70⟩ := hw69
      have hf_there25 : M68 there25 = some (101, .inl (G.2.1 0, 10000, .inl (fun _ => 0))) := (hfr70 _ _ _ (by decide)).mp hf_there25
      have hf_mrow26 : M68 mrow26 = some (102, .inl (G.2.1 0, 300, .inl (fun _ => 0))) := (hfr70 _ _ _ (by decide)).mp hf_mrow26
      have hf_found27 : M68 found27 = some (103, .inl (G.2.1 0, 10240, .inl (fun _ => 0))) := (hfr70 _ _ _ (by decide)).mp hf_found27
      have hf_fsz28 : M68 fsz28 = some (104, .inl (G.2.1 0, 41, .inl (fun _ => 0))) := (hfr70 _ _ _ (by decide)).mp hf_fsz28
      have hf_ends29 : M68 ends29 = some (105, .inl (G.2.1 0, 41, .inl (fun _ => 0))) := (hfr70 _ _ _ (by decide)).mp hf_ends29
      have hf_made30 : M68 made30 = some (106, .inl (G.2.1 0, 4100, .inl (fun _ => 0))) := (hfr70 _ _ _ (by decide)).mp hf_made30
      have hf_drops31 : M68 drops31 = some (107, .inl (G.2.1 0, 2048, .inl (fun _ => 0))) := (hfr70 _ _ _ (by decide)).mp hf_drops31
      have hf_q1 : M68 q1 = some (1, .inr (0, [.int (if 1 < (if 255 < z4 then 255 else z4) then (if 255 < z4 then 255 else z4) else 1), .int sc15, .int 0, .ref row9, .ref jobs11, .ref known12, .ref nowh13, .ref gone14, .int 0])) := (hfr70 _ _ _ (by decide)).mp hf_q1
      have hf_row9 : M68 row9 = some (2, .inr (1, [.ref nums10, .int 0])) := (hfr70 _ _ _ (by decide)).mp hf_row9
      have hf_nums10 : M68 nums10 = some (3, .inl (G.2.1 0, 256, .inl (fun _ => 0))) := (hfr70 _ _ _ (by decide)).mp hf_nums10
      have hf_jobs11 : M68 jobs11 = some (4, .inr (4, [.int 0, .ref (G.2.2.1 0), .int 0])) := (hfr70 _ _ _ (by decide)).mp hf_jobs11
      have hf_known12 : M68 known12 = some (5, .inr (4, [.int 0, .ref (G.2.2.1 0), .int 0])) := (hfr70 _ _ _ (by decide)).mp hf_known12
      have hf_nowh13 : M68 nowh13 = some (12, .inr (2, [.int 0, .int 0, .int 0, .int 0, .int 0])) := (hfr70 _ _ _ (by decide)).mp hf_nowh13
      have hf_gone14 : M68 gone14 = some (8, .inl (G.2.1 0, 512, .inl (fun _ => 0))) := (hfr70 _ _ _ (by decide)).mp hf_gone14
      have hf_q35 : M68 q35 = some (50, .inl (G.2.1 2, 1, .inr (.inl (fun _ => 0)))) := (hfr70 _ _ _ (by decide)).mp hf_q35
      have hf_q17 : M68 q17 = some (100, .inr (5, [.int 1, .int lm32, .int sm33, .int 0, .ref there25, .ref mrow26, .int 0, .ref found27, .ref fsz28, .ref ends29, .ref made30, .int 0, .int 0, .ref drops31, .int 0])) := hf_q17'
      refine lv_istore (lv' := [(6, .int 0), (5, .int 1), (4, .int 2), (3, .ref q35), (2, .ref q17), (1, .ref q1), (0, .ref b)]) hx hb d_Law_law_265 hl (by decide) rfl (fun ls hl => ?_)
      refine lv_aload_n hx hb d_Law_law_267 rfl (lv_at hl 4 rfl) ?_
      refine gw_calli hS (va_runV (As := []) (rest := []) ⟨hx, hb, hml, hown, hts⟩ (m_thrown l G M68 q17 there25 mrow26 found27 fsz28 ends29 made30 drops31 1 lm32 sm33 hf_q17 ) (cwV 0 hts (gw_gv mw269 mw270 mw271 mw169 mw268) rfl rfl rfl (by decide +kernel) ⟨Nat.le_of_ble_eq_true rfl, Nat.le_of_ble_eq_true rfl⟩) (gw_pv hE hB hS hW rfl hf_q17) rfl rfl hl.1 rfl (lv_room (Nat.le_of_ble_eq_true rfl)) d_Law_law_268 ⟨Nat.le_of_ble_eq_true rfl, Nat.le_of_ble_eq_true rfl⟩) (fun r71 M72 H locs hw73 hW hS => ?_)
      obtain ⟨rfl, rfl⟩ := hw73
      refine lv_iload hx hb d_Law_law_271 (lv_at hl 1 rfl) ?_
      refine lv_icmp_eq (tgt := 278) hx hb d_Law_law_273 (by decide) (fun c273 => ?_) (fun c273 => ?_)
      · refine lv_iload hx hb d_Law_law_278 (lv_at hl 1 rfl) ?_
        refine lv_if_ne (tgt := 295) hx hb d_Law_law_280 (by decide) (fun c280 => ?_) (fun c280 => ?_)
        · refine lv_goto (tgt := 653) hx hb d_Law_law_295 (by decide) ?_
          refine lv_iinc (v := 2 + 4) (lv' := [(4, .int (2 + 4)), (6, .int 0), (5, .int 1), (3, .ref q35), (2, .ref q17), (1, .ref q1), (0, .ref b)]) hx hb d_Law_law_653 hl (k := 2) rfl rfl (by decide) rfl (fun ls hl => ?_)
          refine lv_goto (tgt := 43) hx hb d_Law_law_656 (by decide) ?_
          refine lv_iload hx hb d_Law_law_43 (lv_at hl 0 rfl) ?_
          refine lv_aload_n hx hb d_Law_law_45 rfl (lv_at hl 6 rfl) ?_
          refine va_slen hx hb hX hbl hbA hS d_Law_law_46 ?_
          refine lv_iconst (v := 4) hx hb d_Law_law_47 (by decide) ?_
          refine lv_isub hx hb d_Law_law_48 ?_
          refine lv_icmp_gt (tgt := 659) hx hb d_Law_law_49 (by decide) (fun c49 => ?_) (fun c49 => ?_)
          · refine lv_iconst (v := 1) hx hb d_Law_law_659 (by decide) ?_
            refine va_forget (fun q hq => by have h9 := hS.2.2 q hq; rw [← eG]; exact h9) ?_
            refine W.widen (k := 600002) (n := 7302198) (Nat.le_of_ble_eq_true rfl) (Nat.le_of_ble_eq_true rfl) ?_
            exact lw_ret hx hb hr hlocks d_Law_law_660
          · exact absurd (by decide) c49
        · exact absurd c280 (by decide)
      · exact absurd rfl c273
    · refine lv_tableIn (tgt := 298) hx hb d_Law_law_59 (by rw [h9]; decide) (by rw [h9]; decide) (by rw [h9]; rfl) (by decide) ?_
      refine lv_aload_n hx hb d_Law_law_298 rfl (lv_at hl 3 rfl) ?_
      refine lv_aload_n hx hb d_Law_law_299 rfl (lv_at hl 4 rfl) ?_
      refine lv_iload hx hb d_Law_law_300 (lv_at hl 0 rfl) ?_
      refine lv_iconst (v := 1) hx hb d_Law_law_302 (by decide) ?_
      refine lv_iadd hx hb d_Law_law_303 ?_
      refine va_sld hx hb hX hbl hbA hS (i := 2 + 1) (show ¬ ((2 + 1 : Int32) < 0 ∨ 6 ≤ (2 + 1 : Int32).toNatClampNeg) by decide) d_Law_law_304 ?_
      refine lv_aload_n hx hb d_Law_law_305 rfl (lv_at hl 4 rfl) ?_
      refine lv_iload hx hb d_Law_law_306 (lv_at hl 0 rfl) ?_
      refine lv_iconst (v := 2) hx hb d_Law_law_308 (by decide) ?_
      refine lv_iadd hx hb d_Law_law_309 ?_
      refine va_sld hx hb hX hbl hbA hS (i := 2 + 2) (show ¬ ((2 + 2 : Int32) < 0 ∨ 6 ≤ (2 + 2 : Int32).toNatClampNeg) by decide) d_Law_law_310 ?_
      refine lv_aload_n hx hb d_Law_law_311 rfl (lv_at hl 4 rfl) ?_
      refine lv_iload hx hb d_Law_law_312 (lv_at hl 0 rfl) ?_
      refine lv_iconst (v := 3) hx hb d_Law_law_314 (by decide) ?_
      refine lv_iadd hx hb d_Law_law_315 ?_
      refine va_sld hx hb hX hbl hbA hS (i := 2 + 3) (show ¬ ((2 + 3 : Int32) < 0 ∨ 6 ≤ (2 + 3 : Int32).toNatClampNeg) by decide) d_Law_law_316 ?_
      refine lv_if_eq (tgt := 324) hx hb d_Law_law_317 (by decide) (fun c317 => ?_) (fun c317 => ?_)
      · refine lv_iconst (v := 0) hx hb d_Law_law_324 (by decide) ?_
        refine lv_aload_n hx hb d_Law_law_325 rfl (lv_at hl 1 rfl) ?_
        refine gw_calli hS (gt_runSW (n := 5) (As := [.ref q1, .int (xs (2 + 1 : Int32).toNatClampNeg), .int (xs (2 + 2 : Int32).toNatClampNeg), .int 0, .ref q35]) (rest := []) ⟨hx, hb, hml, hown, hts⟩ (h_end l hl9 G M37 q1 row9 jobs11 known12 nowh13 gone14 (if 1 < (if 255 < z4 then 255 else z4) then (if 255 < z4 then 255 else z4) else 1) sc15 (xs (2 + 1 : Int32).toNatClampNeg) (xs (2 + 2 : Int32).toNatClampNeg) 0 q35 hf_q1 hf_jobs11 ) rfl rfl ⟨Nat.le_of_ble_eq_true rfl, Nat.le_of_ble_eq_true rfl⟩ (gw_gt mw280 mw281 mw234 mw279) (by decide +kernel) (gw_ps hE hB hS hW) rfl rfl hl.1 rfl (lv_room (Nat.le_of_ble_eq_true rfl)) d_Law_law_326 ⟨Nat.le_of_ble_eq_true rfl, Nat.le_of_ble_eq_true rfl⟩) (fun r74 M75 H locs hw76 hW hS => ?_)
        refine W.widen (k := 17) (n := 27582) (Nat.le_refl _) (Nat.le_refl _) ?_
        obtain ⟨rfl, rfl⟩ := hw76
        refine lv_istore (lv' := [(5, .int 1), (4, .int 2), (3, .ref q35), (2, .ref q17), (1, .ref q1), (0, .ref b)]) hx hb d_Law_law_329 hl (by decide) rfl (fun ls hl => ?_)
        refine lv_aload_n hx hb d_Law_law_331 rfl (lv_at hl 3 rfl) ?_
        refine lv_aload_n hx hb d_Law_law_332 rfl (lv_at hl 5 rfl) ?_
        refine lv_iload hx hb d_Law_law_333 (lv_at hl 1 rfl) ?_
        refine lv_iconst (v := 1) hx hb d_Law_law_335 (by decide) ?_
        refine lv_iadd hx hb d_Law_law_336 ?_
        refine va_sld hx hb hX hbl hbA hS (i := 2 + 1) (show ¬ ((2 + 1 : Int32) < 0 ∨ 6 ≤ (2 + 1 : Int32).toNatClampNeg) by decide) d_Law_law_337 ?_
        refine lv_aload_n hx hb d_Law_law_338 rfl (lv_at hl 5 rfl) ?_
        refine lv_iload hx hb d_Law_law_339 (lv_at hl 1 rfl) ?_
        refine lv_iconst (v := 2) hx hb d_Law_law_341 (by decide) ?_
        refine lv_iadd hx hb d_Law_law_342 ?_
        refine va_sld hx hb hX hbl hbA hS (i := 2 + 2) (show ¬ ((2 + 2 : Int32) < 0 ∨ 6 ≤ (2 + 2 : Int32).toNatClampNeg) by decide) d_Law_law_343 ?_
        refine lv_aload_n hx hb d_Law_law_344 rfl (lv_at hl 5 rfl) ?_
        refine lv_iload hx hb d_Law_law_345 (lv_at hl 1 rfl) ?_
        refine lv_iconst (v := 3) hx hb d_Law_law_347 (by decide) ?_
        refine lv_iadd hx hb d_Law_law_348 ?_
        refine va_sld hx hb hX hbl hbA hS (i := 2 + 3) (show ¬ ((2 + 3 : Int32) < 0 ∨ 6 ≤ (2 + 3 : Int32).toNatClampNeg) by decide) d_Law_law_349 ?_
        refine lv_if_eq (tgt := 357) hx hb d_Law_law_350 (by decide) (fun c350 => ?_) (fun c350 => ?_)
        · refine lv_iconst (v := 0) hx hb d_Law_law_357 (by decide) ?_
          refine gw_calli hS (va_runV (As := [.int (xs (2 + 1 : Int32).toNatClampNeg), .int (xs (2 + 2 : Int32).toNatClampNeg), .int 0]) (rest := []) ⟨hx, hb, hml, hown, hts⟩ (m_end l G M37 q17 there25 mrow26 found27 fsz28 ends29 made30 drops31 0 lm32 sm33 (xs (2 + 1 : Int32).toNatClampNeg) (xs (2 + 2 : Int32).toNatClampNeg) 0 hf_q17 ) (cwV 3 hts (gw_gv mw283 mw284 mw285 mw169 mw282) rfl rfl rfl (by decide +kernel) ⟨Nat.le_of_ble_eq_true rfl, Nat.le_of_ble_eq_true rfl⟩) (gw_pv hE hB hS hW rfl hf_q17) rfl rfl hl.1 rfl (lv_room (Nat.le_of_ble_eq_true rfl)) d_Law_law_358 ⟨Nat.le_of_ble_eq_true rfl, Nat.le_of_ble_eq_true rfl⟩) (fun r77 M78 H locs hw79 hW hS => ?_)
          obtain ⟨rfl, hf_q17', hfr80⟩ := hw79
          have hf_there25 : M78 there25 = some (101, .inl (G.2.1 0, 10000, .inl (fun _ => 0))) := (hfr80 _ _ _ (by decide)).mp hf_there25
          have hf_mrow26 : M78 mrow26 = some (102, .inl (G.2.1 0, 300, .inl (fun _ => 0))) := (hfr80 _ _ _ (by decide)).mp hf_mrow26
          have hf_found27 : M78 found27 = some (103, .inl (G.2.1 0, 10240, .inl (fun _ => 0))) := (hfr80 _ _ _ (by decide)).mp hf_found27
          have hf_fsz28 : M78 fsz28 = some (104, .inl (G.2.1 0, 41, .inl (fun _ => 0))) := (hfr80 _ _ _ (by decide)).mp hf_fsz28
          have hf_ends29 : M78 ends29 = some (105, .inl (G.2.1 0, 41, .inl (fun _ => 0))) := (hfr80 _ _ _ (by decide)).mp hf_ends29
          have hf_made30 : M78 made30 = some (106, .inl (G.2.1 0, 4100, .inl (fun _ => 0))) := (hfr80 _ _ _ (by decide)).mp hf_made30
          have hf_drops31 : M78 drops31 = some (107, .inl (G.2.1 0, 2048, .inl (fun _ => 0))) := (hfr80 _ _ _ (by decide)).mp hf_drops31
          have hf_q1 : M78 q1 = some (1, .inr (0, [.int (if 1 < (if 255 < z4 then 255 else z4) then (if 255 < z4 then 255 else z4) else 1), .int sc15, .int 0, .ref row9, .ref jobs11, .ref known12, .ref nowh13, .ref gone14, .int 0])) := (hfr80 _ _ _ (by decide)).mp hf_q1
          have hf_row9 : M78 row9 = some (2, .inr (1, [.ref nums10, .int 0])) := (hfr80 _ _ _ (by decide)).mp hf_row9
          have hf_nums10 : M78 nums10 = some (3, .inl (G.2.1 0, 256, .inl (fun _ => 0))) := (hfr80 _ _ _ (by decide)).mp hf_nums10
          have hf_jobs11 : M78 jobs11 = some (4, .inr (4, [.int 0, .ref (G.2.2.1 0), .int 0])) := (hfr80 _ _ _ (by decide)).mp hf_jobs11
          have hf_known12 : M78 known12 = some (5, .inr (4, [.int 0, .ref (G.2.2.1 0), .int 0])) := (hfr80 _ _ _ (by decide)).mp hf_known12
          have hf_nowh13 : M78 nowh13 = some (12, .inr (2, [.int 0, .int 0, .int 0, .int 0, .int 0])) := (hfr80 _ _ _ (by decide)).mp hf_nowh13
          have hf_gone14 : M78 gone14 = some (8, .inl (G.2.1 0, 512, .inl (fun _ => 0))) := (hfr80 _ _ _ (by decide)).mp hf_gone14
          have hf_q35 : M78 q35 = some (50, .inl (G.2.1 2, 1, .inr (.inl (fun _ => 0)))) := (hfr80 _ _ _ (by decide)).mp hf_q35
          have hf_q17 : M78 q17 = some (100, .inr (5, [.int 1, .int lm32, .int sm33, .int 0, .ref there25, .ref mrow26, .int 0, .ref found27, .ref fsz28, .ref ends29, .ref made30, .int 0, .int 0, .ref drops31, .int 0])) := hf_q17'
          refine lv_istore (lv' := [(6, .int 0), (5, .int 1), (4, .int 2), (3, .ref q35), (2, .ref q17), (1, .ref q1), (0, .ref b)]) hx hb d_Law_law_361 hl (by decide) rfl (fun ls hl => ?_)
          refine lv_aload_n hx hb d_Law_law_363 rfl (lv_at hl 4 rfl) ?_
          refine gw_calli hS (va_runV (As := []) (rest := []) ⟨hx, hb, hml, hown, hts⟩ (m_thrown l G M78 q17 there25 mrow26 found27 fsz28 ends29 made30 drops31 1 lm32 sm33 hf_q17 ) (cwV 0 hts (gw_gv mw269 mw270 mw271 mw169 mw268) rfl rfl rfl (by decide +kernel) ⟨Nat.le_of_ble_eq_true rfl, Nat.le_of_ble_eq_true rfl⟩) (gw_pv hE hB hS hW rfl hf_q17) rfl rfl hl.1 rfl (lv_room (Nat.le_of_ble_eq_true rfl)) d_Law_law_364 ⟨Nat.le_of_ble_eq_true rfl, Nat.le_of_ble_eq_true rfl⟩) (fun r81 M82 H locs hw83 hW hS => ?_)
          obtain ⟨rfl, rfl⟩ := hw83
          refine lv_iload hx hb d_Law_law_367 (lv_at hl 1 rfl) ?_
          refine lv_icmp_eq (tgt := 374) hx hb d_Law_law_369 (by decide) (fun c369 => ?_) (fun c369 => ?_)
          · refine lv_iload hx hb d_Law_law_374 (lv_at hl 1 rfl) ?_
            refine lv_if_ne (tgt := 391) hx hb d_Law_law_376 (by decide) (fun c376 => ?_) (fun c376 => ?_)
            · refine lv_goto (tgt := 653) hx hb d_Law_law_391 (by decide) ?_
              refine lv_iinc (v := 2 + 4) (lv' := [(4, .int (2 + 4)), (6, .int 0), (5, .int 1), (3, .ref q35), (2, .ref q17), (1, .ref q1), (0, .ref b)]) hx hb d_Law_law_653 hl (k := 2) rfl rfl (by decide) rfl (fun ls hl => ?_)
              refine lv_goto (tgt := 43) hx hb d_Law_law_656 (by decide) ?_
              refine lv_iload hx hb d_Law_law_43 (lv_at hl 0 rfl) ?_
              refine lv_aload_n hx hb d_Law_law_45 rfl (lv_at hl 6 rfl) ?_
              refine va_slen hx hb hX hbl hbA hS d_Law_law_46 ?_
              refine lv_iconst (v := 4) hx hb d_Law_law_47 (by decide) ?_
              refine lv_isub hx hb d_Law_law_48 ?_
              refine lv_icmp_gt (tgt := 659) hx hb d_Law_law_49 (by decide) (fun c49 => ?_) (fun c49 => ?_)
              · refine lv_iconst (v := 1) hx hb d_Law_law_659 (by decide) ?_
                refine va_forget (fun q hq => by have h9 := hS.2.2 q hq; rw [← eG]; exact h9) ?_
                refine W.widen (k := 600002) (n := 7302198) (Nat.le_of_ble_eq_true rfl) (Nat.le_of_ble_eq_true rfl) ?_
                exact lw_ret hx hb hr hlocks d_Law_law_660
              · exact absurd (by decide) c49
            · exact absurd c376 (by decide)
          · exact absurd rfl c369
        · refine lv_iconst (v := 1) hx hb d_Law_law_353 (by decide) ?_
          refine lv_goto (tgt := 358) hx hb d_Law_law_354 (by decide) ?_
          refine gw_calli hS (va_runV (As := [.int (xs (2 + 1 : Int32).toNatClampNeg), .int (xs (2 + 2 : Int32).toNatClampNeg), .int 1]) (rest := []) ⟨hx, hb, hml, hown, hts⟩ (m_end l G M37 q17 there25 mrow26 found27 fsz28 ends29 made30 drops31 0 lm32 sm33 (xs (2 + 1 : Int32).toNatClampNeg) (xs (2 + 2 : Int32).toNatClampNeg) 1 hf_q17 ) (cwV 3 hts (gw_gv mw283 mw284 mw285 mw169 mw282) rfl rfl rfl (by decide +kernel) ⟨Nat.le_of_ble_eq_true rfl, Nat.le_of_ble_eq_true rfl⟩) (gw_pv hE hB hS hW rfl hf_q17) rfl rfl hl.1 rfl (lv_room (Nat.le_of_ble_eq_true rfl)) d_Law_law_358 ⟨Nat.le_of_ble_eq_true rfl, Nat.le_of_ble_eq_true rfl⟩) (fun r84 M85 H locs hw86 hW hS => ?_)
          obtain ⟨rfl, hf_q17', hfr87⟩ := hw86
          have hf_there25 : M85 there25 = some (101, .inl (G.2.1 0, 10000, .inl (fun _ => 0))) := (hfr87 _ _ _ (by decide)).mp hf_there25
          have hf_mrow26 : M85 mrow26 = some (102, .inl (G.2.1 0, 300, .inl (fun _ => 0))) := (hfr87 _ _ _ (by decide)).mp hf_mrow26
          have hf_found27 : M85 found27 = some (103, .inl (G.2.1 0, 10240, .inl (fun _ => 0))) := (hfr87 _ _ _ (by decide)).mp hf_found27
          have hf_fsz28 : M85 fsz28 = some (104, .inl (G.2.1 0, 41, .inl (fun _ => 0))) := (hfr87 _ _ _ (by decide)).mp hf_fsz28
          have hf_ends29 : M85 ends29 = some (105, .inl (G.2.1 0, 41, .inl (fun _ => 0))) := (hfr87 _ _ _ (by decide)).mp hf_ends29
          have hf_made30 : M85 made30 = some (106, .inl (G.2.1 0, 4100, .inl (fun _ => 0))) := (hfr87 _ _ _ (by decide)).mp hf_made30
          have hf_drops31 : M85 drops31 = some (107, .inl (G.2.1 0, 2048, .inl (fun _ => 0))) := (hfr87 _ _ _ (by decide)).mp hf_drops31
          have hf_q1 : M85 q1 = some (1, .inr (0, [.int (if 1 < (if 255 < z4 then 255 else z4) then (if 255 < z4 then 255 else z4) else 1), .int sc15, .int 0, .ref row9, .ref jobs11, .ref known12, .ref nowh13, .ref gone14, .int 0])) := (hfr87 _ _ _ (by decide)).mp hf_q1
          have hf_row9 : M85 row9 = some (2, .inr (1, [.ref nums10, .int 0])) := (hfr87 _ _ _ (by decide)).mp hf_row9
          have hf_nums10 : M85 nums10 = some (3, .inl (G.2.1 0, 256, .inl (fun _ => 0))) := (hfr87 _ _ _ (by decide)).mp hf_nums10
          have hf_jobs11 : M85 jobs11 = some (4, .inr (4, [.int 0, .ref (G.2.2.1 0), .int 0])) := (hfr87 _ _ _ (by decide)).mp hf_jobs11
          have hf_known12 : M85 known12 = some (5, .inr (4, [.int 0, .ref (G.2.2.1 0), .int 0])) := (hfr87 _ _ _ (by decide)).mp hf_known12
          have hf_nowh13 : M85 nowh13 = some (12, .inr (2, [.int 0, .int 0, .int 0, .int 0, .int 0])) := (hfr87 _ _ _ (by decide)).mp hf_nowh13
          have hf_gone14 : M85 gone14 = some (8, .inl (G.2.1 0, 512, .inl (fun _ => 0))) := (hfr87 _ _ _ (by decide)).mp hf_gone14
          have hf_q35 : M85 q35 = some (50, .inl (G.2.1 2, 1, .inr (.inl (fun _ => 0)))) := (hfr87 _ _ _ (by decide)).mp hf_q35
          have hf_q17 : M85 q17 = some (100, .inr (5, [.int 1, .int lm32, .int sm33, .int 0, .ref there25, .ref mrow26, .int 0, .ref found27, .ref fsz28, .ref ends29, .ref made30, .int 0, .int 0, .ref drops31, .int 0])) := hf_q17'
          refine lv_istore (lv' := [(6, .int 0), (5, .int 1), (4, .int 2), (3, .ref q35), (2, .ref q17), (1, .ref q1), (0, .ref b)]) hx hb d_Law_law_361 hl (by decide) rfl (fun ls hl => ?_)
          refine lv_aload_n hx hb d_Law_law_363 rfl (lv_at hl 4 rfl) ?_
          refine gw_calli hS (va_runV (As := []) (rest := []) ⟨hx, hb, hml, hown, hts⟩ (m_thrown l G M85 q17 there25 mrow26 found27 fsz28 ends29 made30 drops31 1 lm32 sm33 hf_q17 ) (cwV 0 hts (gw_gv mw269 mw270 mw271 mw169 mw268) rfl rfl rfl (by decide +kernel) ⟨Nat.le_of_ble_eq_true rfl, Nat.le_of_ble_eq_true rfl⟩) (gw_pv hE hB hS hW rfl hf_q17) rfl rfl hl.1 rfl (lv_room (Nat.le_of_ble_eq_true rfl)) d_Law_law_364 ⟨Nat.le_of_ble_eq_true rfl, Nat.le_of_ble_eq_true rfl⟩) (fun r88 M89 H locs hw90 hW hS => ?_)
          obtain ⟨rfl, rfl⟩ := hw90
          refine lv_iload hx hb d_Law_law_367 (lv_at hl 1 rfl) ?_
          refine lv_icmp_eq (tgt := 374) hx hb d_Law_law_369 (by decide) (fun c369 => ?_) (fun c369 => ?_)
          · refine lv_iload hx hb d_Law_law_374 (lv_at hl 1 rfl) ?_
            refine lv_if_ne (tgt := 391) hx hb d_Law_law_376 (by decide) (fun c376 => ?_) (fun c376 => ?_)
            · refine lv_goto (tgt := 653) hx hb d_Law_law_391 (by decide) ?_
              refine lv_iinc (v := 2 + 4) (lv' := [(4, .int (2 + 4)), (6, .int 0), (5, .int 1), (3, .ref q35), (2, .ref q17), (1, .ref q1), (0, .ref b)]) hx hb d_Law_law_653 hl (k := 2) rfl rfl (by decide) rfl (fun ls hl => ?_)
              refine lv_goto (tgt := 43) hx hb d_Law_law_656 (by decide) ?_
              refine lv_iload hx hb d_Law_law_43 (lv_at hl 0 rfl) ?_
              refine lv_aload_n hx hb d_Law_law_45 rfl (lv_at hl 6 rfl) ?_
              refine va_slen hx hb hX hbl hbA hS d_Law_law_46 ?_
              refine lv_iconst (v := 4) hx hb d_Law_law_47 (by decide) ?_
              refine lv_isub hx hb d_Law_law_48 ?_
              refine lv_icmp_gt (tgt := 659) hx hb d_Law_law_49 (by decide) (fun c49 => ?_) (fun c49 => ?_)
              · refine lv_iconst (v := 1) hx hb d_Law_law_659 (by decide) ?_
                refine va_forget (fun q hq => by have h9 := hS.2.2 q hq; rw [← eG]; exact h9) ?_
                refine W.widen (k := 600002) (n := 7302198) (Nat.le_of_ble_eq_true rfl) (Nat.le_of_ble_eq_true rfl) ?_
                exact lw_ret hx hb hr hlocks d_Law_law_660
              · exact absurd (by decide) c49
            · exact absurd c376 (by decide)
          · exact absurd rfl c369
      · refine lv_iconst (v := 1) hx hb d_Law_law_320 (by decide) ?_
        refine lv_goto (tgt := 325) hx hb d_Law_law_321 (by decide) ?_
        refine lv_aload_n hx hb d_Law_law_325 rfl (lv_at hl 1 rfl) ?_
        refine gw_calli hS (gt_runSW (n := 5) (As := [.ref q1, .int (xs (2 + 1 : Int32).toNatClampNeg), .int (xs (2 + 2 : Int32).toNatClampNeg), .int 1, .ref q35]) (rest := []) ⟨hx, hb, hml, hown, hts⟩ (h_end l hl9 G M37 q1 row9 jobs11 known12 nowh13 gone14 (if 1 < (if 255 < z4 then 255 else z4) then (if 255 < z4 then 255 else z4) else 1) sc15 (xs (2 + 1 : Int32).toNatClampNeg) (xs (2 + 2 : Int32).toNatClampNeg) 1 q35 hf_q1 hf_jobs11 ) rfl rfl ⟨Nat.le_of_ble_eq_true rfl, Nat.le_of_ble_eq_true rfl⟩ (gw_gt mw280 mw281 mw234 mw279) (by decide +kernel) (gw_ps hE hB hS hW) rfl rfl hl.1 rfl (lv_room (Nat.le_of_ble_eq_true rfl)) d_Law_law_326 ⟨Nat.le_of_ble_eq_true rfl, Nat.le_of_ble_eq_true rfl⟩) (fun r91 M92 H locs hw93 hW hS => ?_)
        refine W.widen (k := 17) (n := 27582) (Nat.le_refl _) (Nat.le_refl _) ?_
        obtain ⟨rfl, rfl⟩ := hw93
        refine lv_istore (lv' := [(5, .int 1), (4, .int 2), (3, .ref q35), (2, .ref q17), (1, .ref q1), (0, .ref b)]) hx hb d_Law_law_329 hl (by decide) rfl (fun ls hl => ?_)
        refine lv_aload_n hx hb d_Law_law_331 rfl (lv_at hl 3 rfl) ?_
        refine lv_aload_n hx hb d_Law_law_332 rfl (lv_at hl 5 rfl) ?_
        refine lv_iload hx hb d_Law_law_333 (lv_at hl 1 rfl) ?_
        refine lv_iconst (v := 1) hx hb d_Law_law_335 (by decide) ?_
        refine lv_iadd hx hb d_Law_law_336 ?_
        refine va_sld hx hb hX hbl hbA hS (i := 2 + 1) (show ¬ ((2 + 1 : Int32) < 0 ∨ 6 ≤ (2 + 1 : Int32).toNatClampNeg) by decide) d_Law_law_337 ?_
        refine lv_aload_n hx hb d_Law_law_338 rfl (lv_at hl 5 rfl) ?_
        refine lv_iload hx hb d_Law_law_339 (lv_at hl 1 rfl) ?_
        refine lv_iconst (v := 2) hx hb d_Law_law_341 (by decide) ?_
        refine lv_iadd hx hb d_Law_law_342 ?_
        refine va_sld hx hb hX hbl hbA hS (i := 2 + 2) (show ¬ ((2 + 2 : Int32) < 0 ∨ 6 ≤ (2 + 2 : Int32).toNatClampNeg) by decide) d_Law_law_343 ?_
        refine lv_aload_n hx hb d_Law_law_344 rfl (lv_at hl 5 rfl) ?_
        refine lv_iload hx hb d_Law_law_345 (lv_at hl 1 rfl) ?_
        refine lv_iconst (v := 3) hx hb d_Law_law_347 (by decide) ?_
        refine lv_iadd hx hb d_Law_law_348 ?_
        refine va_sld hx hb hX hbl hbA hS (i := 2 + 3) (show ¬ ((2 + 3 : Int32) < 0 ∨ 6 ≤ (2 + 3 : Int32).toNatClampNeg) by decide) d_Law_law_349 ?_
        refine lv_if_eq (tgt := 357) hx hb d_Law_law_350 (by decide) (fun c350 => ?_) (fun c350 => ?_)
        · refine lv_iconst (v := 0) hx hb d_Law_law_357 (by decide) ?_
          refine gw_calli hS (va_runV (As := [.int (xs (2 + 1 : Int32).toNatClampNeg), .int (xs (2 + 2 : Int32).toNatClampNeg), .int 0]) (rest := []) ⟨hx, hb, hml, hown, hts⟩ (m_end l G M37 q17 there25 mrow26 found27 fsz28 ends29 made30 drops31 0 lm32 sm33 (xs (2 + 1 : Int32).toNatClampNeg) (xs (2 + 2 : Int32).toNatClampNeg) 0 hf_q17 ) (cwV 3 hts (gw_gv mw283 mw284 mw285 mw169 mw282) rfl rfl rfl (by decide +kernel) ⟨Nat.le_of_ble_eq_true rfl, Nat.le_of_ble_eq_true rfl⟩) (gw_pv hE hB hS hW rfl hf_q17) rfl rfl hl.1 rfl (lv_room (Nat.le_of_ble_eq_true rfl)) d_Law_law_358 ⟨Nat.le_of_ble_eq_true rfl, Nat.le_of_ble_eq_true rfl⟩) (fun r94 M95 H locs hw96 hW hS => ?_)
          obtain ⟨rfl, hf_q17', hfr97⟩ := hw96
          have hf_there25 : M95 there25 = some (101, .inl (G.2.1 0, 10000, .inl (fun _ => 0))) := (hfr97 _ _ _ (by decide)).mp hf_there25
          have hf_mrow26 : M95 mrow26 = some (102, .inl (G.2.1 0, 300, .inl (fun _ => 0))) := (hfr97 _ _ _ (by decide)).mp hf_mrow26
          have hf_found27 : M95 found27 = some (103, .inl (G.2.1 0, 10240, .inl (fun _ => 0))) := (hfr97 _ _ _ (by decide)).mp hf_found27
          have hf_fsz28 : M95 fsz28 = some (104, .inl (G.2.1 0, 41, .inl (fun _ => 0))) := (hfr97 _ _ _ (by decide)).mp hf_fsz28
          have hf_ends29 : M95 ends29 = some (105, .inl (G.2.1 0, 41, .inl (fun _ => 0))) := (hfr97 _ _ _ (by decide)).mp hf_ends29
          have hf_made30 : M95 made30 = some (106, .inl (G.2.1 0, 4100, .inl (fun _ => 0))) := (hfr97 _ _ _ (by decide)).mp hf_made30
          have hf_drops31 : M95 drops31 = some (107, .inl (G.2.1 0, 2048, .inl (fun _ => 0))) := (hfr97 _ _ _ (by decide)).mp hf_drops31
          have hf_q1 : M95 q1 = some (1, .inr (0, [.int (if 1 < (if 255 < z4 then 255 else z4) then (if 255 < z4 then 255 else z4) else 1), .int sc15, .int 0, .ref row9, .ref jobs11, .ref known12, .ref nowh13, .ref gone14, .int 0])) := (hfr97 _ _ _ (by decide)).mp hf_q1
          have hf_row9 : M95 row9 = some (2, .inr (1, [.ref nums10, .int 0])) := (hfr97 _ _ _ (by decide)).mp hf_row9
          have hf_nums10 : M95 nums10 = some (3, .inl (G.2.1 0, 256, .inl (fun _ => 0))) := (hfr97 _ _ _ (by decide)).mp hf_nums10
          have hf_jobs11 : M95 jobs11 = some (4, .inr (4, [.int 0, .ref (G.2.2.1 0), .int 0])) := (hfr97 _ _ _ (by decide)).mp hf_jobs11
          have hf_known12 : M95 known12 = some (5, .inr (4, [.int 0, .ref (G.2.2.1 0), .int 0])) := (hfr97 _ _ _ (by decide)).mp hf_known12
          have hf_nowh13 : M95 nowh13 = some (12, .inr (2, [.int 0, .int 0, .int 0, .int 0, .int 0])) := (hfr97 _ _ _ (by decide)).mp hf_nowh13
          have hf_gone14 : M95 gone14 = some (8, .inl (G.2.1 0, 512, .inl (fun _ => 0))) := (hfr97 _ _ _ (by decide)).mp hf_gone14
          have hf_q35 : M95 q35 = some (50, .inl (G.2.1 2, 1, .inr (.inl (fun _ => 0)))) := (hfr97 _ _ _ (by decide)).mp hf_q35
          have hf_q17 : M95 q17 = some (100, .inr (5, [.int 1, .int lm32, .int sm33, .int 0, .ref there25, .ref mrow26, .int 0, .ref found27, .ref fsz28, .ref ends29, .ref made30, .int 0, .int 0, .ref drops31, .int 0])) := hf_q17'
          refine lv_istore (lv' := [(6, .int 0), (5, .int 1), (4, .int 2), (3, .ref q35), (2, .ref q17), (1, .ref q1), (0, .ref b)]) hx hb d_Law_law_361 hl (by decide) rfl (fun ls hl => ?_)
          refine lv_aload_n hx hb d_Law_law_363 rfl (lv_at hl 4 rfl) ?_
          refine gw_calli hS (va_runV (As := []) (rest := []) ⟨hx, hb, hml, hown, hts⟩ (m_thrown l G M95 q17 there25 mrow26 found27 fsz28 ends29 made30 drops31 1 lm32 sm33 hf_q17 ) (cwV 0 hts (gw_gv mw269 mw270 mw271 mw169 mw268) rfl rfl rfl (by decide +kernel) ⟨Nat.le_of_ble_eq_true rfl, Nat.le_of_ble_eq_true rfl⟩) (gw_pv hE hB hS hW rfl hf_q17) rfl rfl hl.1 rfl (lv_room (Nat.le_of_ble_eq_true rfl)) d_Law_law_364 ⟨Nat.le_of_ble_eq_true rfl, Nat.le_of_ble_eq_true rfl⟩) (fun r98 M99 H locs hw100 hW hS => ?_)
          obtain ⟨rfl, rfl⟩ := hw100
          refine lv_iload hx hb d_Law_law_367 (lv_at hl 1 rfl) ?_
          refine lv_icmp_eq (tgt := 374) hx hb d_Law_law_369 (by decide) (fun c369 => ?_) (fun c369 => ?_)
          · refine lv_iload hx hb d_Law_law_374 (lv_at hl 1 rfl) ?_
            refine lv_if_ne (tgt := 391) hx hb d_Law_law_376 (by decide) (fun c376 => ?_) (fun c376 => ?_)
            · refine lv_goto (tgt := 653) hx hb d_Law_law_391 (by decide) ?_
              refine lv_iinc (v := 2 + 4) (lv' := [(4, .int (2 + 4)), (6, .int 0), (5, .int 1), (3, .ref q35), (2, .ref q17), (1, .ref q1), (0, .ref b)]) hx hb d_Law_law_653 hl (k := 2) rfl rfl (by decide) rfl (fun ls hl => ?_)
              refine lv_goto (tgt := 43) hx hb d_Law_law_656 (by decide) ?_
              refine lv_iload hx hb d_Law_law_43 (lv_at hl 0 rfl) ?_
              refine lv_aload_n hx hb d_Law_law_45 rfl (lv_at hl 6 rfl) ?_
              refine va_slen hx hb hX hbl hbA hS d_Law_law_46 ?_
              refine lv_iconst (v := 4) hx hb d_Law_law_47 (by decide) ?_
              refine lv_isub hx hb d_Law_law_48 ?_
              refine lv_icmp_gt (tgt := 659) hx hb d_Law_law_49 (by decide) (fun c49 => ?_) (fun c49 => ?_)
              · refine lv_iconst (v := 1) hx hb d_Law_law_659 (by decide) ?_
                refine va_forget (fun q hq => by have h9 := hS.2.2 q hq; rw [← eG]; exact h9) ?_
                refine W.widen (k := 600002) (n := 7302198) (Nat.le_of_ble_eq_true rfl) (Nat.le_of_ble_eq_true rfl) ?_
                exact lw_ret hx hb hr hlocks d_Law_law_660
              · exact absurd (by decide) c49
            · exact absurd c376 (by decide)
          · exact absurd rfl c369
        · refine lv_iconst (v := 1) hx hb d_Law_law_353 (by decide) ?_
          refine lv_goto (tgt := 358) hx hb d_Law_law_354 (by decide) ?_
          refine gw_calli hS (va_runV (As := [.int (xs (2 + 1 : Int32).toNatClampNeg), .int (xs (2 + 2 : Int32).toNatClampNeg), .int 1]) (rest := []) ⟨hx, hb, hml, hown, hts⟩ (m_end l G M37 q17 there25 mrow26 found27 fsz28 ends29 made30 drops31 0 lm32 sm33 (xs (2 + 1 : Int32).toNatClampNeg) (xs (2 + 2 : Int32).toNatClampNeg) 1 hf_q17 ) (cwV 3 hts (gw_gv mw283 mw284 mw285 mw169 mw282) rfl rfl rfl (by decide +kernel) ⟨Nat.le_of_ble_eq_true rfl, Nat.le_of_ble_eq_true rfl⟩) (gw_pv hE hB hS hW rfl hf_q17) rfl rfl hl.1 rfl (lv_room (Nat.le_of_ble_eq_true rfl)) d_Law_law_358 ⟨Nat.le_of_ble_eq_true rfl, Nat.le_of_ble_eq_true rfl⟩) (fun r101 M102 H locs hw103 hW hS => ?_)
          obtain ⟨rfl, hf_q17', hfr104⟩ := hw103
          have hf_there25 : M102 there25 = some (101, .inl (G.2.1 0, 10000, .inl (fun _ => 0))) := (hfr104 _ _ _ (by decide)).mp hf_there25
          have hf_mrow26 : M102 mrow26 = some (102, .inl (G.2.1 0, 300, .inl (fun _ => 0))) := (hfr104 _ _ _ (by decide)).mp hf_mrow26
          have hf_found27 : M102 found27 = some (103, .inl (G.2.1 0, 10240, .inl (fun _ => 0))) := (hfr104 _ _ _ (by decide)).mp hf_found27
          have hf_fsz28 : M102 fsz28 = some (104, .inl (G.2.1 0, 41, .inl (fun _ => 0))) := (hfr104 _ _ _ (by decide)).mp hf_fsz28
          have hf_ends29 : M102 ends29 = some (105, .inl (G.2.1 0, 41, .inl (fun _ => 0))) := (hfr104 _ _ _ (by decide)).mp hf_ends29
          have hf_made30 : M102 made30 = some (106, .inl (G.2.1 0, 4100, .inl (fun _ => 0))) := (hfr104 _ _ _ (by decide)).mp hf_made30
          have hf_drops31 : M102 drops31 = some (107, .inl (G.2.1 0, 2048, .inl (fun _ => 0))) := (hfr104 _ _ _ (by decide)).mp hf_drops31
          have hf_q1 : M102 q1 = some (1, .inr (0, [.int (if 1 < (if 255 < z4 then 255 else z4) then (if 255 < z4 then 255 else z4) else 1), .int sc15, .int 0, .ref row9, .ref jobs11, .ref known12, .ref nowh13, .ref gone14, .int 0])) := (hfr104 _ _ _ (by decide)).mp hf_q1
          have hf_row9 : M102 row9 = some (2, .inr (1, [.ref nums10, .int 0])) := (hfr104 _ _ _ (by decide)).mp hf_row9
          have hf_nums10 : M102 nums10 = some (3, .inl (G.2.1 0, 256, .inl (fun _ => 0))) := (hfr104 _ _ _ (by decide)).mp hf_nums10
          have hf_jobs11 : M102 jobs11 = some (4, .inr (4, [.int 0, .ref (G.2.2.1 0), .int 0])) := (hfr104 _ _ _ (by decide)).mp hf_jobs11
          have hf_known12 : M102 known12 = some (5, .inr (4, [.int 0, .ref (G.2.2.1 0), .int 0])) := (hfr104 _ _ _ (by decide)).mp hf_known12
          have hf_nowh13 : M102 nowh13 = some (12, .inr (2, [.int 0, .int 0, .int 0, .int 0, .int 0])) := (hfr104 _ _ _ (by decide)).mp hf_nowh13
          have hf_gone14 : M102 gone14 = some (8, .inl (G.2.1 0, 512, .inl (fun _ => 0))) := (hfr104 _ _ _ (by decide)).mp hf_gone14
          have hf_q35 : M102 q35 = some (50, .inl (G.2.1 2, 1, .inr (.inl (fun _ => 0)))) := (hfr104 _ _ _ (by decide)).mp hf_q35
          have hf_q17 : M102 q17 = some (100, .inr (5, [.int 1, .int lm32, .int sm33, .int 0, .ref there25, .ref mrow26, .int 0, .ref found27, .ref fsz28, .ref ends29, .ref made30, .int 0, .int 0, .ref drops31, .int 0])) := hf_q17'
          refine lv_istore (lv' := [(6, .int 0), (5, .int 1), (4, .int 2), (3, .ref q35), (2, .ref q17), (1, .ref q1), (0, .ref b)]) hx hb d_Law_law_361 hl (by decide) rfl (fun ls hl => ?_)
          refine lv_aload_n hx hb d_Law_law_363 rfl (lv_at hl 4 rfl) ?_
          refine gw_calli hS (va_runV (As := []) (rest := []) ⟨hx, hb, hml, hown, hts⟩ (m_thrown l G M102 q17 there25 mrow26 found27 fsz28 ends29 made30 drops31 1 lm32 sm33 hf_q17 ) (cwV 0 hts (gw_gv mw269 mw270 mw271 mw169 mw268) rfl rfl rfl (by decide +kernel) ⟨Nat.le_of_ble_eq_true rfl, Nat.le_of_ble_eq_true rfl⟩) (gw_pv hE hB hS hW rfl hf_q17) rfl rfl hl.1 rfl (lv_room (Nat.le_of_ble_eq_true rfl)) d_Law_law_364 ⟨Nat.le_of_ble_eq_true rfl, Nat.le_of_ble_eq_true rfl⟩) (fun r105 M106 H locs hw107 hW hS => ?_)
          obtain ⟨rfl, rfl⟩ := hw107
          refine lv_iload hx hb d_Law_law_367 (lv_at hl 1 rfl) ?_
          refine lv_icmp_eq (tgt := 374) hx hb d_Law_law_369 (by decide) (fun c369 => ?_) (fun c369 => ?_)
          · refine lv_iload hx hb d_Law_law_374 (lv_at hl 1 rfl) ?_
            refine lv_if_ne (tgt := 391) hx hb d_Law_law_376 (by decide) (fun c376 => ?_) (fun c376 => ?_)
            · refine lv_goto (tgt := 653) hx hb d_Law_law_391 (by decide) ?_
              refine lv_iinc (v := 2 + 4) (lv' := [(4, .int (2 + 4)), (6, .int 0), (5, .int 1), (3, .ref q35), (2, .ref q17), (1, .ref q1), (0, .ref b)]) hx hb d_Law_law_653 hl (k := 2) rfl rfl (by decide) rfl (fun ls hl => ?_)
              refine lv_goto (tgt := 43) hx hb d_Law_law_656 (by decide) ?_
              refine lv_iload hx hb d_Law_law_43 (lv_at hl 0 rfl) ?_
              refine lv_aload_n hx hb d_Law_law_45 rfl (lv_at hl 6 rfl) ?_
              refine va_slen hx hb hX hbl hbA hS d_Law_law_46 ?_
              refine lv_iconst (v := 4) hx hb d_Law_law_47 (by decide) ?_
              refine lv_isub hx hb d_Law_law_48 ?_
              refine lv_icmp_gt (tgt := 659) hx hb d_Law_law_49 (by decide) (fun c49 => ?_) (fun c49 => ?_)
              · refine lv_iconst (v := 1) hx hb d_Law_law_659 (by decide) ?_
                refine va_forget (fun q hq => by have h9 := hS.2.2 q hq; rw [← eG]; exact h9) ?_
                refine W.widen (k := 600002) (n := 7302198) (Nat.le_of_ble_eq_true rfl) (Nat.le_of_ble_eq_true rfl) ?_
                exact lw_ret hx hb hr hlocks d_Law_law_660
              · exact absurd (by decide) c49
            · exact absurd c376 (by decide)
          · exact absurd rfl c369
    · refine lv_tableIn (tgt := 394) hx hb d_Law_law_59 (by rw [h9]; decide) (by rw [h9]; decide) (by rw [h9]; rfl) (by decide) ?_
      refine lv_aload_n hx hb d_Law_law_394 rfl (lv_at hl 3 rfl) ?_
      refine lv_aload_n hx hb d_Law_law_395 rfl (lv_at hl 4 rfl) ?_
      refine lv_iload hx hb d_Law_law_396 (lv_at hl 0 rfl) ?_
      refine lv_iconst (v := 1) hx hb d_Law_law_398 (by decide) ?_
      refine lv_iadd hx hb d_Law_law_399 ?_
      refine va_sld hx hb hX hbl hbA hS (i := 2 + 1) (show ¬ ((2 + 1 : Int32) < 0 ∨ 6 ≤ (2 + 1 : Int32).toNatClampNeg) by decide) d_Law_law_400 ?_
      refine gw_calli hS (va_runV (As := [.int (xs (2 + 1 : Int32).toNatClampNeg)]) (rest := []) ⟨hx, hb, hml, hown, hts⟩ (c_dropped l G M37 q1 row9 jobs11 known12 nowh13 gone14 (if 1 < (if 255 < z4 then 255 else z4) then (if 255 < z4 then 255 else z4) else 1) sc15 (xs (2 + 1 : Int32).toNatClampNeg) hf_q1 ) (cwV 1 hts (gw_gv mw287 mw288 mw289 mw83 mw286) rfl rfl rfl (by decide +kernel) ⟨Nat.le_of_ble_eq_true rfl, Nat.le_of_ble_eq_true rfl⟩) (gw_pv hE hB hS hW rfl hf_q1) rfl rfl hl.1 rfl (lv_room (Nat.le_of_ble_eq_true rfl)) d_Law_law_401 ⟨Nat.le_of_ble_eq_true rfl, Nat.le_of_ble_eq_true rfl⟩) (fun r108 M109 H locs hw110 hW hS => ?_)
      obtain ⟨rfl, rfl⟩ := hw110
      refine lv_aload_n hx hb d_Law_law_404 rfl (lv_at hl 2 rfl) ?_
      refine lv_aload_n hx hb d_Law_law_405 rfl (lv_at hl 4 rfl) ?_
      refine lv_iload hx hb d_Law_law_406 (lv_at hl 0 rfl) ?_
      refine lv_iconst (v := 1) hx hb d_Law_law_408 (by decide) ?_
      refine lv_iadd hx hb d_Law_law_409 ?_
      refine va_sld hx hb hX hbl hbA hS (i := 2 + 1) (show ¬ ((2 + 1 : Int32) < 0 ∨ 6 ≤ (2 + 1 : Int32).toNatClampNeg) by decide) d_Law_law_410 ?_
      refine gw_calli hS (va_runV (As := [.int (xs (2 + 1 : Int32).toNatClampNeg)]) (rest := [.int (-1)]) ⟨hx, hb, hml, hown, hts⟩ (m_dropped l G M37 q17 there25 mrow26 found27 fsz28 ends29 made30 drops31 0 lm32 sm33 (xs (2 + 1 : Int32).toNatClampNeg) hf_q17 ) (cwV 1 hts (gw_gv mw291 mw292 mw293 mw169 mw290) rfl rfl rfl (by decide +kernel) ⟨Nat.le_of_ble_eq_true rfl, Nat.le_of_ble_eq_true rfl⟩) (gw_pv hE hB hS hW rfl hf_q17) rfl rfl hl.1 rfl (lv_room (Nat.le_of_ble_eq_true rfl)) d_Law_law_411 ⟨Nat.le_of_ble_eq_true rfl, Nat.le_of_ble_eq_true rfl⟩) (fun r111 M112 H locs hw113 hW hS => ?_)
      obtain ⟨rfl, hfr114⟩ := hw113
      have hf_there25 : M112 there25 = some (101, .inl (G.2.1 0, 10000, .inl (fun _ => 0))) := (hfr114 _ _ _ (by decide)).mp hf_there25
      have hf_mrow26 : M112 mrow26 = some (102, .inl (G.2.1 0, 300, .inl (fun _ => 0))) := (hfr114 _ _ _ (by decide)).mp hf_mrow26
      have hf_found27 : M112 found27 = some (103, .inl (G.2.1 0, 10240, .inl (fun _ => 0))) := (hfr114 _ _ _ (by decide)).mp hf_found27
      have hf_fsz28 : M112 fsz28 = some (104, .inl (G.2.1 0, 41, .inl (fun _ => 0))) := (hfr114 _ _ _ (by decide)).mp hf_fsz28
      have hf_ends29 : M112 ends29 = some (105, .inl (G.2.1 0, 41, .inl (fun _ => 0))) := (hfr114 _ _ _ (by decide)).mp hf_ends29
      have hf_made30 : M112 made30 = some (106, .inl (G.2.1 0, 4100, .inl (fun _ => 0))) := (hfr114 _ _ _ (by decide)).mp hf_made30
      have hf_drops31 : M112 drops31 = some (107, .inl (G.2.1 0, 2048, .inl (fun _ => 0))) := (hfr114 _ _ _ (by decide)).mp hf_drops31
      have hf_q1 : M112 q1 = some (1, .inr (0, [.int (if 1 < (if 255 < z4 then 255 else z4) then (if 255 < z4 then 255 else z4) else 1), .int sc15, .int 0, .ref row9, .ref jobs11, .ref known12, .ref nowh13, .ref gone14, .int 0])) := (hfr114 _ _ _ (by decide)).mp hf_q1
      have hf_row9 : M112 row9 = some (2, .inr (1, [.ref nums10, .int 0])) := (hfr114 _ _ _ (by decide)).mp hf_row9
      have hf_nums10 : M112 nums10 = some (3, .inl (G.2.1 0, 256, .inl (fun _ => 0))) := (hfr114 _ _ _ (by decide)).mp hf_nums10
      have hf_jobs11 : M112 jobs11 = some (4, .inr (4, [.int 0, .ref (G.2.2.1 0), .int 0])) := (hfr114 _ _ _ (by decide)).mp hf_jobs11
      have hf_known12 : M112 known12 = some (5, .inr (4, [.int 0, .ref (G.2.2.1 0), .int 0])) := (hfr114 _ _ _ (by decide)).mp hf_known12
      have hf_nowh13 : M112 nowh13 = some (12, .inr (2, [.int 0, .int 0, .int 0, .int 0, .int 0])) := (hfr114 _ _ _ (by decide)).mp hf_nowh13
      have hf_gone14 : M112 gone14 = some (8, .inl (G.2.1 0, 512, .inl (fun _ => 0))) := (hfr114 _ _ _ (by decide)).mp hf_gone14
      have hf_q35 : M112 q35 = some (50, .inl (G.2.1 2, 1, .inr (.inl (fun _ => 0)))) := (hfr114 _ _ _ (by decide)).mp hf_q35
      refine lv_icmp_eq (tgt := 653) hx hb d_Law_law_414 (by decide) (fun c414 => ?_) (fun c414 => ?_)
      · refine lv_iinc (v := 2 + 4) (lv' := [(4, .int (2 + 4)), (3, .ref q35), (2, .ref q17), (1, .ref q1), (0, .ref b)]) hx hb d_Law_law_653 hl (k := 0) rfl rfl (by decide) rfl (fun ls hl => ?_)
        refine lv_goto (tgt := 43) hx hb d_Law_law_656 (by decide) ?_
        refine lv_iload hx hb d_Law_law_43 (lv_at hl 0 rfl) ?_
        refine lv_aload_n hx hb d_Law_law_45 rfl (lv_at hl 4 rfl) ?_
        refine va_slen hx hb hX hbl hbA hS d_Law_law_46 ?_
        refine lv_iconst (v := 4) hx hb d_Law_law_47 (by decide) ?_
        refine lv_isub hx hb d_Law_law_48 ?_
        refine lv_icmp_gt (tgt := 659) hx hb d_Law_law_49 (by decide) (fun c49 => ?_) (fun c49 => ?_)
        · refine lv_iconst (v := 1) hx hb d_Law_law_659 (by decide) ?_
          refine va_forget (fun q hq => by have h9 := hS.2.2 q hq; rw [← eG]; exact h9) ?_
          refine W.widen (k := 600002) (n := 7302198) (Nat.le_of_ble_eq_true rfl) (Nat.le_of_ble_eq_true rfl) ?_
          exact lw_ret hx hb hr hlocks d_Law_law_660
        · exact absurd (by decide) c49
      · exact absurd rfl c414
    · refine lv_tableIn (tgt := 419) hx hb d_Law_law_59 (by rw [h9]; decide) (by rw [h9]; decide) (by rw [h9]; rfl) (by decide) ?_
      refine lv_aload_n hx hb d_Law_law_419 rfl (lv_at hl 3 rfl) ?_
      refine lv_aload_n hx hb d_Law_law_420 rfl (lv_at hl 4 rfl) ?_
      refine lv_iload hx hb d_Law_law_421 (lv_at hl 0 rfl) ?_
      refine lv_iconst (v := 1) hx hb d_Law_law_423 (by decide) ?_
      refine lv_iadd hx hb d_Law_law_424 ?_
      refine va_sld hx hb hX hbl hbA hS (i := 2 + 1) (show ¬ ((2 + 1 : Int32) < 0 ∨ 6 ≤ (2 + 1 : Int32).toNatClampNeg) by decide) d_Law_law_425 ?_
      refine lv_aload_n hx hb d_Law_law_426 rfl (lv_at hl 4 rfl) ?_
      refine lv_iload hx hb d_Law_law_427 (lv_at hl 0 rfl) ?_
      refine lv_iconst (v := 2) hx hb d_Law_law_429 (by decide) ?_
      refine lv_iadd hx hb d_Law_law_430 ?_
      refine va_sld hx hb hX hbl hbA hS (i := 2 + 2) (show ¬ ((2 + 2 : Int32) < 0 ∨ 6 ≤ (2 + 2 : Int32).toNatClampNeg) by decide) d_Law_law_431 ?_
      refine lv_aload_n hx hb d_Law_law_432 rfl (lv_at hl 1 rfl) ?_
      refine gw_calli hS (gt_runSW (n := 4) (As := [.ref q1, .int (xs (2 + 1 : Int32).toNatClampNeg), .int (xs (2 + 2 : Int32).toNatClampNeg), .ref q35]) (rest := []) ⟨hx, hb, hml, hown, hts⟩ (h_restart l hl9 G M37 q1 row9 jobs11 known12 nowh13 gone14 (if 1 < (if 255 < z4 then 255 else z4) then (if 255 < z4 then 255 else z4) else 1) sc15 (xs (2 + 1 : Int32).toNatClampNeg) (xs (2 + 2 : Int32).toNatClampNeg) q35 hf_q1 hf_jobs11 ) rfl rfl ⟨Nat.le_of_ble_eq_true rfl, Nat.le_of_ble_eq_true rfl⟩ (gw_gt mw295 mw296 mw234 mw294) (by decide +kernel) (gw_ps hE hB hS hW) rfl rfl hl.1 rfl (lv_room (Nat.le_of_ble_eq_true rfl)) d_Law_law_433 ⟨Nat.le_of_ble_eq_true rfl, Nat.le_of_ble_eq_true rfl⟩) (fun r115 M116 H locs hw117 hW hS => ?_)
      refine W.widen (k := 17) (n := 27582) (Nat.le_refl _) (Nat.le_refl _) ?_
      obtain ⟨rfl, rfl⟩ := hw117
      refine lv_istore (lv' := [(5, .int 1), (4, .int 2), (3, .ref q35), (2, .ref q17), (1, .ref q1), (0, .ref b)]) hx hb d_Law_law_436 hl (by decide) rfl (fun ls hl => ?_)
      refine lv_aload_n hx hb d_Law_law_438 rfl (lv_at hl 3 rfl) ?_
      refine lv_aload_n hx hb d_Law_law_439 rfl (lv_at hl 5 rfl) ?_
      refine lv_iload hx hb d_Law_law_440 (lv_at hl 1 rfl) ?_
      refine lv_iconst (v := 1) hx hb d_Law_law_442 (by decide) ?_
      refine lv_iadd hx hb d_Law_law_443 ?_
      refine va_sld hx hb hX hbl hbA hS (i := 2 + 1) (show ¬ ((2 + 1 : Int32) < 0 ∨ 6 ≤ (2 + 1 : Int32).toNatClampNeg) by decide) d_Law_law_444 ?_
      refine lv_aload_n hx hb d_Law_law_445 rfl (lv_at hl 5 rfl) ?_
      refine lv_iload hx hb d_Law_law_446 (lv_at hl 1 rfl) ?_
      refine lv_iconst (v := 2) hx hb d_Law_law_448 (by decide) ?_
      refine lv_iadd hx hb d_Law_law_449 ?_
      refine va_sld hx hb hX hbl hbA hS (i := 2 + 2) (show ¬ ((2 + 2 : Int32) < 0 ∨ 6 ≤ (2 + 2 : Int32).toNatClampNeg) by decide) d_Law_law_450 ?_
      refine gw_calli hS (va_runV (As := [.int (xs (2 + 1 : Int32).toNatClampNeg), .int (xs (2 + 2 : Int32).toNatClampNeg)]) (rest := []) ⟨hx, hb, hml, hown, hts⟩ (m_restart l G M37 q17 there25 mrow26 found27 fsz28 ends29 made30 drops31 0 lm32 sm33 (xs (2 + 1 : Int32).toNatClampNeg) (xs (2 + 2 : Int32).toNatClampNeg) hf_q17 ) (cwV 2 hts (gw_gv mw298 mw299 mw300 mw169 mw297) rfl rfl rfl (by decide +kernel) ⟨Nat.le_of_ble_eq_true rfl, Nat.le_of_ble_eq_true rfl⟩) (gw_pv hE hB hS hW rfl hf_q17) rfl rfl hl.1 rfl (lv_room (Nat.le_of_ble_eq_true rfl)) d_Law_law_451 ⟨Nat.le_of_ble_eq_true rfl, Nat.le_of_ble_eq_true rfl⟩) (fun r118 M119 H locs hw120 hW hS => ?_)
      obtain ⟨rfl, hf_q17', hfr121⟩ := hw120
      have hf_there25 : M119 there25 = some (101, .inl (G.2.1 0, 10000, .inl (fun _ => 0))) := (hfr121 _ _ _ (by decide)).mp hf_there25
      have hf_mrow26 : M119 mrow26 = some (102, .inl (G.2.1 0, 300, .inl (fun _ => 0))) := (hfr121 _ _ _ (by decide)).mp hf_mrow26
      have hf_found27 : M119 found27 = some (103, .inl (G.2.1 0, 10240, .inl (fun _ => 0))) := (hfr121 _ _ _ (by decide)).mp hf_found27
      have hf_fsz28 : M119 fsz28 = some (104, .inl (G.2.1 0, 41, .inl (fun _ => 0))) := (hfr121 _ _ _ (by decide)).mp hf_fsz28
      have hf_ends29 : M119 ends29 = some (105, .inl (G.2.1 0, 41, .inl (fun _ => 0))) := (hfr121 _ _ _ (by decide)).mp hf_ends29
      have hf_made30 : M119 made30 = some (106, .inl (G.2.1 0, 4100, .inl (fun _ => 0))) := (hfr121 _ _ _ (by decide)).mp hf_made30
      have hf_drops31 : M119 drops31 = some (107, .inl (G.2.1 0, 2048, .inl (fun _ => 0))) := (hfr121 _ _ _ (by decide)).mp hf_drops31
      have hf_q1 : M119 q1 = some (1, .inr (0, [.int (if 1 < (if 255 < z4 then 255 else z4) then (if 255 < z4 then 255 else z4) else 1), .int sc15, .int 0, .ref row9, .ref jobs11, .ref known12, .ref nowh13, .ref gone14, .int 0])) := (hfr121 _ _ _ (by decide)).mp hf_q1
      have hf_row9 : M119 row9 = some (2, .inr (1, [.ref nums10, .int 0])) := (hfr121 _ _ _ (by decide)).mp hf_row9
      have hf_nums10 : M119 nums10 = some (3, .inl (G.2.1 0, 256, .inl (fun _ => 0))) := (hfr121 _ _ _ (by decide)).mp hf_nums10
      have hf_jobs11 : M119 jobs11 = some (4, .inr (4, [.int 0, .ref (G.2.2.1 0), .int 0])) := (hfr121 _ _ _ (by decide)).mp hf_jobs11
      have hf_known12 : M119 known12 = some (5, .inr (4, [.int 0, .ref (G.2.2.1 0), .int 0])) := (hfr121 _ _ _ (by decide)).mp hf_known12
      have hf_nowh13 : M119 nowh13 = some (12, .inr (2, [.int 0, .int 0, .int 0, .int 0, .int 0])) := (hfr121 _ _ _ (by decide)).mp hf_nowh13
      have hf_gone14 : M119 gone14 = some (8, .inl (G.2.1 0, 512, .inl (fun _ => 0))) := (hfr121 _ _ _ (by decide)).mp hf_gone14
      have hf_q35 : M119 q35 = some (50, .inl (G.2.1 2, 1, .inr (.inl (fun _ => 0)))) := (hfr121 _ _ _ (by decide)).mp hf_q35
      have hf_q17 : M119 q17 = some (100, .inr (5, [.int 1, .int lm32, .int sm33, .int 0, .ref there25, .ref mrow26, .int 0, .ref found27, .ref fsz28, .ref ends29, .ref made30, .int 0, .int 0, .ref drops31, .int 0])) := hf_q17'
      refine lv_istore (lv' := [(6, .int 0), (5, .int 1), (4, .int 2), (3, .ref q35), (2, .ref q17), (1, .ref q1), (0, .ref b)]) hx hb d_Law_law_454 hl (by decide) rfl (fun ls hl => ?_)
      refine lv_aload_n hx hb d_Law_law_456 rfl (lv_at hl 4 rfl) ?_
      refine gw_calli hS (va_runV (As := []) (rest := []) ⟨hx, hb, hml, hown, hts⟩ (m_thrown l G M119 q17 there25 mrow26 found27 fsz28 ends29 made30 drops31 1 lm32 sm33 hf_q17 ) (cwV 0 hts (gw_gv mw269 mw270 mw271 mw169 mw268) rfl rfl rfl (by decide +kernel) ⟨Nat.le_of_ble_eq_true rfl, Nat.le_of_ble_eq_true rfl⟩) (gw_pv hE hB hS hW rfl hf_q17) rfl rfl hl.1 rfl (lv_room (Nat.le_of_ble_eq_true rfl)) d_Law_law_457 ⟨Nat.le_of_ble_eq_true rfl, Nat.le_of_ble_eq_true rfl⟩) (fun r122 M123 H locs hw124 hW hS => ?_)
      obtain ⟨rfl, rfl⟩ := hw124
      refine lv_iload hx hb d_Law_law_460 (lv_at hl 1 rfl) ?_
      refine lv_icmp_eq (tgt := 467) hx hb d_Law_law_462 (by decide) (fun c462 => ?_) (fun c462 => ?_)
      · refine lv_iload hx hb d_Law_law_467 (lv_at hl 1 rfl) ?_
        refine lv_if_ne (tgt := 484) hx hb d_Law_law_469 (by decide) (fun c469 => ?_) (fun c469 => ?_)
        · refine lv_goto (tgt := 653) hx hb d_Law_law_484 (by decide) ?_
          refine lv_iinc (v := 2 + 4) (lv' := [(4, .int (2 + 4)), (6, .int 0), (5, .int 1), (3, .ref q35), (2, .ref q17), (1, .ref q1), (0, .ref b)]) hx hb d_Law_law_653 hl (k := 2) rfl rfl (by decide) rfl (fun ls hl => ?_)
          refine lv_goto (tgt := 43) hx hb d_Law_law_656 (by decide) ?_
          refine lv_iload hx hb d_Law_law_43 (lv_at hl 0 rfl) ?_
          refine lv_aload_n hx hb d_Law_law_45 rfl (lv_at hl 6 rfl) ?_
          refine va_slen hx hb hX hbl hbA hS d_Law_law_46 ?_
          refine lv_iconst (v := 4) hx hb d_Law_law_47 (by decide) ?_
          refine lv_isub hx hb d_Law_law_48 ?_
          refine lv_icmp_gt (tgt := 659) hx hb d_Law_law_49 (by decide) (fun c49 => ?_) (fun c49 => ?_)
          · refine lv_iconst (v := 1) hx hb d_Law_law_659 (by decide) ?_
            refine va_forget (fun q hq => by have h9 := hS.2.2 q hq; rw [← eG]; exact h9) ?_
            refine W.widen (k := 600002) (n := 7302198) (Nat.le_of_ble_eq_true rfl) (Nat.le_of_ble_eq_true rfl) ?_
            exact lw_ret hx hb hr hlocks d_Law_law_660
          · exact absurd (by decide) c49
        · exact absurd c469 (by decide)
      · exact absurd rfl c462
    · refine lv_tableIn (tgt := 487) hx hb d_Law_law_59 (by rw [h9]; decide) (by rw [h9]; decide) (by rw [h9]; rfl) (by decide) ?_
      refine lv_aload_n hx hb d_Law_law_487 rfl (lv_at hl 3 rfl) ?_
      refine lv_aload_n hx hb d_Law_law_488 rfl (lv_at hl 4 rfl) ?_
      refine lv_iload hx hb d_Law_law_489 (lv_at hl 0 rfl) ?_
      refine lv_iconst (v := 1) hx hb d_Law_law_491 (by decide) ?_
      refine lv_iadd hx hb d_Law_law_492 ?_
      refine va_sld hx hb hX hbl hbA hS (i := 2 + 1) (show ¬ ((2 + 1 : Int32) < 0 ∨ 6 ≤ (2 + 1 : Int32).toNatClampNeg) by decide) d_Law_law_493 ?_
      refine gw_calli hS (va_runV (As := [.int (xs (2 + 1 : Int32).toNatClampNeg)]) (rest := []) ⟨hx, hb, hml, hown, hts⟩ (c_list l G M37 q1 row9 nums10 jobs11 known12 nowh13 gone14 (if 1 < (if 255 < z4 then 255 else z4) then (if 255 < z4 then 255 else z4) else 1) sc15 (xs (2 + 1 : Int32).toNatClampNeg) hf_q1 hf_row9 ) (cwV 1 hts (gw_gv mw302 mw303 mw304 mw83 mw301) rfl rfl rfl (by decide +kernel) ⟨Nat.le_of_ble_eq_true rfl, Nat.le_of_ble_eq_true rfl⟩) (gw_pv hE hB hS hW rfl hf_q1) rfl rfl hl.1 rfl (lv_room (Nat.le_of_ble_eq_true rfl)) d_Law_law_494 ⟨Nat.le_of_ble_eq_true rfl, Nat.le_of_ble_eq_true rfl⟩) (fun r125 M126 H locs hw127 hW hS => ?_)
      obtain ⟨rfl, rfl⟩ := hw127
      refine lv_aload_n hx hb d_Law_law_497 rfl (lv_at hl 2 rfl) ?_
      refine lv_aload_n hx hb d_Law_law_498 rfl (lv_at hl 4 rfl) ?_
      refine lv_iload hx hb d_Law_law_499 (lv_at hl 0 rfl) ?_
      refine lv_iconst (v := 1) hx hb d_Law_law_501 (by decide) ?_
      refine lv_iadd hx hb d_Law_law_502 ?_
      refine va_sld hx hb hX hbl hbA hS (i := 2 + 1) (show ¬ ((2 + 1 : Int32) < 0 ∨ 6 ≤ (2 + 1 : Int32).toNatClampNeg) by decide) d_Law_law_503 ?_
      refine gw_calli hS (va_runV (As := [.int (xs (2 + 1 : Int32).toNatClampNeg)]) (rest := [.int (-1)]) ⟨hx, hb, hml, hown, hts⟩ (m_list l G M37 q17 there25 mrow26 found27 fsz28 ends29 made30 drops31 0 lm32 sm33 (xs (2 + 1 : Int32).toNatClampNeg) hf_q17 ) (cwV 1 hts (gw_gv mw306 mw307 mw308 mw169 mw305) rfl rfl rfl (by decide +kernel) ⟨Nat.le_of_ble_eq_true rfl, Nat.le_of_ble_eq_true rfl⟩) (gw_pv hE hB hS hW rfl hf_q17) rfl rfl hl.1 rfl (lv_room (Nat.le_of_ble_eq_true rfl)) d_Law_law_504 ⟨Nat.le_of_ble_eq_true rfl, Nat.le_of_ble_eq_true rfl⟩) (fun r128 M129 H locs hw130 hW hS => ?_)
      obtain ⟨rfl, hfr131⟩ := hw130
      have hf_there25 : M129 there25 = some (101, .inl (G.2.1 0, 10000, .inl (fun _ => 0))) := (hfr131 _ _ _ (by decide)).mp hf_there25
      have hf_mrow26 : M129 mrow26 = some (102, .inl (G.2.1 0, 300, .inl (fun _ => 0))) := (hfr131 _ _ _ (by decide)).mp hf_mrow26
      have hf_found27 : M129 found27 = some (103, .inl (G.2.1 0, 10240, .inl (fun _ => 0))) := (hfr131 _ _ _ (by decide)).mp hf_found27
      have hf_fsz28 : M129 fsz28 = some (104, .inl (G.2.1 0, 41, .inl (fun _ => 0))) := (hfr131 _ _ _ (by decide)).mp hf_fsz28
      have hf_ends29 : M129 ends29 = some (105, .inl (G.2.1 0, 41, .inl (fun _ => 0))) := (hfr131 _ _ _ (by decide)).mp hf_ends29
      have hf_made30 : M129 made30 = some (106, .inl (G.2.1 0, 4100, .inl (fun _ => 0))) := (hfr131 _ _ _ (by decide)).mp hf_made30
      have hf_drops31 : M129 drops31 = some (107, .inl (G.2.1 0, 2048, .inl (fun _ => 0))) := (hfr131 _ _ _ (by decide)).mp hf_drops31
      have hf_q1 : M129 q1 = some (1, .inr (0, [.int (if 1 < (if 255 < z4 then 255 else z4) then (if 255 < z4 then 255 else z4) else 1), .int sc15, .int 0, .ref row9, .ref jobs11, .ref known12, .ref nowh13, .ref gone14, .int 0])) := (hfr131 _ _ _ (by decide)).mp hf_q1
      have hf_row9 : M129 row9 = some (2, .inr (1, [.ref nums10, .int 0])) := (hfr131 _ _ _ (by decide)).mp hf_row9
      have hf_nums10 : M129 nums10 = some (3, .inl (G.2.1 0, 256, .inl (fun _ => 0))) := (hfr131 _ _ _ (by decide)).mp hf_nums10
      have hf_jobs11 : M129 jobs11 = some (4, .inr (4, [.int 0, .ref (G.2.2.1 0), .int 0])) := (hfr131 _ _ _ (by decide)).mp hf_jobs11
      have hf_known12 : M129 known12 = some (5, .inr (4, [.int 0, .ref (G.2.2.1 0), .int 0])) := (hfr131 _ _ _ (by decide)).mp hf_known12
      have hf_nowh13 : M129 nowh13 = some (12, .inr (2, [.int 0, .int 0, .int 0, .int 0, .int 0])) := (hfr131 _ _ _ (by decide)).mp hf_nowh13
      have hf_gone14 : M129 gone14 = some (8, .inl (G.2.1 0, 512, .inl (fun _ => 0))) := (hfr131 _ _ _ (by decide)).mp hf_gone14
      have hf_q35 : M129 q35 = some (50, .inl (G.2.1 2, 1, .inr (.inl (fun _ => 0)))) := (hfr131 _ _ _ (by decide)).mp hf_q35
      refine lv_icmp_eq (tgt := 653) hx hb d_Law_law_507 (by decide) (fun c507 => ?_) (fun c507 => ?_)
      · refine lv_iinc (v := 2 + 4) (lv' := [(4, .int (2 + 4)), (3, .ref q35), (2, .ref q17), (1, .ref q1), (0, .ref b)]) hx hb d_Law_law_653 hl (k := 0) rfl rfl (by decide) rfl (fun ls hl => ?_)
        refine lv_goto (tgt := 43) hx hb d_Law_law_656 (by decide) ?_
        refine lv_iload hx hb d_Law_law_43 (lv_at hl 0 rfl) ?_
        refine lv_aload_n hx hb d_Law_law_45 rfl (lv_at hl 4 rfl) ?_
        refine va_slen hx hb hX hbl hbA hS d_Law_law_46 ?_
        refine lv_iconst (v := 4) hx hb d_Law_law_47 (by decide) ?_
        refine lv_isub hx hb d_Law_law_48 ?_
        refine lv_icmp_gt (tgt := 659) hx hb d_Law_law_49 (by decide) (fun c49 => ?_) (fun c49 => ?_)
        · refine lv_iconst (v := 1) hx hb d_Law_law_659 (by decide) ?_
          refine va_forget (fun q hq => by have h9 := hS.2.2 q hq; rw [← eG]; exact h9) ?_
          refine W.widen (k := 600002) (n := 7302198) (Nat.le_of_ble_eq_true rfl) (Nat.le_of_ble_eq_true rfl) ?_
          exact lw_ret hx hb hr hlocks d_Law_law_660
        · exact absurd (by decide) c49
      · exact absurd rfl c507
    · refine lv_tableIn (tgt := 512) hx hb d_Law_law_59 (by rw [h9]; decide) (by rw [h9]; decide) (by rw [h9]; rfl) (by decide) ?_
      refine lv_aload_n hx hb d_Law_law_512 rfl (lv_at hl 3 rfl) ?_
      refine lv_aload_n hx hb d_Law_law_513 rfl (lv_at hl 4 rfl) ?_
      refine lv_iload hx hb d_Law_law_514 (lv_at hl 0 rfl) ?_
      refine lv_iconst (v := 1) hx hb d_Law_law_516 (by decide) ?_
      refine lv_iadd hx hb d_Law_law_517 ?_
      refine va_sld hx hb hX hbl hbA hS (i := 2 + 1) (show ¬ ((2 + 1 : Int32) < 0 ∨ 6 ≤ (2 + 1 : Int32).toNatClampNeg) by decide) d_Law_law_518 ?_
      refine gw_calli hS (va_runV (As := [.int (xs (2 + 1 : Int32).toNatClampNeg)]) (rest := []) ⟨hx, hb, hml, hown, hts⟩ (c_reclaim l G M37 q1 row9 jobs11 known12 nowh13 gone14 (if 1 < (if 255 < z4 then 255 else z4) then (if 255 < z4 then 255 else z4) else 1) sc15 (xs (2 + 1 : Int32).toNatClampNeg) hf_q1 hf_known12 hf_nowh13 ) (cwV 1 hts (gw_gv mw310 mw311 mw312 mw83 mw309) rfl rfl rfl (by decide +kernel) ⟨Nat.le_of_ble_eq_true rfl, Nat.le_of_ble_eq_true rfl⟩) (gw_pv hE hB hS hW rfl hf_q1) rfl rfl hl.1 rfl (lv_room (Nat.le_of_ble_eq_true rfl)) d_Law_law_519 ⟨Nat.le_of_ble_eq_true rfl, Nat.le_of_ble_eq_true rfl⟩) (fun r132 M133 H locs hw134 hW hS => ?_)
      obtain ⟨rfl, rfl⟩ := hw134
      refine lv_aload_n hx hb d_Law_law_522 rfl (lv_at hl 2 rfl) ?_
      refine lv_aload_n hx hb d_Law_law_523 rfl (lv_at hl 4 rfl) ?_
      refine lv_iload hx hb d_Law_law_524 (lv_at hl 0 rfl) ?_
      refine lv_iconst (v := 1) hx hb d_Law_law_526 (by decide) ?_
      refine lv_iadd hx hb d_Law_law_527 ?_
      refine va_sld hx hb hX hbl hbA hS (i := 2 + 1) (show ¬ ((2 + 1 : Int32) < 0 ∨ 6 ≤ (2 + 1 : Int32).toNatClampNeg) by decide) d_Law_law_528 ?_
      refine gw_calli hS (va_runV (As := [.int (xs (2 + 1 : Int32).toNatClampNeg)]) (rest := [.int 0]) ⟨hx, hb, hml, hown, hts⟩ (m_reclaim l G M37 q17 there25 mrow26 found27 fsz28 ends29 made30 drops31 0 lm32 sm33 (xs (2 + 1 : Int32).toNatClampNeg) hf_q17 hf_there25 ) (cwV 1 hts (gw_gv mw314 mw315 mw316 mw169 mw313) rfl rfl rfl (by decide +kernel) ⟨Nat.le_of_ble_eq_true rfl, Nat.le_of_ble_eq_true rfl⟩) (gw_pv hE hB hS hW rfl hf_q17) rfl rfl hl.1 rfl (lv_room (Nat.le_of_ble_eq_true rfl)) d_Law_law_529 ⟨Nat.le_of_ble_eq_true rfl, Nat.le_of_ble_eq_true rfl⟩) (fun r135 M136 H locs hw137 hW hS => ?_)
      obtain ⟨rfl, hfr138⟩ := hw137
      have hf_there25 : M136 there25 = some (101, .inl (G.2.1 0, 10000, .inl (fun _ => 0))) := (hfr138 _ _ _ (by decide)).mp hf_there25
      have hf_mrow26 : M136 mrow26 = some (102, .inl (G.2.1 0, 300, .inl (fun _ => 0))) := (hfr138 _ _ _ (by decide)).mp hf_mrow26
      have hf_found27 : M136 found27 = some (103, .inl (G.2.1 0, 10240, .inl (fun _ => 0))) := (hfr138 _ _ _ (by decide)).mp hf_found27
      have hf_fsz28 : M136 fsz28 = some (104, .inl (G.2.1 0, 41, .inl (fun _ => 0))) := (hfr138 _ _ _ (by decide)).mp hf_fsz28
      have hf_ends29 : M136 ends29 = some (105, .inl (G.2.1 0, 41, .inl (fun _ => 0))) := (hfr138 _ _ _ (by decide)).mp hf_ends29
      have hf_made30 : M136 made30 = some (106, .inl (G.2.1 0, 4100, .inl (fun _ => 0))) := (hfr138 _ _ _ (by decide)).mp hf_made30
      have hf_drops31 : M136 drops31 = some (107, .inl (G.2.1 0, 2048, .inl (fun _ => 0))) := (hfr138 _ _ _ (by decide)).mp hf_drops31
      have hf_q1 : M136 q1 = some (1, .inr (0, [.int (if 1 < (if 255 < z4 then 255 else z4) then (if 255 < z4 then 255 else z4) else 1), .int sc15, .int 0, .ref row9, .ref jobs11, .ref known12, .ref nowh13, .ref gone14, .int 0])) := (hfr138 _ _ _ (by decide)).mp hf_q1
      have hf_row9 : M136 row9 = some (2, .inr (1, [.ref nums10, .int 0])) := (hfr138 _ _ _ (by decide)).mp hf_row9
      have hf_nums10 : M136 nums10 = some (3, .inl (G.2.1 0, 256, .inl (fun _ => 0))) := (hfr138 _ _ _ (by decide)).mp hf_nums10
      have hf_jobs11 : M136 jobs11 = some (4, .inr (4, [.int 0, .ref (G.2.2.1 0), .int 0])) := (hfr138 _ _ _ (by decide)).mp hf_jobs11
      have hf_known12 : M136 known12 = some (5, .inr (4, [.int 0, .ref (G.2.2.1 0), .int 0])) := (hfr138 _ _ _ (by decide)).mp hf_known12
      have hf_nowh13 : M136 nowh13 = some (12, .inr (2, [.int 0, .int 0, .int 0, .int 0, .int 0])) := (hfr138 _ _ _ (by decide)).mp hf_nowh13
      have hf_gone14 : M136 gone14 = some (8, .inl (G.2.1 0, 512, .inl (fun _ => 0))) := (hfr138 _ _ _ (by decide)).mp hf_gone14
      have hf_q35 : M136 q35 = some (50, .inl (G.2.1 2, 1, .inr (.inl (fun _ => 0)))) := (hfr138 _ _ _ (by decide)).mp hf_q35
      refine lv_icmp_eq (tgt := 653) hx hb d_Law_law_532 (by decide) (fun c532 => ?_) (fun c532 => ?_)
      · refine lv_iinc (v := 2 + 4) (lv' := [(4, .int (2 + 4)), (3, .ref q35), (2, .ref q17), (1, .ref q1), (0, .ref b)]) hx hb d_Law_law_653 hl (k := 0) rfl rfl (by decide) rfl (fun ls hl => ?_)
        refine lv_goto (tgt := 43) hx hb d_Law_law_656 (by decide) ?_
        refine lv_iload hx hb d_Law_law_43 (lv_at hl 0 rfl) ?_
        refine lv_aload_n hx hb d_Law_law_45 rfl (lv_at hl 4 rfl) ?_
        refine va_slen hx hb hX hbl hbA hS d_Law_law_46 ?_
        refine lv_iconst (v := 4) hx hb d_Law_law_47 (by decide) ?_
        refine lv_isub hx hb d_Law_law_48 ?_
        refine lv_icmp_gt (tgt := 659) hx hb d_Law_law_49 (by decide) (fun c49 => ?_) (fun c49 => ?_)
        · refine lv_iconst (v := 1) hx hb d_Law_law_659 (by decide) ?_
          refine va_forget (fun q hq => by have h9 := hS.2.2 q hq; rw [← eG]; exact h9) ?_
          refine W.widen (k := 600002) (n := 7302198) (Nat.le_of_ble_eq_true rfl) (Nat.le_of_ble_eq_true rfl) ?_
          exact lw_ret hx hb hr hlocks d_Law_law_660
        · exact absurd (by decide) c49
      · exact absurd rfl c532
    · refine lv_tableIn (tgt := 537) hx hb d_Law_law_59 (by rw [h9]; decide) (by rw [h9]; decide) (by rw [h9]; rfl) (by decide) ?_
      refine lv_aload_n hx hb d_Law_law_537 rfl (lv_at hl 3 rfl) ?_
      refine lv_aload_n hx hb d_Law_law_538 rfl (lv_at hl 4 rfl) ?_
      refine lv_iload hx hb d_Law_law_539 (lv_at hl 0 rfl) ?_
      refine lv_iconst (v := 1) hx hb d_Law_law_541 (by decide) ?_
      refine lv_iadd hx hb d_Law_law_542 ?_
      refine va_sld hx hb hX hbl hbA hS (i := 2 + 1) (show ¬ ((2 + 1 : Int32) < 0 ∨ 6 ≤ (2 + 1 : Int32).toNatClampNeg) by decide) d_Law_law_543 ?_
      refine lv_if_eq (tgt := 551) hx hb d_Law_law_544 (by decide) (fun c544 => ?_) (fun c544 => ?_)
      · refine lv_iconst (v := 0) hx hb d_Law_law_551 (by decide) ?_
        refine gw_calli hS (va_runV (As := [.int 0]) (rest := []) ⟨hx, hb, hml, hown, hts⟩ (c_empty l G M37 q1 row9 jobs11 known12 nowh13 gone14 (if 1 < (if 255 < z4 then 255 else z4) then (if 255 < z4 then 255 else z4) else 1) sc15 0 hf_q1 rfl rfl) (cwV 1 hts (gw_gv mw318 mw319 mw320 mw83 mw317) rfl rfl rfl (by decide +kernel) ⟨Nat.le_of_ble_eq_true rfl, Nat.le_of_ble_eq_true rfl⟩) (gw_pv hE hB hS hW rfl hf_q1) rfl rfl hl.1 rfl (lv_room (Nat.le_of_ble_eq_true rfl)) d_Law_law_552 ⟨Nat.le_of_ble_eq_true rfl, Nat.le_of_ble_eq_true rfl⟩) (fun r139 M140 H locs hw141 hW hS => ?_)
        obtain ⟨rfl, hfr142⟩ := hw141
        have hf_q17 : M140 q17 = some (100, .inr (5, [.int 0, .int lm32, .int sm33, .int 0, .ref there25, .ref mrow26, .int 0, .ref found27, .ref fsz28, .ref ends29, .ref made30, .int 0, .int 0, .ref drops31, .int 0])) := (hfr142 _ _ _ (by decide)).mp hf_q17
        have hf_there25 : M140 there25 = some (101, .inl (G.2.1 0, 10000, .inl (fun _ => 0))) := (hfr142 _ _ _ (by decide)).mp hf_there25
        have hf_mrow26 : M140 mrow26 = some (102, .inl (G.2.1 0, 300, .inl (fun _ => 0))) := (hfr142 _ _ _ (by decide)).mp hf_mrow26
        have hf_found27 : M140 found27 = some (103, .inl (G.2.1 0, 10240, .inl (fun _ => 0))) := (hfr142 _ _ _ (by decide)).mp hf_found27
        have hf_fsz28 : M140 fsz28 = some (104, .inl (G.2.1 0, 41, .inl (fun _ => 0))) := (hfr142 _ _ _ (by decide)).mp hf_fsz28
        have hf_ends29 : M140 ends29 = some (105, .inl (G.2.1 0, 41, .inl (fun _ => 0))) := (hfr142 _ _ _ (by decide)).mp hf_ends29
        have hf_made30 : M140 made30 = some (106, .inl (G.2.1 0, 4100, .inl (fun _ => 0))) := (hfr142 _ _ _ (by decide)).mp hf_made30
        have hf_drops31 : M140 drops31 = some (107, .inl (G.2.1 0, 2048, .inl (fun _ => 0))) := (hfr142 _ _ _ (by decide)).mp hf_drops31
        have hf_row9 : M140 row9 = some (2, .inr (1, [.ref nums10, .int 0])) := (hfr142 _ _ _ (by decide)).mp hf_row9
        have hf_nums10 : M140 nums10 = some (3, .inl (G.2.1 0, 256, .inl (fun _ => 0))) := (hfr142 _ _ _ (by decide)).mp hf_nums10
        have hf_jobs11 : M140 jobs11 = some (4, .inr (4, [.int 0, .ref (G.2.2.1 0), .int 0])) := (hfr142 _ _ _ (by decide)).mp hf_jobs11
        have hf_known12 : M140 known12 = some (5, .inr (4, [.int 0, .ref (G.2.2.1 0), .int 0])) := (hfr142 _ _ _ (by decide)).mp hf_known12
        have hf_nowh13 : M140 nowh13 = some (12, .inr (2, [.int 0, .int 0, .int 0, .int 0, .int 0])) := (hfr142 _ _ _ (by decide)).mp hf_nowh13
        have hf_gone14 : M140 gone14 = some (8, .inl (G.2.1 0, 512, .inl (fun _ => 0))) := (hfr142 _ _ _ (by decide)).mp hf_gone14
        have hf_q35 : M140 q35 = some (50, .inl (G.2.1 2, 1, .inr (.inl (fun _ => 0)))) := (hfr142 _ _ _ (by decide)).mp hf_q35
        refine lv_aload_n hx hb d_Law_law_555 rfl (lv_at hl 2 rfl) ?_
        refine lv_aload_n hx hb d_Law_law_556 rfl (lv_at hl 4 rfl) ?_
        refine lv_iload hx hb d_Law_law_557 (lv_at hl 0 rfl) ?_
        refine lv_iconst (v := 1) hx hb d_Law_law_559 (by decide) ?_
        refine lv_iadd hx hb d_Law_law_560 ?_
        refine va_sld hx hb hX hbl hbA hS (i := 2 + 1) (show ¬ ((2 + 1 : Int32) < 0 ∨ 6 ≤ (2 + 1 : Int32).toNatClampNeg) by decide) d_Law_law_561 ?_
        refine lv_if_eq (tgt := 569) hx hb d_Law_law_562 (by decide) (fun c562 => ?_) (fun c562 => ?_)
        · refine lv_iconst (v := 0) hx hb d_Law_law_569 (by decide) ?_
          refine gw_calli hS (va_runV (As := [.int 0]) (rest := [.int 0]) ⟨hx, hb, hml, hown, hts⟩ (m_empty l G M140 q17 there25 mrow26 found27 fsz28 ends29 made30 drops31 0 lm32 sm33 0 hf_q17 rfl rfl) (cwV 1 hts (gw_gv mw322 mw323 mw324 mw169 mw321) rfl rfl rfl (by decide +kernel) ⟨Nat.le_of_ble_eq_true rfl, Nat.le_of_ble_eq_true rfl⟩) (gw_pv hE hB hS hW rfl hf_q17) rfl rfl hl.1 rfl (lv_room (Nat.le_of_ble_eq_true rfl)) d_Law_law_570 ⟨Nat.le_of_ble_eq_true rfl, Nat.le_of_ble_eq_true rfl⟩) (fun r143 M144 H locs hw145 hW hS => ?_)
          obtain ⟨rfl, hfr146⟩ := hw145
          have hf_there25 : M144 there25 = some (101, .inl (G.2.1 0, 10000, .inl (fun _ => 0))) := (hfr146 _ _ _ (by decide)).mp hf_there25
          have hf_mrow26 : M144 mrow26 = some (102, .inl (G.2.1 0, 300, .inl (fun _ => 0))) := (hfr146 _ _ _ (by decide)).mp hf_mrow26
          have hf_found27 : M144 found27 = some (103, .inl (G.2.1 0, 10240, .inl (fun _ => 0))) := (hfr146 _ _ _ (by decide)).mp hf_found27
          have hf_fsz28 : M144 fsz28 = some (104, .inl (G.2.1 0, 41, .inl (fun _ => 0))) := (hfr146 _ _ _ (by decide)).mp hf_fsz28
          have hf_ends29 : M144 ends29 = some (105, .inl (G.2.1 0, 41, .inl (fun _ => 0))) := (hfr146 _ _ _ (by decide)).mp hf_ends29
          have hf_made30 : M144 made30 = some (106, .inl (G.2.1 0, 4100, .inl (fun _ => 0))) := (hfr146 _ _ _ (by decide)).mp hf_made30
          have hf_drops31 : M144 drops31 = some (107, .inl (G.2.1 0, 2048, .inl (fun _ => 0))) := (hfr146 _ _ _ (by decide)).mp hf_drops31
          have hf_row9 : M144 row9 = some (2, .inr (1, [.ref nums10, .int 0])) := (hfr146 _ _ _ (by decide)).mp hf_row9
          have hf_nums10 : M144 nums10 = some (3, .inl (G.2.1 0, 256, .inl (fun _ => 0))) := (hfr146 _ _ _ (by decide)).mp hf_nums10
          have hf_jobs11 : M144 jobs11 = some (4, .inr (4, [.int 0, .ref (G.2.2.1 0), .int 0])) := (hfr146 _ _ _ (by decide)).mp hf_jobs11
          have hf_known12 : M144 known12 = some (5, .inr (4, [.int 0, .ref (G.2.2.1 0), .int 0])) := (hfr146 _ _ _ (by decide)).mp hf_known12
          have hf_nowh13 : M144 nowh13 = some (12, .inr (2, [.int 0, .int 0, .int 0, .int 0, .int 0])) := (hfr146 _ _ _ (by decide)).mp hf_nowh13
          have hf_gone14 : M144 gone14 = some (8, .inl (G.2.1 0, 512, .inl (fun _ => 0))) := (hfr146 _ _ _ (by decide)).mp hf_gone14
          have hf_q35 : M144 q35 = some (50, .inl (G.2.1 2, 1, .inr (.inl (fun _ => 0)))) := (hfr146 _ _ _ (by decide)).mp hf_q35
          refine lv_icmp_eq (tgt := 653) hx hb d_Law_law_573 (by decide) (fun c573 => ?_) (fun c573 => ?_)
          · refine lv_iinc (v := 2 + 4) (lv' := [(4, .int (2 + 4)), (3, .ref q35), (2, .ref q17), (1, .ref q1), (0, .ref b)]) hx hb d_Law_law_653 hl (k := 0) rfl rfl (by decide) rfl (fun ls hl => ?_)
            refine lv_goto (tgt := 43) hx hb d_Law_law_656 (by decide) ?_
            refine lv_iload hx hb d_Law_law_43 (lv_at hl 0 rfl) ?_
            refine lv_aload_n hx hb d_Law_law_45 rfl (lv_at hl 4 rfl) ?_
            refine va_slen hx hb hX hbl hbA hS d_Law_law_46 ?_
            refine lv_iconst (v := 4) hx hb d_Law_law_47 (by decide) ?_
            refine lv_isub hx hb d_Law_law_48 ?_
            refine lv_icmp_gt (tgt := 659) hx hb d_Law_law_49 (by decide) (fun c49 => ?_) (fun c49 => ?_)
            · refine lv_iconst (v := 1) hx hb d_Law_law_659 (by decide) ?_
              refine va_forget (fun q hq => by have h9 := hS.2.2 q hq; rw [← eG]; exact h9) ?_
              refine W.widen (k := 600002) (n := 7302198) (Nat.le_of_ble_eq_true rfl) (Nat.le_of_ble_eq_true rfl) ?_
              exact lw_ret hx hb hr hlocks d_Law_law_660
            · exact absurd (by decide) c49
          · exact absurd rfl c573
        · refine lv_iconst (v := 1) hx hb d_Law_law_565 (by decide) ?_
          refine lv_goto (tgt := 570) hx hb d_Law_law_566 (by decide) ?_
          refine gw_calli hS (va_runV (As := [.int 1]) (rest := [.int 0]) ⟨hx, hb, hml, hown, hts⟩ (m_empty l G M140 q17 there25 mrow26 found27 fsz28 ends29 made30 drops31 0 lm32 sm33 1 hf_q17 rfl rfl) (cwV 1 hts (gw_gv mw322 mw323 mw324 mw169 mw321) rfl rfl rfl (by decide +kernel) ⟨Nat.le_of_ble_eq_true rfl, Nat.le_of_ble_eq_true rfl⟩) (gw_pv hE hB hS hW rfl hf_q17) rfl rfl hl.1 rfl (lv_room (Nat.le_of_ble_eq_true rfl)) d_Law_law_570 ⟨Nat.le_of_ble_eq_true rfl, Nat.le_of_ble_eq_true rfl⟩) (fun r147 M148 H locs hw149 hW hS => ?_)
          obtain ⟨rfl, hfr150⟩ := hw149
          have hf_there25 : M148 there25 = some (101, .inl (G.2.1 0, 10000, .inl (fun _ => 0))) := (hfr150 _ _ _ (by decide)).mp hf_there25
          have hf_mrow26 : M148 mrow26 = some (102, .inl (G.2.1 0, 300, .inl (fun _ => 0))) := (hfr150 _ _ _ (by decide)).mp hf_mrow26
          have hf_found27 : M148 found27 = some (103, .inl (G.2.1 0, 10240, .inl (fun _ => 0))) := (hfr150 _ _ _ (by decide)).mp hf_found27
          have hf_fsz28 : M148 fsz28 = some (104, .inl (G.2.1 0, 41, .inl (fun _ => 0))) := (hfr150 _ _ _ (by decide)).mp hf_fsz28
          have hf_ends29 : M148 ends29 = some (105, .inl (G.2.1 0, 41, .inl (fun _ => 0))) := (hfr150 _ _ _ (by decide)).mp hf_ends29
          have hf_made30 : M148 made30 = some (106, .inl (G.2.1 0, 4100, .inl (fun _ => 0))) := (hfr150 _ _ _ (by decide)).mp hf_made30
          have hf_drops31 : M148 drops31 = some (107, .inl (G.2.1 0, 2048, .inl (fun _ => 0))) := (hfr150 _ _ _ (by decide)).mp hf_drops31
          have hf_row9 : M148 row9 = some (2, .inr (1, [.ref nums10, .int 0])) := (hfr150 _ _ _ (by decide)).mp hf_row9
          have hf_nums10 : M148 nums10 = some (3, .inl (G.2.1 0, 256, .inl (fun _ => 0))) := (hfr150 _ _ _ (by decide)).mp hf_nums10
          have hf_jobs11 : M148 jobs11 = some (4, .inr (4, [.int 0, .ref (G.2.2.1 0), .int 0])) := (hfr150 _ _ _ (by decide)).mp hf_jobs11
          have hf_known12 : M148 known12 = some (5, .inr (4, [.int 0, .ref (G.2.2.1 0), .int 0])) := (hfr150 _ _ _ (by decide)).mp hf_known12
          have hf_nowh13 : M148 nowh13 = some (12, .inr (2, [.int 0, .int 0, .int 0, .int 0, .int 0])) := (hfr150 _ _ _ (by decide)).mp hf_nowh13
          have hf_gone14 : M148 gone14 = some (8, .inl (G.2.1 0, 512, .inl (fun _ => 0))) := (hfr150 _ _ _ (by decide)).mp hf_gone14
          have hf_q35 : M148 q35 = some (50, .inl (G.2.1 2, 1, .inr (.inl (fun _ => 0)))) := (hfr150 _ _ _ (by decide)).mp hf_q35
          refine lv_icmp_eq (tgt := 653) hx hb d_Law_law_573 (by decide) (fun c573 => ?_) (fun c573 => ?_)
          · refine lv_iinc (v := 2 + 4) (lv' := [(4, .int (2 + 4)), (3, .ref q35), (2, .ref q17), (1, .ref q1), (0, .ref b)]) hx hb d_Law_law_653 hl (k := 0) rfl rfl (by decide) rfl (fun ls hl => ?_)
            refine lv_goto (tgt := 43) hx hb d_Law_law_656 (by decide) ?_
            refine lv_iload hx hb d_Law_law_43 (lv_at hl 0 rfl) ?_
            refine lv_aload_n hx hb d_Law_law_45 rfl (lv_at hl 4 rfl) ?_
            refine va_slen hx hb hX hbl hbA hS d_Law_law_46 ?_
            refine lv_iconst (v := 4) hx hb d_Law_law_47 (by decide) ?_
            refine lv_isub hx hb d_Law_law_48 ?_
            refine lv_icmp_gt (tgt := 659) hx hb d_Law_law_49 (by decide) (fun c49 => ?_) (fun c49 => ?_)
            · refine lv_iconst (v := 1) hx hb d_Law_law_659 (by decide) ?_
              refine va_forget (fun q hq => by have h9 := hS.2.2 q hq; rw [← eG]; exact h9) ?_
              refine W.widen (k := 600002) (n := 7302198) (Nat.le_of_ble_eq_true rfl) (Nat.le_of_ble_eq_true rfl) ?_
              exact lw_ret hx hb hr hlocks d_Law_law_660
            · exact absurd (by decide) c49
          · exact absurd rfl c573
      · refine lv_iconst (v := 1) hx hb d_Law_law_547 (by decide) ?_
        refine lv_goto (tgt := 552) hx hb d_Law_law_548 (by decide) ?_
        refine gw_calli hS (va_runV (As := [.int 1]) (rest := []) ⟨hx, hb, hml, hown, hts⟩ (c_empty l G M37 q1 row9 jobs11 known12 nowh13 gone14 (if 1 < (if 255 < z4 then 255 else z4) then (if 255 < z4 then 255 else z4) else 1) sc15 1 hf_q1 rfl rfl) (cwV 1 hts (gw_gv mw318 mw319 mw320 mw83 mw317) rfl rfl rfl (by decide +kernel) ⟨Nat.le_of_ble_eq_true rfl, Nat.le_of_ble_eq_true rfl⟩) (gw_pv hE hB hS hW rfl hf_q1) rfl rfl hl.1 rfl (lv_room (Nat.le_of_ble_eq_true rfl)) d_Law_law_552 ⟨Nat.le_of_ble_eq_true rfl, Nat.le_of_ble_eq_true rfl⟩) (fun r151 M152 H locs hw153 hW hS => ?_)
        obtain ⟨rfl, hfr154⟩ := hw153
        have hf_q17 : M152 q17 = some (100, .inr (5, [.int 0, .int lm32, .int sm33, .int 0, .ref there25, .ref mrow26, .int 0, .ref found27, .ref fsz28, .ref ends29, .ref made30, .int 0, .int 0, .ref drops31, .int 0])) := (hfr154 _ _ _ (by decide)).mp hf_q17
        have hf_there25 : M152 there25 = some (101, .inl (G.2.1 0, 10000, .inl (fun _ => 0))) := (hfr154 _ _ _ (by decide)).mp hf_there25
        have hf_mrow26 : M152 mrow26 = some (102, .inl (G.2.1 0, 300, .inl (fun _ => 0))) := (hfr154 _ _ _ (by decide)).mp hf_mrow26
        have hf_found27 : M152 found27 = some (103, .inl (G.2.1 0, 10240, .inl (fun _ => 0))) := (hfr154 _ _ _ (by decide)).mp hf_found27
        have hf_fsz28 : M152 fsz28 = some (104, .inl (G.2.1 0, 41, .inl (fun _ => 0))) := (hfr154 _ _ _ (by decide)).mp hf_fsz28
        have hf_ends29 : M152 ends29 = some (105, .inl (G.2.1 0, 41, .inl (fun _ => 0))) := (hfr154 _ _ _ (by decide)).mp hf_ends29
        have hf_made30 : M152 made30 = some (106, .inl (G.2.1 0, 4100, .inl (fun _ => 0))) := (hfr154 _ _ _ (by decide)).mp hf_made30
        have hf_drops31 : M152 drops31 = some (107, .inl (G.2.1 0, 2048, .inl (fun _ => 0))) := (hfr154 _ _ _ (by decide)).mp hf_drops31
        have hf_row9 : M152 row9 = some (2, .inr (1, [.ref nums10, .int 0])) := (hfr154 _ _ _ (by decide)).mp hf_row9
        have hf_nums10 : M152 nums10 = some (3, .inl (G.2.1 0, 256, .inl (fun _ => 0))) := (hfr154 _ _ _ (by decide)).mp hf_nums10
        have hf_jobs11 : M152 jobs11 = some (4, .inr (4, [.int 0, .ref (G.2.2.1 0), .int 0])) := (hfr154 _ _ _ (by decide)).mp hf_jobs11
        have hf_known12 : M152 known12 = some (5, .inr (4, [.int 0, .ref (G.2.2.1 0), .int 0])) := (hfr154 _ _ _ (by decide)).mp hf_known12
        have hf_nowh13 : M152 nowh13 = some (12, .inr (2, [.int 0, .int 0, .int 0, .int 0, .int 0])) := (hfr154 _ _ _ (by decide)).mp hf_nowh13
        have hf_gone14 : M152 gone14 = some (8, .inl (G.2.1 0, 512, .inl (fun _ => 0))) := (hfr154 _ _ _ (by decide)).mp hf_gone14
        have hf_q35 : M152 q35 = some (50, .inl (G.2.1 2, 1, .inr (.inl (fun _ => 0)))) := (hfr154 _ _ _ (by decide)).mp hf_q35
        refine lv_aload_n hx hb d_Law_law_555 rfl (lv_at hl 2 rfl) ?_
        refine lv_aload_n hx hb d_Law_law_556 rfl (lv_at hl 4 rfl) ?_
        refine lv_iload hx hb d_Law_law_557 (lv_at hl 0 rfl) ?_
        refine lv_iconst (v := 1) hx hb d_Law_law_559 (by decide) ?_
        refine lv_iadd hx hb d_Law_law_560 ?_
        refine va_sld hx hb hX hbl hbA hS (i := 2 + 1) (show ¬ ((2 + 1 : Int32) < 0 ∨ 6 ≤ (2 + 1 : Int32).toNatClampNeg) by decide) d_Law_law_561 ?_
        refine lv_if_eq (tgt := 569) hx hb d_Law_law_562 (by decide) (fun c562 => ?_) (fun c562 => ?_)
        · refine lv_iconst (v := 0) hx hb d_Law_law_569 (by decide) ?_
          refine gw_calli hS (va_runV (As := [.int 0]) (rest := [.int 0]) ⟨hx, hb, hml, hown, hts⟩ (m_empty l G M152 q17 there25 mrow26 found27 fsz28 ends29 made30 drops31 0 lm32 sm33 0 hf_q17 rfl rfl) (cwV 1 hts (gw_gv mw322 mw323 mw324 mw169 mw321) rfl rfl rfl (by decide +kernel) ⟨Nat.le_of_ble_eq_true rfl, Nat.le_of_ble_eq_true rfl⟩) (gw_pv hE hB hS hW rfl hf_q17) rfl rfl hl.1 rfl (lv_room (Nat.le_of_ble_eq_true rfl)) d_Law_law_570 ⟨Nat.le_of_ble_eq_true rfl, Nat.le_of_ble_eq_true rfl⟩) (fun r155 M156 H locs hw157 hW hS => ?_)
          obtain ⟨rfl, hfr158⟩ := hw157
          have hf_there25 : M156 there25 = some (101, .inl (G.2.1 0, 10000, .inl (fun _ => 0))) := (hfr158 _ _ _ (by decide)).mp hf_there25
          have hf_mrow26 : M156 mrow26 = some (102, .inl (G.2.1 0, 300, .inl (fun _ => 0))) := (hfr158 _ _ _ (by decide)).mp hf_mrow26
          have hf_found27 : M156 found27 = some (103, .inl (G.2.1 0, 10240, .inl (fun _ => 0))) := (hfr158 _ _ _ (by decide)).mp hf_found27
          have hf_fsz28 : M156 fsz28 = some (104, .inl (G.2.1 0, 41, .inl (fun _ => 0))) := (hfr158 _ _ _ (by decide)).mp hf_fsz28
          have hf_ends29 : M156 ends29 = some (105, .inl (G.2.1 0, 41, .inl (fun _ => 0))) := (hfr158 _ _ _ (by decide)).mp hf_ends29
          have hf_made30 : M156 made30 = some (106, .inl (G.2.1 0, 4100, .inl (fun _ => 0))) := (hfr158 _ _ _ (by decide)).mp hf_made30
          have hf_drops31 : M156 drops31 = some (107, .inl (G.2.1 0, 2048, .inl (fun _ => 0))) := (hfr158 _ _ _ (by decide)).mp hf_drops31
          have hf_row9 : M156 row9 = some (2, .inr (1, [.ref nums10, .int 0])) := (hfr158 _ _ _ (by decide)).mp hf_row9
          have hf_nums10 : M156 nums10 = some (3, .inl (G.2.1 0, 256, .inl (fun _ => 0))) := (hfr158 _ _ _ (by decide)).mp hf_nums10
          have hf_jobs11 : M156 jobs11 = some (4, .inr (4, [.int 0, .ref (G.2.2.1 0), .int 0])) := (hfr158 _ _ _ (by decide)).mp hf_jobs11
          have hf_known12 : M156 known12 = some (5, .inr (4, [.int 0, .ref (G.2.2.1 0), .int 0])) := (hfr158 _ _ _ (by decide)).mp hf_known12
          have hf_nowh13 : M156 nowh13 = some (12, .inr (2, [.int 0, .int 0, .int 0, .int 0, .int 0])) := (hfr158 _ _ _ (by decide)).mp hf_nowh13
          have hf_gone14 : M156 gone14 = some (8, .inl (G.2.1 0, 512, .inl (fun _ => 0))) := (hfr158 _ _ _ (by decide)).mp hf_gone14
          have hf_q35 : M156 q35 = some (50, .inl (G.2.1 2, 1, .inr (.inl (fun _ => 0)))) := (hfr158 _ _ _ (by decide)).mp hf_q35
          refine lv_icmp_eq (tgt := 653) hx hb d_Law_law_573 (by decide) (fun c573 => ?_) (fun c573 => ?_)
          · refine lv_iinc (v := 2 + 4) (lv' := [(4, .int (2 + 4)), (3, .ref q35), (2, .ref q17), (1, .ref q1), (0, .ref b)]) hx hb d_Law_law_653 hl (k := 0) rfl rfl (by decide) rfl (fun ls hl => ?_)
            refine lv_goto (tgt := 43) hx hb d_Law_law_656 (by decide) ?_
            refine lv_iload hx hb d_Law_law_43 (lv_at hl 0 rfl) ?_
            refine lv_aload_n hx hb d_Law_law_45 rfl (lv_at hl 4 rfl) ?_
            refine va_slen hx hb hX hbl hbA hS d_Law_law_46 ?_
            refine lv_iconst (v := 4) hx hb d_Law_law_47 (by decide) ?_
            refine lv_isub hx hb d_Law_law_48 ?_
            refine lv_icmp_gt (tgt := 659) hx hb d_Law_law_49 (by decide) (fun c49 => ?_) (fun c49 => ?_)
            · refine lv_iconst (v := 1) hx hb d_Law_law_659 (by decide) ?_
              refine va_forget (fun q hq => by have h9 := hS.2.2 q hq; rw [← eG]; exact h9) ?_
              refine W.widen (k := 600002) (n := 7302198) (Nat.le_of_ble_eq_true rfl) (Nat.le_of_ble_eq_true rfl) ?_
              exact lw_ret hx hb hr hlocks d_Law_law_660
            · exact absurd (by decide) c49
          · exact absurd rfl c573
        · refine lv_iconst (v := 1) hx hb d_Law_law_565 (by decide) ?_
          refine lv_goto (tgt := 570) hx hb d_Law_law_566 (by decide) ?_
          refine gw_calli hS (va_runV (As := [.int 1]) (rest := [.int 0]) ⟨hx, hb, hml, hown, hts⟩ (m_empty l G M152 q17 there25 mrow26 found27 fsz28 ends29 made30 drops31 0 lm32 sm33 1 hf_q17 rfl rfl) (cwV 1 hts (gw_gv mw322 mw323 mw324 mw169 mw321) rfl rfl rfl (by decide +kernel) ⟨Nat.le_of_ble_eq_true rfl, Nat.le_of_ble_eq_true rfl⟩) (gw_pv hE hB hS hW rfl hf_q17) rfl rfl hl.1 rfl (lv_room (Nat.le_of_ble_eq_true rfl)) d_Law_law_570 ⟨Nat.le_of_ble_eq_true rfl, Nat.le_of_ble_eq_true rfl⟩) (fun r159 M160 H locs hw161 hW hS => ?_)
          obtain ⟨rfl, hfr162⟩ := hw161
          have hf_there25 : M160 there25 = some (101, .inl (G.2.1 0, 10000, .inl (fun _ => 0))) := (hfr162 _ _ _ (by decide)).mp hf_there25
          have hf_mrow26 : M160 mrow26 = some (102, .inl (G.2.1 0, 300, .inl (fun _ => 0))) := (hfr162 _ _ _ (by decide)).mp hf_mrow26
          have hf_found27 : M160 found27 = some (103, .inl (G.2.1 0, 10240, .inl (fun _ => 0))) := (hfr162 _ _ _ (by decide)).mp hf_found27
          have hf_fsz28 : M160 fsz28 = some (104, .inl (G.2.1 0, 41, .inl (fun _ => 0))) := (hfr162 _ _ _ (by decide)).mp hf_fsz28
          have hf_ends29 : M160 ends29 = some (105, .inl (G.2.1 0, 41, .inl (fun _ => 0))) := (hfr162 _ _ _ (by decide)).mp hf_ends29
          have hf_made30 : M160 made30 = some (106, .inl (G.2.1 0, 4100, .inl (fun _ => 0))) := (hfr162 _ _ _ (by decide)).mp hf_made30
          have hf_drops31 : M160 drops31 = some (107, .inl (G.2.1 0, 2048, .inl (fun _ => 0))) := (hfr162 _ _ _ (by decide)).mp hf_drops31
          have hf_row9 : M160 row9 = some (2, .inr (1, [.ref nums10, .int 0])) := (hfr162 _ _ _ (by decide)).mp hf_row9
          have hf_nums10 : M160 nums10 = some (3, .inl (G.2.1 0, 256, .inl (fun _ => 0))) := (hfr162 _ _ _ (by decide)).mp hf_nums10
          have hf_jobs11 : M160 jobs11 = some (4, .inr (4, [.int 0, .ref (G.2.2.1 0), .int 0])) := (hfr162 _ _ _ (by decide)).mp hf_jobs11
          have hf_known12 : M160 known12 = some (5, .inr (4, [.int 0, .ref (G.2.2.1 0), .int 0])) := (hfr162 _ _ _ (by decide)).mp hf_known12
          have hf_nowh13 : M160 nowh13 = some (12, .inr (2, [.int 0, .int 0, .int 0, .int 0, .int 0])) := (hfr162 _ _ _ (by decide)).mp hf_nowh13
          have hf_gone14 : M160 gone14 = some (8, .inl (G.2.1 0, 512, .inl (fun _ => 0))) := (hfr162 _ _ _ (by decide)).mp hf_gone14
          have hf_q35 : M160 q35 = some (50, .inl (G.2.1 2, 1, .inr (.inl (fun _ => 0)))) := (hfr162 _ _ _ (by decide)).mp hf_q35
          refine lv_icmp_eq (tgt := 653) hx hb d_Law_law_573 (by decide) (fun c573 => ?_) (fun c573 => ?_)
          · refine lv_iinc (v := 2 + 4) (lv' := [(4, .int (2 + 4)), (3, .ref q35), (2, .ref q17), (1, .ref q1), (0, .ref b)]) hx hb d_Law_law_653 hl (k := 0) rfl rfl (by decide) rfl (fun ls hl => ?_)
            refine lv_goto (tgt := 43) hx hb d_Law_law_656 (by decide) ?_
            refine lv_iload hx hb d_Law_law_43 (lv_at hl 0 rfl) ?_
            refine lv_aload_n hx hb d_Law_law_45 rfl (lv_at hl 4 rfl) ?_
            refine va_slen hx hb hX hbl hbA hS d_Law_law_46 ?_
            refine lv_iconst (v := 4) hx hb d_Law_law_47 (by decide) ?_
            refine lv_isub hx hb d_Law_law_48 ?_
            refine lv_icmp_gt (tgt := 659) hx hb d_Law_law_49 (by decide) (fun c49 => ?_) (fun c49 => ?_)
            · refine lv_iconst (v := 1) hx hb d_Law_law_659 (by decide) ?_
              refine va_forget (fun q hq => by have h9 := hS.2.2 q hq; rw [← eG]; exact h9) ?_
              refine W.widen (k := 600002) (n := 7302198) (Nat.le_of_ble_eq_true rfl) (Nat.le_of_ble_eq_true rfl) ?_
              exact lw_ret hx hb hr hlocks d_Law_law_660
            · exact absurd (by decide) c49
          · exact absurd rfl c573
    · refine lv_tableIn (tgt := 578) hx hb d_Law_law_59 (by rw [h9]; decide) (by rw [h9]; decide) (by rw [h9]; rfl) (by decide) ?_
      refine lv_aload_n hx hb d_Law_law_578 rfl (lv_at hl 3 rfl) ?_
      refine lv_aload_n hx hb d_Law_law_579 rfl (lv_at hl 4 rfl) ?_
      refine lv_iload hx hb d_Law_law_580 (lv_at hl 0 rfl) ?_
      refine lv_iconst (v := 1) hx hb d_Law_law_582 (by decide) ?_
      refine lv_iadd hx hb d_Law_law_583 ?_
      refine va_sld hx hb hX hbl hbA hS (i := 2 + 1) (show ¬ ((2 + 1 : Int32) < 0 ∨ 6 ≤ (2 + 1 : Int32).toNatClampNeg) by decide) d_Law_law_584 ?_
      refine gw_calli hS (va_runV (As := [.int (xs (2 + 1 : Int32).toNatClampNeg)]) (rest := []) ⟨hx, hb, hml, hown, hts⟩ (c_version l G M37 q1 row9 jobs11 known12 nowh13 gone14 (if 1 < (if 255 < z4 then 255 else z4) then (if 255 < z4 then 255 else z4) else 1) sc15 (xs (2 + 1 : Int32).toNatClampNeg) hf_q1 hf_known12 hf_nowh13 ) (cwV 1 hts (gw_gv mw326 mw327 mw328 mw83 mw325) rfl rfl rfl (by decide +kernel) ⟨Nat.le_of_ble_eq_true rfl, Nat.le_of_ble_eq_true rfl⟩) (gw_pv hE hB hS hW rfl hf_q1) rfl rfl hl.1 rfl (lv_room (Nat.le_of_ble_eq_true rfl)) d_Law_law_585 ⟨Nat.le_of_ble_eq_true rfl, Nat.le_of_ble_eq_true rfl⟩) (fun r163 M164 H locs hw165 hW hS => ?_)
      obtain ⟨rfl, rfl⟩ := hw165
      refine lv_aload_n hx hb d_Law_law_588 rfl (lv_at hl 2 rfl) ?_
      refine lv_aload_n hx hb d_Law_law_589 rfl (lv_at hl 4 rfl) ?_
      refine lv_iload hx hb d_Law_law_590 (lv_at hl 0 rfl) ?_
      refine lv_iconst (v := 1) hx hb d_Law_law_592 (by decide) ?_
      refine lv_iadd hx hb d_Law_law_593 ?_
      refine va_sld hx hb hX hbl hbA hS (i := 2 + 1) (show ¬ ((2 + 1 : Int32) < 0 ∨ 6 ≤ (2 + 1 : Int32).toNatClampNeg) by decide) d_Law_law_594 ?_
      refine gw_calli hS (va_runV (As := [.int (xs (2 + 1 : Int32).toNatClampNeg)]) (rest := [.int (-1)]) ⟨hx, hb, hml, hown, hts⟩ (m_version l G M37 q17 there25 mrow26 found27 fsz28 ends29 made30 drops31 0 lm32 sm33 (xs (2 + 1 : Int32).toNatClampNeg) hf_q17 hf_there25 ) (cwV 1 hts (gw_gv mw330 mw331 mw332 mw169 mw329) rfl rfl rfl (by decide +kernel) ⟨Nat.le_of_ble_eq_true rfl, Nat.le_of_ble_eq_true rfl⟩) (gw_pv hE hB hS hW rfl hf_q17) rfl rfl hl.1 rfl (lv_room (Nat.le_of_ble_eq_true rfl)) d_Law_law_595 ⟨Nat.le_of_ble_eq_true rfl, Nat.le_of_ble_eq_true rfl⟩) (fun r166 M167 H locs hw168 hW hS => ?_)
      obtain ⟨rfl, hfr169⟩ := hw168
      have hf_there25 : M167 there25 = some (101, .inl (G.2.1 0, 10000, .inl (fun _ => 0))) := (hfr169 _ _ _ (by decide)).mp hf_there25
      have hf_mrow26 : M167 mrow26 = some (102, .inl (G.2.1 0, 300, .inl (fun _ => 0))) := (hfr169 _ _ _ (by decide)).mp hf_mrow26
      have hf_found27 : M167 found27 = some (103, .inl (G.2.1 0, 10240, .inl (fun _ => 0))) := (hfr169 _ _ _ (by decide)).mp hf_found27
      have hf_fsz28 : M167 fsz28 = some (104, .inl (G.2.1 0, 41, .inl (fun _ => 0))) := (hfr169 _ _ _ (by decide)).mp hf_fsz28
      have hf_ends29 : M167 ends29 = some (105, .inl (G.2.1 0, 41, .inl (fun _ => 0))) := (hfr169 _ _ _ (by decide)).mp hf_ends29
      have hf_made30 : M167 made30 = some (106, .inl (G.2.1 0, 4100, .inl (fun _ => 0))) := (hfr169 _ _ _ (by decide)).mp hf_made30
      have hf_drops31 : M167 drops31 = some (107, .inl (G.2.1 0, 2048, .inl (fun _ => 0))) := (hfr169 _ _ _ (by decide)).mp hf_drops31
      have hf_q1 : M167 q1 = some (1, .inr (0, [.int (if 1 < (if 255 < z4 then 255 else z4) then (if 255 < z4 then 255 else z4) else 1), .int sc15, .int 0, .ref row9, .ref jobs11, .ref known12, .ref nowh13, .ref gone14, .int 0])) := (hfr169 _ _ _ (by decide)).mp hf_q1
      have hf_row9 : M167 row9 = some (2, .inr (1, [.ref nums10, .int 0])) := (hfr169 _ _ _ (by decide)).mp hf_row9
      have hf_nums10 : M167 nums10 = some (3, .inl (G.2.1 0, 256, .inl (fun _ => 0))) := (hfr169 _ _ _ (by decide)).mp hf_nums10
      have hf_jobs11 : M167 jobs11 = some (4, .inr (4, [.int 0, .ref (G.2.2.1 0), .int 0])) := (hfr169 _ _ _ (by decide)).mp hf_jobs11
      have hf_known12 : M167 known12 = some (5, .inr (4, [.int 0, .ref (G.2.2.1 0), .int 0])) := (hfr169 _ _ _ (by decide)).mp hf_known12
      have hf_nowh13 : M167 nowh13 = some (12, .inr (2, [.int 0, .int 0, .int 0, .int 0, .int 0])) := (hfr169 _ _ _ (by decide)).mp hf_nowh13
      have hf_gone14 : M167 gone14 = some (8, .inl (G.2.1 0, 512, .inl (fun _ => 0))) := (hfr169 _ _ _ (by decide)).mp hf_gone14
      have hf_q35 : M167 q35 = some (50, .inl (G.2.1 2, 1, .inr (.inl (fun _ => 0)))) := (hfr169 _ _ _ (by decide)).mp hf_q35
      refine lv_icmp_eq (tgt := 653) hx hb d_Law_law_598 (by decide) (fun c598 => ?_) (fun c598 => ?_)
      · refine lv_iinc (v := 2 + 4) (lv' := [(4, .int (2 + 4)), (3, .ref q35), (2, .ref q17), (1, .ref q1), (0, .ref b)]) hx hb d_Law_law_653 hl (k := 0) rfl rfl (by decide) rfl (fun ls hl => ?_)
        refine lv_goto (tgt := 43) hx hb d_Law_law_656 (by decide) ?_
        refine lv_iload hx hb d_Law_law_43 (lv_at hl 0 rfl) ?_
        refine lv_aload_n hx hb d_Law_law_45 rfl (lv_at hl 4 rfl) ?_
        refine va_slen hx hb hX hbl hbA hS d_Law_law_46 ?_
        refine lv_iconst (v := 4) hx hb d_Law_law_47 (by decide) ?_
        refine lv_isub hx hb d_Law_law_48 ?_
        refine lv_icmp_gt (tgt := 659) hx hb d_Law_law_49 (by decide) (fun c49 => ?_) (fun c49 => ?_)
        · refine lv_iconst (v := 1) hx hb d_Law_law_659 (by decide) ?_
          refine va_forget (fun q hq => by have h9 := hS.2.2 q hq; rw [← eG]; exact h9) ?_
          refine W.widen (k := 600002) (n := 7302198) (Nat.le_of_ble_eq_true rfl) (Nat.le_of_ble_eq_true rfl) ?_
          exact lw_ret hx hb hr hlocks d_Law_law_660
        · exact absurd (by decide) c49
      · exact absurd rfl c598
    · refine lv_tableIn (tgt := 603) hx hb d_Law_law_59 (by rw [h9]; decide) (by rw [h9]; decide) (by rw [h9]; rfl) (by decide) ?_
      refine lv_aload_n hx hb d_Law_law_603 rfl (lv_at hl 3 rfl) ?_
      refine lv_aload_n hx hb d_Law_law_604 rfl (lv_at hl 4 rfl) ?_
      refine lv_iload hx hb d_Law_law_605 (lv_at hl 0 rfl) ?_
      refine lv_iconst (v := 1) hx hb d_Law_law_607 (by decide) ?_
      refine lv_iadd hx hb d_Law_law_608 ?_
      refine va_sld hx hb hX hbl hbA hS (i := 2 + 1) (show ¬ ((2 + 1 : Int32) < 0 ∨ 6 ≤ (2 + 1 : Int32).toNatClampNeg) by decide) d_Law_law_609 ?_
      refine gw_calli hS (va_runV (As := [.int (xs (2 + 1 : Int32).toNatClampNeg)]) (rest := []) ⟨hx, hb, hml, hown, hts⟩ (c_state l G M37 q1 row9 jobs11 known12 nowh13 gone14 (if 1 < (if 255 < z4 then 255 else z4) then (if 255 < z4 then 255 else z4) else 1) sc15 (xs (2 + 1 : Int32).toNatClampNeg) hf_q1 hf_known12 hf_nowh13 ) (cwV 1 hts (gw_gv mw334 mw335 mw336 mw83 mw333) rfl rfl rfl (by decide +kernel) ⟨Nat.le_of_ble_eq_true rfl, Nat.le_of_ble_eq_true rfl⟩) (gw_pv hE hB hS hW rfl hf_q1) rfl rfl hl.1 rfl (lv_room (Nat.le_of_ble_eq_true rfl)) d_Law_law_610 ⟨Nat.le_of_ble_eq_true rfl, Nat.le_of_ble_eq_true rfl⟩) (fun r170 M171 H locs hw172 hW hS => ?_)
      obtain ⟨rfl, rfl⟩ := hw172
      refine lv_aload_n hx hb d_Law_law_613 rfl (lv_at hl 2 rfl) ?_
      refine lv_aload_n hx hb d_Law_law_614 rfl (lv_at hl 4 rfl) ?_
      refine lv_iload hx hb d_Law_law_615 (lv_at hl 0 rfl) ?_
      refine lv_iconst (v := 1) hx hb d_Law_law_617 (by decide) ?_
      refine lv_iadd hx hb d_Law_law_618 ?_
      refine va_sld hx hb hX hbl hbA hS (i := 2 + 1) (show ¬ ((2 + 1 : Int32) < 0 ∨ 6 ≤ (2 + 1 : Int32).toNatClampNeg) by decide) d_Law_law_619 ?_
      refine gw_calli hS (va_runV (As := [.int (xs (2 + 1 : Int32).toNatClampNeg)]) (rest := [.int (gx_st (xs (2 + 1 : Int32).toNatClampNeg))]) ⟨hx, hb, hml, hown, hts⟩ (m_state l G M37 q17 there25 mrow26 found27 fsz28 ends29 made30 drops31 0 lm32 sm33 (xs (2 + 1 : Int32).toNatClampNeg) hf_q17 hf_there25 ) (cwV 1 hts (gw_gv mw338 mw339 mw340 mw169 mw337) rfl rfl rfl (by decide +kernel) ⟨Nat.le_of_ble_eq_true rfl, Nat.le_of_ble_eq_true rfl⟩) (gw_pv hE hB hS hW rfl hf_q17) rfl rfl hl.1 rfl (lv_room (Nat.le_of_ble_eq_true rfl)) d_Law_law_620 ⟨Nat.le_of_ble_eq_true rfl, Nat.le_of_ble_eq_true rfl⟩) (fun r173 M174 H locs hw175 hW hS => ?_)
      obtain ⟨rfl, hfr176⟩ := hw175
      have hf_there25 : M174 there25 = some (101, .inl (G.2.1 0, 10000, .inl (fun _ => 0))) := (hfr176 _ _ _ (by decide)).mp hf_there25
      have hf_mrow26 : M174 mrow26 = some (102, .inl (G.2.1 0, 300, .inl (fun _ => 0))) := (hfr176 _ _ _ (by decide)).mp hf_mrow26
      have hf_found27 : M174 found27 = some (103, .inl (G.2.1 0, 10240, .inl (fun _ => 0))) := (hfr176 _ _ _ (by decide)).mp hf_found27
      have hf_fsz28 : M174 fsz28 = some (104, .inl (G.2.1 0, 41, .inl (fun _ => 0))) := (hfr176 _ _ _ (by decide)).mp hf_fsz28
      have hf_ends29 : M174 ends29 = some (105, .inl (G.2.1 0, 41, .inl (fun _ => 0))) := (hfr176 _ _ _ (by decide)).mp hf_ends29
      have hf_made30 : M174 made30 = some (106, .inl (G.2.1 0, 4100, .inl (fun _ => 0))) := (hfr176 _ _ _ (by decide)).mp hf_made30
      have hf_drops31 : M174 drops31 = some (107, .inl (G.2.1 0, 2048, .inl (fun _ => 0))) := (hfr176 _ _ _ (by decide)).mp hf_drops31
      have hf_q1 : M174 q1 = some (1, .inr (0, [.int (if 1 < (if 255 < z4 then 255 else z4) then (if 255 < z4 then 255 else z4) else 1), .int sc15, .int 0, .ref row9, .ref jobs11, .ref known12, .ref nowh13, .ref gone14, .int 0])) := (hfr176 _ _ _ (by decide)).mp hf_q1
      have hf_row9 : M174 row9 = some (2, .inr (1, [.ref nums10, .int 0])) := (hfr176 _ _ _ (by decide)).mp hf_row9
      have hf_nums10 : M174 nums10 = some (3, .inl (G.2.1 0, 256, .inl (fun _ => 0))) := (hfr176 _ _ _ (by decide)).mp hf_nums10
      have hf_jobs11 : M174 jobs11 = some (4, .inr (4, [.int 0, .ref (G.2.2.1 0), .int 0])) := (hfr176 _ _ _ (by decide)).mp hf_jobs11
      have hf_known12 : M174 known12 = some (5, .inr (4, [.int 0, .ref (G.2.2.1 0), .int 0])) := (hfr176 _ _ _ (by decide)).mp hf_known12
      have hf_nowh13 : M174 nowh13 = some (12, .inr (2, [.int 0, .int 0, .int 0, .int 0, .int 0])) := (hfr176 _ _ _ (by decide)).mp hf_nowh13
      have hf_gone14 : M174 gone14 = some (8, .inl (G.2.1 0, 512, .inl (fun _ => 0))) := (hfr176 _ _ _ (by decide)).mp hf_gone14
      have hf_q35 : M174 q35 = some (50, .inl (G.2.1 2, 1, .inr (.inl (fun _ => 0)))) := (hfr176 _ _ _ (by decide)).mp hf_q35
      refine lv_icmp_eq (tgt := 653) hx hb d_Law_law_623 (by decide) (fun c623 => ?_) (fun c623 => ?_)
      · refine lv_iinc (v := 2 + 4) (lv' := [(4, .int (2 + 4)), (3, .ref q35), (2, .ref q17), (1, .ref q1), (0, .ref b)]) hx hb d_Law_law_653 hl (k := 0) rfl rfl (by decide) rfl (fun ls hl => ?_)
        refine lv_goto (tgt := 43) hx hb d_Law_law_656 (by decide) ?_
        refine lv_iload hx hb d_Law_law_43 (lv_at hl 0 rfl) ?_
        refine lv_aload_n hx hb d_Law_law_45 rfl (lv_at hl 4 rfl) ?_
        refine va_slen hx hb hX hbl hbA hS d_Law_law_46 ?_
        refine lv_iconst (v := 4) hx hb d_Law_law_47 (by decide) ?_
        refine lv_isub hx hb d_Law_law_48 ?_
        refine lv_icmp_gt (tgt := 659) hx hb d_Law_law_49 (by decide) (fun c49 => ?_) (fun c49 => ?_)
        · refine lv_iconst (v := 1) hx hb d_Law_law_659 (by decide) ?_
          refine va_forget (fun q hq => by have h9 := hS.2.2 q hq; rw [← eG]; exact h9) ?_
          refine W.widen (k := 600002) (n := 7302198) (Nat.le_of_ble_eq_true rfl) (Nat.le_of_ble_eq_true rfl) ?_
          exact lw_ret hx hb hr hlocks d_Law_law_660
        · exact absurd (by decide) c49
      · exact absurd rfl c623
    · refine lv_tableIn (tgt := 628) hx hb d_Law_law_59 (by rw [h9]; decide) (by rw [h9]; decide) (by rw [h9]; rfl) (by decide) ?_
      refine lv_aload_n hx hb d_Law_law_628 rfl (lv_at hl 3 rfl) ?_
      refine lv_aload_n hx hb d_Law_law_629 rfl (lv_at hl 4 rfl) ?_
      refine lv_iload hx hb d_Law_law_630 (lv_at hl 0 rfl) ?_
      refine lv_iconst (v := 1) hx hb d_Law_law_632 (by decide) ?_
      refine lv_iadd hx hb d_Law_law_633 ?_
      refine va_sld hx hb hX hbl hbA hS (i := 2 + 1) (show ¬ ((2 + 1 : Int32) < 0 ∨ 6 ≤ (2 + 1 : Int32).toNatClampNeg) by decide) d_Law_law_634 ?_
      refine gw_calli hS (va_runV (As := [.int (xs (2 + 1 : Int32).toNatClampNeg)]) (rest := []) ⟨hx, hb, hml, hown, hts⟩ (c_count l G M37 q1 row9 nums10 jobs11 known12 nowh13 gone14 (if 1 < (if 255 < z4 then 255 else z4) then (if 255 < z4 then 255 else z4) else 1) sc15 (xs (2 + 1 : Int32).toNatClampNeg) hf_q1 hf_row9 hf_jobs11 hf_known12 ) (cwV 1 hts (gw_gv mw342 mw343 mw344 mw83 mw341) rfl rfl rfl (by decide +kernel) ⟨Nat.le_of_ble_eq_true rfl, Nat.le_of_ble_eq_true rfl⟩) (gw_pv hE hB hS hW rfl hf_q1) rfl rfl hl.1 rfl (lv_room (Nat.le_of_ble_eq_true rfl)) d_Law_law_635 ⟨Nat.le_of_ble_eq_true rfl, Nat.le_of_ble_eq_true rfl⟩) (fun r177 M178 H locs hw179 hW hS => ?_)
      obtain ⟨rfl, rfl⟩ := hw179
      refine lv_aload_n hx hb d_Law_law_638 rfl (lv_at hl 2 rfl) ?_
      refine lv_aload_n hx hb d_Law_law_639 rfl (lv_at hl 4 rfl) ?_
      refine lv_iload hx hb d_Law_law_640 (lv_at hl 0 rfl) ?_
      refine lv_iconst (v := 1) hx hb d_Law_law_642 (by decide) ?_
      refine lv_iadd hx hb d_Law_law_643 ?_
      refine va_sld hx hb hX hbl hbA hS (i := 2 + 1) (show ¬ ((2 + 1 : Int32) < 0 ∨ 6 ≤ (2 + 1 : Int32).toNatClampNeg) by decide) d_Law_law_644 ?_
      refine gw_calli hS (va_runV (As := [.int (xs (2 + 1 : Int32).toNatClampNeg)]) (rest := [.int (gx_cnt (xs (2 + 1 : Int32).toNatClampNeg))]) ⟨hx, hb, hml, hown, hts⟩ (m_count l G M37 q17 there25 mrow26 found27 fsz28 ends29 made30 drops31 0 lm32 sm33 (xs (2 + 1 : Int32).toNatClampNeg) hf_q17 hf_there25 ) (cwV 1 hts (gw_gv mw346 mw347 mw348 mw169 mw345) rfl rfl rfl (by decide +kernel) ⟨Nat.le_of_ble_eq_true rfl, Nat.le_of_ble_eq_true rfl⟩) (gw_pv hE hB hS hW rfl hf_q17) rfl rfl hl.1 rfl (lv_room (Nat.le_of_ble_eq_true rfl)) d_Law_law_645 ⟨Nat.le_of_ble_eq_true rfl, Nat.le_of_ble_eq_true rfl⟩) (fun r180 M181 H locs hw182 hW hS => ?_)
      obtain ⟨rfl, hfr183⟩ := hw182
      have hf_there25 : M181 there25 = some (101, .inl (G.2.1 0, 10000, .inl (fun _ => 0))) := (hfr183 _ _ _ (by decide)).mp hf_there25
      have hf_mrow26 : M181 mrow26 = some (102, .inl (G.2.1 0, 300, .inl (fun _ => 0))) := (hfr183 _ _ _ (by decide)).mp hf_mrow26
      have hf_found27 : M181 found27 = some (103, .inl (G.2.1 0, 10240, .inl (fun _ => 0))) := (hfr183 _ _ _ (by decide)).mp hf_found27
      have hf_fsz28 : M181 fsz28 = some (104, .inl (G.2.1 0, 41, .inl (fun _ => 0))) := (hfr183 _ _ _ (by decide)).mp hf_fsz28
      have hf_ends29 : M181 ends29 = some (105, .inl (G.2.1 0, 41, .inl (fun _ => 0))) := (hfr183 _ _ _ (by decide)).mp hf_ends29
      have hf_made30 : M181 made30 = some (106, .inl (G.2.1 0, 4100, .inl (fun _ => 0))) := (hfr183 _ _ _ (by decide)).mp hf_made30
      have hf_drops31 : M181 drops31 = some (107, .inl (G.2.1 0, 2048, .inl (fun _ => 0))) := (hfr183 _ _ _ (by decide)).mp hf_drops31
      have hf_q1 : M181 q1 = some (1, .inr (0, [.int (if 1 < (if 255 < z4 then 255 else z4) then (if 255 < z4 then 255 else z4) else 1), .int sc15, .int 0, .ref row9, .ref jobs11, .ref known12, .ref nowh13, .ref gone14, .int 0])) := (hfr183 _ _ _ (by decide)).mp hf_q1
      have hf_row9 : M181 row9 = some (2, .inr (1, [.ref nums10, .int 0])) := (hfr183 _ _ _ (by decide)).mp hf_row9
      have hf_nums10 : M181 nums10 = some (3, .inl (G.2.1 0, 256, .inl (fun _ => 0))) := (hfr183 _ _ _ (by decide)).mp hf_nums10
      have hf_jobs11 : M181 jobs11 = some (4, .inr (4, [.int 0, .ref (G.2.2.1 0), .int 0])) := (hfr183 _ _ _ (by decide)).mp hf_jobs11
      have hf_known12 : M181 known12 = some (5, .inr (4, [.int 0, .ref (G.2.2.1 0), .int 0])) := (hfr183 _ _ _ (by decide)).mp hf_known12
      have hf_nowh13 : M181 nowh13 = some (12, .inr (2, [.int 0, .int 0, .int 0, .int 0, .int 0])) := (hfr183 _ _ _ (by decide)).mp hf_nowh13
      have hf_gone14 : M181 gone14 = some (8, .inl (G.2.1 0, 512, .inl (fun _ => 0))) := (hfr183 _ _ _ (by decide)).mp hf_gone14
      have hf_q35 : M181 q35 = some (50, .inl (G.2.1 2, 1, .inr (.inl (fun _ => 0)))) := (hfr183 _ _ _ (by decide)).mp hf_q35
      refine lv_icmp_eq (tgt := 653) hx hb d_Law_law_648 (by decide) (fun c648 => ?_) (fun c648 => ?_)
      · refine lv_iinc (v := 2 + 4) (lv' := [(4, .int (2 + 4)), (3, .ref q35), (2, .ref q17), (1, .ref q1), (0, .ref b)]) hx hb d_Law_law_653 hl (k := 0) rfl rfl (by decide) rfl (fun ls hl => ?_)
        refine lv_goto (tgt := 43) hx hb d_Law_law_656 (by decide) ?_
        refine lv_iload hx hb d_Law_law_43 (lv_at hl 0 rfl) ?_
        refine lv_aload_n hx hb d_Law_law_45 rfl (lv_at hl 4 rfl) ?_
        refine va_slen hx hb hX hbl hbA hS d_Law_law_46 ?_
        refine lv_iconst (v := 4) hx hb d_Law_law_47 (by decide) ?_
        refine lv_isub hx hb d_Law_law_48 ?_
        refine lv_icmp_gt (tgt := 659) hx hb d_Law_law_49 (by decide) (fun c49 => ?_) (fun c49 => ?_)
        · refine lv_iconst (v := 1) hx hb d_Law_law_659 (by decide) ?_
          refine va_forget (fun q hq => by have h9 := hS.2.2 q hq; rw [← eG]; exact h9) ?_
          refine W.widen (k := 600002) (n := 7302198) (Nat.le_of_ble_eq_true rfl) (Nat.le_of_ble_eq_true rfl) ?_
          exact lw_ret hx hb hr hlocks d_Law_law_660
        · exact absurd (by decide) c49
      · exact absurd rfl c648
