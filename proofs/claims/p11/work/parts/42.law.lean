/-! THE CLAIM OUT OF ONE WALK OF THE LAW'S BODY. Your part is whole_start (and what it stands on); all else here is the same for every law, but numbers. -/
def R_law : String := "GenerationsLaw"
def lw_P (b : Addr) (xs : List Int32) (args : Array Value) (s : State) : Prop := args = #[.ref b] ∧ s.IntsAt b xs ∧ xs.length ≤ 2050 ∧ (Jvm.Cond.and given_1 narrow_1).before args s = true
def lw_Q (_ : Array Value) (s : State) (o : Outcome) (t : State) : Prop := o = .returned (some (.int 1)) ∧ Framed s o t [] 601024 7293000
def lw_Z (below : List Frame) (a : Array Value) (s : State) : State → Prop := fun t => ∃ o, t.status = .running ∧ Ended t below o ∧ lw_Q a s o t
/-- the law's own end, with 1 on the stack, nothing written that was there before, its room as the claim has it -/
theorem lw_ret {p : Program} {l : Launch} {e : Env} {s : State} {m : MethodId} {below : List Frame} {meth : Method} {c : Code} {b : Nat} (hx : p.tables.exec = Jvm.exec) (hb : c.code = code) (hr : meth.sig.returnType = ret) (hlocks : meth.locks = false) {pc : Nat} {H : Heap} {ls : Array Slot} (hdg : decode code pc = .ok (.ireturn, 1)) : W p l e room_1 s m #[Value.ref b] below meth c H [] 601024 7293000 (lw_Z below #[Value.ref b] s) (F0 m pc ls [.int 1]) := by
  intro T hT X
  obtain ⟨fs, hret, hrun, hended, hW, hframe⟩ := X.leave (v := some (.int 1)) (hlocks := hlocks) (fun h => by rw [hr] at h; cases h)
  have hmeth' : T.vm.method? m = some meth := X.method'
  refine ⟨T.setFrames fs, ?_, .returned (some (.int 1)), hrun, hended, rfl, ⟨_, rfl⟩, hW, hframe⟩
  jvm_step X.here [X.here.top, hx, hb, hdg, hmeth', hr, ret, narrow_b1]
  (try refine ⟨rfl, ?_⟩); (try refine ⟨rfl, ?_⟩)
  first | (intro acts; rw [hret _ acts rfl rfl rfl]) | rw [hret _ _ rfl rfl rfl]
  exact Steps.refl _
/-- what holds at the law's entry: the machine, the code, the tables' words (any of lw_tbl by 'hts w (by decide +kernel)'), the script of L ints xs at the cell b, what the Statement gives of the start (any of its parts by flat_of_before) -/
def lw_At (p : Program) (s : State) (m : MethodId) (meth : Method) (c : Code) (b L : Nat) (xs : Nat → Int32) : Prop :=
  p.tables.exec = Jvm.exec ∧ c.code = code ∧ meth.sig.returnType = ret ∧ c.maxLocals = 7 ∧ s.vm.findClass R_law = some m.cls ∧ (∀ w ∈ lw_tbl, w.before #[Value.ref b] s = true) ∧ va_X b L xs s s.heap ∧ b < s.heap.size ∧ meth.locks = false ∧ (Jvm.Cond.and given_1 narrow_1).before #[Value.ref b] s = true
set_option maxHeartbeats 8000000 in
set_option maxRecDepth 100000 in
theorem whole_start {p : Program} {e : Env} {s : State} {m : MethodId} {below : List Frame} {meth : Method} {c : Code} (l : Launch) (hl9 : l.stackTraces = false) {b L : Nat} {xs : Nat → Int32} (hL : L ≤ 2050) (C0 : lw_At p s m meth c b L xs) : W p l e room_1 s m #[Value.ref b] below meth c s.heap [] 0 0 (lw_Z below #[Value.ref b] s) (entryFrame m ([Value.ref b] : List Value).toArray 7) := by
  obtain ⟨hx, hb, hr, hml, hown, hts0, hX, hbl, hlocks, hgv⟩ := id C0
  obtain ⟨G, eG, hE⟩ := gw_law hts0 hgv
  clear hts0 hgv
  have hts := hE.ts #[Value.ref b]
  have hL31 : L < 2 ^ 31 := by omega
  have hB : G.2.2.2 ≤ s.heap.size := by rw [eG]; exact Nat.le_refl _
  have hbA : ¬ gw_A G b := by show ¬ G.2.2.2 ≤ b; rw [eG]; exact Nat.not_le.mpr hbl
  have hS : va_S (gw_A G) s.heap s.heap [] := va_S.rf
  have hown : s.vm.findClass "GenerationsLaw" = some m.cls := hown
  obtain ⟨M, eM⟩ : ∃ z : gw_M, z = fun _ => none := ⟨_, rfl⟩
  have hW : gw_P G.1 vwCl G.2.2.2 M s.heap := by rw [eM]; exact gw_P.nil
  have hl := lv_entry ([.ref b]) (n := 7) (Nat.le_of_ble_eq_true rfl)
  rw [lg_entry_eq]
  generalize (lg_sl ([.ref b]) ++ List.replicate (7 - (lg_sl ([.ref b])).length) Slot.unset).toArray = ls at hl ⊢
  have hl : lv_has ls 7 [(0, .ref b)] := hl
  refine gw_new (ci := 0) (fs := [.int 0, .int 0, .int 0, .null, .null, .null, .null, .null, .int 0]) hx hb hts in_X t_X t_X_ok hown (hts _ mw331) (hts _ mw332) (hts _ mw42) hE.K hW hS hB rfl (fun j hj => by rcases (show j = 0 ∨ j = 1 ∨ j = 2 ∨ j = 3 ∨ j = 4 ∨ j = 5 ∨ j = 6 ∨ j = 7 ∨ j = 8 by omega) with rfl | rfl | rfl | rfl | rfl | rfl | rfl | rfl | rfl <;> rfl) (Nat.le_of_ble_eq_true rfl) (Nat.le_of_ble_eq_true rfl) d_Law_law_0 1 (fun q1 H hq2 hW hS => ?_)
  refine W.widen (k := 1) (n := 9) (Nat.le_refl _) (Nat.le_refl _) ?_
  have hF3 : gw_fg (gw_out [1, 2, 3, 4, 5, 8, 12, 50, 100, 101, 102, 103, 104, 105, 106, 107]) M (gw_up M q1 1 (.inr (0, [.int 0, .int 0, .int 0, .null, .null, .null, .null, .null, .int 0]))) := gw_fg.new gw_fg.rf hq2 (show ¬ ((gw_out [1, 2, 3, 4, 5, 8, 12, 50, 100, 101, 102, 103, 104, 105, 106, 107]) 1) by decide)
  obtain ⟨M4, eM4⟩ : ∃ z, z = gw_up M q1 1 (.inr (0, [.int 0, .int 0, .int 0, .null, .null, .null, .null, .null, .int 0])) := ⟨_, rfl⟩
  replace hW : gw_P G.1 vwCl G.2.2.2 M4 H := by rw [eM4]; exact hW
  have hf_q1 : M4 q1 = some (1, .inr (0, [.int 0, .int 0, .int 0, .null, .null, .null, .null, .null, .int 0])) := by rw [eM4]; exact gw_up_self _ _ _ _
  rw [← eM4] at hF3
  refine lv_dup hx hb d_Law_law_3 rfl ?_
  refine lv_aload_n hx hb d_Law_law_4 rfl (lv_at hl 0 rfl) ?_
  refine lv_iconst (v := 0) hx hb d_Law_law_5 (by decide) ?_
  refine W.callA (W.runS (As := [.ref b, .int 0]) (rest := [.ref q1, .ref q1]) ⟨hx, hb, hml, hown, hts⟩ (c_cell l b L xs 0 (by decide) hL31) (cwS 2 hts (gw_gs mw333 mw334 mw335 mw336) rfl rfl rfl (by decide +kernel) ⟨Nat.le_of_ble_eq_true rfl, Nat.le_of_ble_eq_true rfl⟩) (gc_ps hX hbl hbA hS) rfl rfl hl.1 rfl (lv_room (Nat.le_of_ble_eq_true rfl)) d_Law_law_6 ⟨Nat.le_of_ble_eq_true rfl, Nat.le_of_ble_eq_true rfl⟩) (fun z5 => ?_)
  refine W.eq (g2 := F0 m 9 ls [.int z5, .ref q1, .ref q1]) rfl ?_
  refine lv_aload_n hx hb d_Law_law_9 rfl (lv_at hl 0 rfl) ?_
  refine lv_iconst (v := 1) hx hb d_Law_law_10 (by decide) ?_
  refine W.callA (W.runS (As := [.ref b, .int 1]) (rest := [.int z5, .ref q1, .ref q1]) ⟨hx, hb, hml, hown, hts⟩ (c_cell l b L xs 1 (by decide) hL31) (cwS 2 hts (gw_gs mw333 mw334 mw335 mw336) rfl rfl rfl (by decide +kernel) ⟨Nat.le_of_ble_eq_true rfl, Nat.le_of_ble_eq_true rfl⟩) (gc_ps hX hbl hbA hS) rfl rfl hl.1 rfl (lv_room (Nat.le_of_ble_eq_true rfl)) d_Law_law_11 ⟨Nat.le_of_ble_eq_true rfl, Nat.le_of_ble_eq_true rfl⟩) (fun z6 => ?_)
  refine W.eq (g2 := F0 m 14 ls [.int z6, .int z5, .ref q1, .ref q1]) rfl ?_
  refine gw_callv hS (va_runI (As := [.int z5, .int z6]) (rest := [.ref q1]) ⟨hx, hb, hml, hown, hts⟩ (k_X_init l G M4 q1 z5 z6 hf_q1 ) (cwI 2 hts (gw_g1 mw337) rfl rfl rfl (hts _ mw42) (hts _ mw338) (hts _ mw339) rfl (by decide +kernel) ⟨Nat.le_of_ble_eq_true rfl, Nat.le_of_ble_eq_true rfl⟩) (gw_ps hE hB hS hW) rfl rfl hl.1 rfl (lv_room (Nat.le_of_ble_eq_true rfl)) d_Law_law_14 ⟨Nat.le_of_ble_eq_true rfl, Nat.le_of_ble_eq_true rfl⟩) (fun M8 H locs hw9 hW hS => ?_)
  refine W.widen (k := 7) (n := 790) (Nat.le_refl _) (Nat.le_refl _) ?_
  obtain ⟨row10, nums11, jobs12, known13, nowh14, gone15, sc16, hf_q1', hf_row10', hf_nums11', hf_jobs12', hf_known13', hf_nowh14', hf_gone15', hfr17⟩ := hw9
  have hf_q1 : M8 q1 = some (1, .inr (0, [.int (if 1 < (if 255 < z5 then 255 else z5) then (if 255 < z5 then 255 else z5) else 1), .int sc16, .int 0, .ref row10, .ref jobs12, .ref known13, .ref nowh14, .ref gone15, .int 0])) := hf_q1'
  have hf_row10 : M8 row10 = some (2, .inr (1, [.ref nums11, .int 0])) := hf_row10'
  have hf_nums11 : M8 nums11 = some (3, .inl (G.2.1 0, 256, .inl (fun _ => 0))) := hf_nums11'
  have hf_jobs12 : M8 jobs12 = some (4, .inr (4, [.int 0, .ref (G.2.2.1 0), .int 0])) := hf_jobs12'
  have hf_known13 : M8 known13 = some (5, .inr (4, [.int 0, .ref (G.2.2.1 0), .int 0])) := hf_known13'
  have hf_nowh14 : M8 nowh14 = some (12, .inr (2, [.int 0, .int 0, .int 0, .int 0, .int 0])) := hf_nowh14'
  have hf_gone15 : M8 gone15 = some (8, .inl (G.2.1 0, 512, .inl (fun _ => 0))) := hf_gone15'
  have hF18 : gw_fg (gw_out [1, 2, 3, 4, 5, 8, 12, 50, 100, 101, 102, 103, 104, 105, 106, 107]) M M8 := gw_fg.tr hF3 (gw_fg.wk hfr17 (by decide))
  refine lv_astore_n (lv' := [(1, .ref q1), (0, .ref b)]) hx hb d_Law_law_17 rfl hl (by decide) rfl (fun ls hl => ?_)
  refine gw_new (ci := 5) (fs := [.int 0, .int 0, .int 0, .int 0, .null, .null, .int 0, .null, .null, .null, .null, .int 0, .int 0, .null, .int 0]) hx hb hts in_Mo t_Mo t_Mo_ok hown (hts _ mw340) (hts _ mw341) (hts _ mw228) hE.K hW hS hB rfl (fun j hj => by rcases (show j = 0 ∨ j = 1 ∨ j = 2 ∨ j = 3 ∨ j = 4 ∨ j = 5 ∨ j = 6 ∨ j = 7 ∨ j = 8 ∨ j = 9 ∨ j = 10 ∨ j = 11 ∨ j = 12 ∨ j = 13 ∨ j = 14 by omega) with rfl | rfl | rfl | rfl | rfl | rfl | rfl | rfl | rfl | rfl | rfl | rfl | rfl | rfl | rfl <;> rfl) (Nat.le_of_ble_eq_true rfl) (Nat.le_of_ble_eq_true rfl) d_Law_law_18 100 (fun q19 H hq20 hW hS => ?_)
  refine W.widen (k := 8) (n := 805) (Nat.le_refl _) (Nat.le_refl _) ?_
  have hF21 : gw_fg (gw_out [1, 2, 3, 4, 5, 8, 12, 50, 100, 101, 102, 103, 104, 105, 106, 107]) M (gw_up M8 q19 100 (.inr (5, [.int 0, .int 0, .int 0, .int 0, .null, .null, .int 0, .null, .null, .null, .null, .int 0, .int 0, .null, .int 0]))) := gw_fg.new hF18 hq20 (show ¬ ((gw_out [1, 2, 3, 4, 5, 8, 12, 50, 100, 101, 102, 103, 104, 105, 106, 107]) 100) by decide)
  obtain ⟨M22, eM22⟩ : ∃ z, z = gw_up M8 q19 100 (.inr (5, [.int 0, .int 0, .int 0, .int 0, .null, .null, .int 0, .null, .null, .null, .null, .int 0, .int 0, .null, .int 0])) := ⟨_, rfl⟩
  replace hW : gw_P G.1 vwCl G.2.2.2 M22 H := by rw [eM22]; exact hW
  have hf_q1 : M22 q1 = some (1, .inr (0, [.int (if 1 < (if 255 < z5 then 255 else z5) then (if 255 < z5 then 255 else z5) else 1), .int sc16, .int 0, .ref row10, .ref jobs12, .ref known13, .ref nowh14, .ref gone15, .int 0])) := by rw [eM22]; exact gw_keepN hf_q1 hq20
  have hf_row10 : M22 row10 = some (2, .inr (1, [.ref nums11, .int 0])) := by rw [eM22]; exact gw_keepN hf_row10 hq20
  have hf_nums11 : M22 nums11 = some (3, .inl (G.2.1 0, 256, .inl (fun _ => 0))) := by rw [eM22]; exact gw_keepN hf_nums11 hq20
  have hf_jobs12 : M22 jobs12 = some (4, .inr (4, [.int 0, .ref (G.2.2.1 0), .int 0])) := by rw [eM22]; exact gw_keepN hf_jobs12 hq20
  have hf_known13 : M22 known13 = some (5, .inr (4, [.int 0, .ref (G.2.2.1 0), .int 0])) := by rw [eM22]; exact gw_keepN hf_known13 hq20
  have hf_nowh14 : M22 nowh14 = some (12, .inr (2, [.int 0, .int 0, .int 0, .int 0, .int 0])) := by rw [eM22]; exact gw_keepN hf_nowh14 hq20
  have hf_gone15 : M22 gone15 = some (8, .inl (G.2.1 0, 512, .inl (fun _ => 0))) := by rw [eM22]; exact gw_keepN hf_gone15 hq20
  have hf_q19 : M22 q19 = some (100, .inr (5, [.int 0, .int 0, .int 0, .int 0, .null, .null, .int 0, .null, .null, .null, .null, .int 0, .int 0, .null, .int 0])) := by rw [eM22]; exact gw_up_self _ _ _ _
  rw [← eM22] at hF21
  refine lv_dup hx hb d_Law_law_21 rfl ?_
  refine lv_aload_n hx hb d_Law_law_22 rfl (lv_at hl 1 rfl) ?_
  refine lv_iconst (v := 0) hx hb d_Law_law_23 (by decide) ?_
  refine W.callA (W.runS (As := [.ref b, .int 0]) (rest := [.ref q19, .ref q19]) ⟨hx, hb, hml, hown, hts⟩ (c_cell l b L xs 0 (by decide) hL31) (cwS 2 hts (gw_gs mw333 mw334 mw335 mw336) rfl rfl rfl (by decide +kernel) ⟨Nat.le_of_ble_eq_true rfl, Nat.le_of_ble_eq_true rfl⟩) (gc_ps hX hbl hbA hS) rfl rfl hl.1 rfl (lv_room (Nat.le_of_ble_eq_true rfl)) d_Law_law_24 ⟨Nat.le_of_ble_eq_true rfl, Nat.le_of_ble_eq_true rfl⟩) (fun z23 => ?_)
  refine W.eq (g2 := F0 m 27 ls [.int z23, .ref q19, .ref q19]) rfl ?_
  refine lv_aload_n hx hb d_Law_law_27 rfl (lv_at hl 1 rfl) ?_
  refine lv_iconst (v := 1) hx hb d_Law_law_28 (by decide) ?_
  refine W.callA (W.runS (As := [.ref b, .int 1]) (rest := [.int z23, .ref q19, .ref q19]) ⟨hx, hb, hml, hown, hts⟩ (c_cell l b L xs 1 (by decide) hL31) (cwS 2 hts (gw_gs mw333 mw334 mw335 mw336) rfl rfl rfl (by decide +kernel) ⟨Nat.le_of_ble_eq_true rfl, Nat.le_of_ble_eq_true rfl⟩) (gc_ps hX hbl hbA hS) rfl rfl hl.1 rfl (lv_room (Nat.le_of_ble_eq_true rfl)) d_Law_law_29 ⟨Nat.le_of_ble_eq_true rfl, Nat.le_of_ble_eq_true rfl⟩) (fun z24 => ?_)
  refine W.eq (g2 := F0 m 32 ls [.int z24, .int z23, .ref q19, .ref q19]) rfl ?_
  refine gw_callv hS (va_runI (As := [.int z23, .int z24]) (rest := [.ref q19]) ⟨hx, hb, hml, hown, hts⟩ (k_m_init l G M22 q19 z23 z24 hf_q19 ) (cwI 2 hts (gw_g1 mw342) rfl rfl rfl (hts _ mw228) (hts _ mw343) (hts _ mw344) rfl (by decide +kernel) ⟨Nat.le_of_ble_eq_true rfl, Nat.le_of_ble_eq_true rfl⟩) (gw_ps hE hB hS hW) rfl rfl hl.1 rfl (lv_room (Nat.le_of_ble_eq_true rfl)) d_Law_law_32 ⟨Nat.le_of_ble_eq_true rfl, Nat.le_of_ble_eq_true rfl⟩) (fun M26 H locs hw27 hW hS => ?_)
  refine W.widen (k := 15) (n := 27575) (Nat.le_refl _) (Nat.le_refl _) ?_
  obtain ⟨there28, mrow29, found30, fsz31, ends32, made33, drops34, lm35, sm36, hf_q19', hf_there28', hf_mrow29', hf_found30', hf_fsz31', hf_ends32', hf_made33', hf_drops34', hlm, hfr37⟩ := hw27
  have hf_q1 : M26 q1 = some (1, .inr (0, [.int (if 1 < (if 255 < z5 then 255 else z5) then (if 255 < z5 then 255 else z5) else 1), .int sc16, .int 0, .ref row10, .ref jobs12, .ref known13, .ref nowh14, .ref gone15, .int 0])) := (hfr37.1 _ _ _ (by decide)).mp hf_q1
  have hf_row10 : M26 row10 = some (2, .inr (1, [.ref nums11, .int 0])) := (hfr37.1 _ _ _ (by decide)).mp hf_row10
  have hf_nums11 : M26 nums11 = some (3, .inl (G.2.1 0, 256, .inl (fun _ => 0))) := (hfr37.1 _ _ _ (by decide)).mp hf_nums11
  have hf_jobs12 : M26 jobs12 = some (4, .inr (4, [.int 0, .ref (G.2.2.1 0), .int 0])) := (hfr37.1 _ _ _ (by decide)).mp hf_jobs12
  have hf_known13 : M26 known13 = some (5, .inr (4, [.int 0, .ref (G.2.2.1 0), .int 0])) := (hfr37.1 _ _ _ (by decide)).mp hf_known13
  have hf_nowh14 : M26 nowh14 = some (12, .inr (2, [.int 0, .int 0, .int 0, .int 0, .int 0])) := (hfr37.1 _ _ _ (by decide)).mp hf_nowh14
  have hf_gone15 : M26 gone15 = some (8, .inl (G.2.1 0, 512, .inl (fun _ => 0))) := (hfr37.1 _ _ _ (by decide)).mp hf_gone15
  have hf_q19 : M26 q19 = some (100, .inr (5, [.int 0, .int lm35, .int sm36, .int 0, .ref there28, .ref mrow29, .int 0, .ref found30, .ref fsz31, .ref ends32, .ref made33, .int 0, .int 0, .ref drops34, .int 0])) := hf_q19'
  have hf_there28 : M26 there28 = some (101, .inl (G.2.1 0, 10000, .inl (fun _ => 0))) := hf_there28'
  have hf_mrow29 : M26 mrow29 = some (102, .inl (G.2.1 0, 300, .inl (fun _ => 0))) := hf_mrow29'
  have hf_found30 : M26 found30 = some (103, .inl (G.2.1 0, 10240, .inl (fun _ => 0))) := hf_found30'
  have hf_fsz31 : M26 fsz31 = some (104, .inl (G.2.1 0, 41, .inl (fun _ => 0))) := hf_fsz31'
  have hf_ends32 : M26 ends32 = some (105, .inl (G.2.1 0, 41, .inl (fun _ => 0))) := hf_ends32'
  have hf_made33 : M26 made33 = some (106, .inl (G.2.1 0, 4100, .inl (fun _ => 0))) := hf_made33'
  have hf_drops34 : M26 drops34 = some (107, .inl (G.2.1 0, 2048, .inl (fun _ => 0))) := hf_drops34'
  have hF38 : gw_fg (gw_out [1, 2, 3, 4, 5, 8, 12, 50, 100, 101, 102, 103, 104, 105, 106, 107]) M M26 := gw_fg.tr hF21 (gw_fg.wk hfr37 (by decide))
  refine lv_astore_n (lv' := [(2, .ref q19), (1, .ref q1), (0, .ref b)]) hx hb d_Law_law_35 rfl hl (by decide) rfl (fun ls hl => ?_)
  refine lv_iconst (v := 1) hx hb d_Law_law_36 (by decide) ?_
  refine gw_newa (atype := .long) (ty := .long) (n := 1) (a0 := (1, .inr (.inl (fun _ => 0)))) (N' := 1) hx hb (hts (.arrayClass .long) mw345) rfl hE.K hW hS hB (gw_zl 1) (by decide) (by decide) (Nat.le_of_ble_eq_true rfl) (Nat.le_of_ble_eq_true rfl) (Nat.le_of_ble_eq_true rfl) d_Law_law_37 2 rfl (fun cA h1 h2 => gw_rl _ _ h1 h2) 50 (fun q39 H hq40 hW hS => ?_)
  refine W.widen (k := 16) (n := 27576) (Nat.le_refl _) (Nat.le_refl _) ?_
  have hF41 : gw_fg (gw_out [1, 2, 3, 4, 5, 8, 12, 50, 100, 101, 102, 103, 104, 105, 106, 107]) M (gw_up M26 q39 50 (.inl (G.2.1 2, 1, .inr (.inl (fun _ => 0))))) := gw_fg.new hF38 hq40 (show ¬ ((gw_out [1, 2, 3, 4, 5, 8, 12, 50, 100, 101, 102, 103, 104, 105, 106, 107]) 50) by decide)
  obtain ⟨M42, eM42⟩ : ∃ z, z = gw_up M26 q39 50 (.inl (G.2.1 2, 1, .inr (.inl (fun _ => 0)))) := ⟨_, rfl⟩
  replace hW : gw_P G.1 vwCl G.2.2.2 M42 H := by rw [eM42]; exact hW
  have hf_q19 : M42 q19 = some (100, .inr (5, [.int 0, .int lm35, .int sm36, .int 0, .ref there28, .ref mrow29, .int 0, .ref found30, .ref fsz31, .ref ends32, .ref made33, .int 0, .int 0, .ref drops34, .int 0])) := by rw [eM42]; exact gw_keepN hf_q19 hq40
  have hf_there28 : M42 there28 = some (101, .inl (G.2.1 0, 10000, .inl (fun _ => 0))) := by rw [eM42]; exact gw_keepN hf_there28 hq40
  have hf_mrow29 : M42 mrow29 = some (102, .inl (G.2.1 0, 300, .inl (fun _ => 0))) := by rw [eM42]; exact gw_keepN hf_mrow29 hq40
  have hf_found30 : M42 found30 = some (103, .inl (G.2.1 0, 10240, .inl (fun _ => 0))) := by rw [eM42]; exact gw_keepN hf_found30 hq40
  have hf_fsz31 : M42 fsz31 = some (104, .inl (G.2.1 0, 41, .inl (fun _ => 0))) := by rw [eM42]; exact gw_keepN hf_fsz31 hq40
  have hf_ends32 : M42 ends32 = some (105, .inl (G.2.1 0, 41, .inl (fun _ => 0))) := by rw [eM42]; exact gw_keepN hf_ends32 hq40
  have hf_made33 : M42 made33 = some (106, .inl (G.2.1 0, 4100, .inl (fun _ => 0))) := by rw [eM42]; exact gw_keepN hf_made33 hq40
  have hf_drops34 : M42 drops34 = some (107, .inl (G.2.1 0, 2048, .inl (fun _ => 0))) := by rw [eM42]; exact gw_keepN hf_drops34 hq40
  have hf_q1 : M42 q1 = some (1, .inr (0, [.int (if 1 < (if 255 < z5 then 255 else z5) then (if 255 < z5 then 255 else z5) else 1), .int sc16, .int 0, .ref row10, .ref jobs12, .ref known13, .ref nowh14, .ref gone15, .int 0])) := by rw [eM42]; exact gw_keepN hf_q1 hq40
  have hf_row10 : M42 row10 = some (2, .inr (1, [.ref nums11, .int 0])) := by rw [eM42]; exact gw_keepN hf_row10 hq40
  have hf_nums11 : M42 nums11 = some (3, .inl (G.2.1 0, 256, .inl (fun _ => 0))) := by rw [eM42]; exact gw_keepN hf_nums11 hq40
  have hf_jobs12 : M42 jobs12 = some (4, .inr (4, [.int 0, .ref (G.2.2.1 0), .int 0])) := by rw [eM42]; exact gw_keepN hf_jobs12 hq40
  have hf_known13 : M42 known13 = some (5, .inr (4, [.int 0, .ref (G.2.2.1 0), .int 0])) := by rw [eM42]; exact gw_keepN hf_known13 hq40
  have hf_nowh14 : M42 nowh14 = some (12, .inr (2, [.int 0, .int 0, .int 0, .int 0, .int 0])) := by rw [eM42]; exact gw_keepN hf_nowh14 hq40
  have hf_gone15 : M42 gone15 = some (8, .inl (G.2.1 0, 512, .inl (fun _ => 0))) := by rw [eM42]; exact gw_keepN hf_gone15 hq40
  have hf_q39 : M42 q39 = some (50, .inl (G.2.1 2, 1, .inr (.inl (fun _ => 0)))) := by rw [eM42]; exact gw_up_self _ _ _ _
  rw [← eM42] at hF41
  refine lv_astore_n (lv' := [(3, .ref q39), (2, .ref q19), (1, .ref q1), (0, .ref b)]) hx hb d_Law_law_39 rfl hl (by decide) rfl (fun ls hl => ?_)
  refine lv_iconst (v := 2) hx hb d_Law_law_40 (by decide) ?_
  refine lv_istore (lv' := [(4, .int 2), (3, .ref q39), (2, .ref q19), (1, .ref q1), (0, .ref b)]) hx hb d_Law_law_41 hl (by decide) rfl (fun ls hl => ?_)
  obtain ⟨A, rfl, rfl, rfl, rfl, rfl, rfl, rfl⟩ : ∃ z : Nat → Nat, z 0 = q1 ∧ z 1 = row10 ∧ z 2 = nums11 ∧ z 3 = jobs12 ∧ z 4 = known13 ∧ z 5 = nowh14 ∧ z 6 = gone15 := ⟨fun i => match i with | 0 => q1 | 1 => row10 | 2 => nums11 | 3 => jobs12 | 4 => known13 | 5 => nowh14 | _ => gone15, rfl, rfl, rfl, rfl, rfl, rfl, rfl⟩
  obtain ⟨B, rfl, rfl, rfl, rfl, rfl, rfl, rfl, rfl⟩ : ∃ z : Nat → Nat, z 0 = q19 ∧ z 1 = there28 ∧ z 2 = mrow29 ∧ z 3 = found30 ∧ z 4 = fsz31 ∧ z 5 = ends32 ∧ z 6 = made33 ∧ z 7 = drops34 := ⟨fun i => match i with | 0 => q19 | 1 => there28 | 2 => mrow29 | 3 => found30 | 4 => fsz31 | 5 => ends32 | 6 => made33 | _ => drops34, rfl, rfl, rfl, rfl, rfl, rfl, rfl, rfl⟩
  obtain ⟨lm2, rfl, hm1, hm2⟩ := hlm
  obtain ⟨lm, elm, hl1, hl2⟩ := gx_limN z5
  have hM := gm_X.first (G := G) (B := B) hf_q19 hf_there28 hf_mrow29 hf_found30 hf_fsz31 hf_ends32 hf_made33 hf_drops34 ⟨hm1, hm2⟩
  have hV := gx_V.first (G := G) (A := A) hf_q1 hf_row10 hf_nums11 hf_gone15 hf_jobs12 hf_known13 hf_nowh14 (fun r a e hr => (hF41).1.no eM (by rcases hr with rfl | rfl | rfl <;> decide))
  rw [elm] at hV
  have hW9 := gw_P.rr (r := 9) hW hf_nowh14
  replace hM := hM.stays (gw_fr.rr2 (r1 := 9) (e := .inr (2, [.int 0, .int 0, .int 0, .int 0, .int 0])) hf_nowh14) (by decide)
  have hO := ((gw_fr.rr2 (r1 := 9) (e := .inr (2, [.int 0, .int 0, .int 0, .int 0, .int 0])) hf_nowh14) _ _ _ (by decide)).mp hf_q39
  clear hf_q19 hf_there28 hf_mrow29 hf_found30 hf_fsz31 hf_ends32 hf_made33 hf_drops34 hf_q1 hf_row10 hf_nums11 hf_jobs12 hf_known13 hf_nowh14 hf_gone15 hf_q39 hW
  obtain ⟨Mw, eMw⟩ : ∃ z, z = gw_up M42 (A 5) 9 (.inr (2, [.int 0, .int 0, .int 0, .int 0, .int 0])) := ⟨_, rfl⟩
  rw [← eMw] at hW9 hM hV hO
  have hW := hW9
  clear hW9 eMw
  obtain ⟨t, et⟩ : ∃ z : Nat, z = 0 := ⟨_, rfl⟩
  obtain ⟨j, ej⟩ : ∃ z : Nat, z = 0 := ⟨_, rfl⟩
  obtain ⟨n, en⟩ : ∃ z : Nat, z = 0 := ⟨_, rfl⟩
  obtain ⟨rs, ers⟩ : ∃ z : Nat, z = 0 := ⟨_, rfl⟩
  obtain ⟨sz, esz⟩ : ∃ z : Nat, z = 0 := ⟨_, rfl⟩
  obtain ⟨dr, edr⟩ : ∃ z : Nat, z = 0 := ⟨_, rfl⟩
  obtain ⟨E, eE⟩ : ∃ z : Int32, z = 0 := ⟨_, rfl⟩
  obtain ⟨fo, efo⟩ : ∃ z : Nat → Int64, z = fun _ => 0 := ⟨_, rfl⟩
  replace hl : lv_has ls 7 [(4, .int (nI (4 * t + 2))), (3, .ref q39), (2, .ref (B 0)), (1, .ref (A 0)), (0, .ref b)] := by subst et; exact hl
  replace hV : gx_V G A (nI lm) sc16 E j n rs Mw := by subst eE ej en ers; exact hV
  replace hM : gm_X G B lm2 sm36 E j sz dr Mw := by subst eE ej esz edr; exact hM
  replace hO : Mw q39 = some (50, .inl (G.2.1 2, 1, .inr (.inl fo))) := by subst efo; exact hO
  have hI : t ≤ 512 ∧ n ≤ t ∧ dr + sz ≤ t ∧ rs ≤ 255 ∧ sz ≤ lm2 ∧ j ≤ 40 := by omega
  refine W.widen (k := 30 + 3 * t) (n := 40000 + 1258 * t) (by omega) (by omega) ?_
  clear et eE ej en ers esz edr efo
  obtain ⟨locs, elocs⟩ : ∃ z, z = locs := ⟨_, rfl⟩
  rw [← elocs] at hS ⊢
  clear elocs
  obtain ⟨z9, hz9⟩ : ∃ z : Nat, 600 - t < z := ⟨_, Nat.lt_succ_self _⟩
  induction z9 generalizing t ls H locs Mw E j n rs sz dr fo with
  | zero => exact absurd hz9 (Nat.not_lt_zero _)
  | succ z9 ih9 =>
    refine lv_iload hx hb d_Law_law_43 (lv_at hl 0 rfl) ?_
    refine lv_aload_n hx hb d_Law_law_45 rfl (lv_at hl 4 rfl) ?_
    refine va_slen hx hb hX hbl hbA hS d_Law_law_46 ?_
    refine lv_iconst (v := 4) hx hb d_Law_law_47 (by decide) ?_
    refine lv_isub hx hb d_Law_law_48 ?_
    refine lv_icmp_gt (tgt := 547) hx hb d_Law_law_49 (by decide) (fun c49 => ?_) (fun c49 => ?_)
    · refine lv_iconst (v := 1) hx hb d_Law_law_547 (by decide) ?_
      refine va_forget (fun q hq => by have h9 := hS.2.2 q hq; rw [← eG]; exact h9) ?_
      refine W.widen (k := 601024) (n := 7293000) (by omega) (by omega) ?_
      exact lw_ret hx hb hr hlocks d_Law_law_548
    · have hg := gl_guard c49 hL (by omega)
      refine lv_aload_n hx hb d_Law_law_52 rfl (lv_at hl 4 rfl) ?_
      refine lv_iload hx hb d_Law_law_53 (lv_at hl 0 rfl) ?_
      refine va_sld hx hb hX hbl hbA hS (i := nI (4 * t + 2)) (gl_in (k := 4 * t + 2) (d := 0) rfl hg (by omega) hL) d_Law_law_55 ?_
      obtain ⟨v43, ev43⟩ : ∃ z : Int32, z = xs (nI (4 * t + 2) : Int32).toNatClampNeg := ⟨_, rfl⟩
      refine W.eq (g2 := F0 m 56 ls [.int v43]) (by rw [ev43]) ?_
      refine lv_bipush (v := 15) hx hb d_Law_law_56 (by decide) ?_
      refine lv_iand hx hb d_Law_law_58 ?_
      rcases gx_sw12 (v43 &&& 15) with h9 | h9 | h9 | h9 | h9 | h9 | h9 | h9 | h9 | h9 | h9 | h9 | h9 | h9
      · refine lv_tableOut (tgt := 541) hx hb d_Law_law_59 h9 (by decide) ?_
        refine lv_iinc (v := (nI (4 * t + 2)) + 4) (lv' := [(4, .int ((nI (4 * t + 2)) + 4)), (3, .ref q39), (2, .ref (B 0)), (1, .ref (A 0)), (0, .ref b)]) hx hb d_Law_law_541 hl (k := 0) rfl rfl (by decide) rfl (fun ls hl => ?_)
        refine lv_goto (tgt := 43) hx hb d_Law_law_544 (by decide) ?_
        refine W.widen (k := 30 + 3 * (t + 1)) (n := 40000 + 1258 * (t + 1)) (by omega) (by omega) ?_
        rw [gl_n4, show 4 * t + 2 + 4 = 4 * (t + 1) + 2 by omega] at hl
        apply ih9 (t := t + 1) (ls := ls) (H := H) (locs := locs) (Mw := Mw) (E := E) (j := j) (n := n) (rs := rs) (sz := sz) (dr := dr) (fo := fo) <;> first | exact lv_sub hl [0, 1, 2, 3, 4] rfl | exact hV | exact hM | exact hO | exact hW | exact hS | omega | assumption
      · refine lv_tableIn (tgt := 124) hx hb d_Law_law_59 (by rw [h9]; decide) (by rw [h9]; decide) (by rw [h9]; rfl) (by decide) ?_
        refine lv_aload_n hx hb d_Law_law_124 rfl (lv_at hl 3 rfl) ?_
        refine lv_aload_n hx hb d_Law_law_125 rfl (lv_at hl 4 rfl) ?_
        refine lv_iload hx hb d_Law_law_126 (lv_at hl 0 rfl) ?_
        refine lv_iconst (v := 1) hx hb d_Law_law_128 (by decide) ?_
        refine lv_iadd hx hb d_Law_law_129 ?_
        refine va_sld hx hb hX hbl hbA hS (i := (nI (4 * t + 2)) + 1) (gl_in (k := 4 * t + 2) (d := 1) (gl_n1 _) hg (by omega) hL) d_Law_law_130 ?_
        obtain ⟨v44, ev44⟩ : ∃ z : Int32, z = xs ((nI (4 * t + 2)) + 1 : Int32).toNatClampNeg := ⟨_, rfl⟩
        refine W.eq (g2 := F0 m 131 ls [.int v44, .ref (A 0)]) (by rw [ev44]) ?_
        obtain ⟨_, _, _, hfx, -⟩ := id hV
        refine gw_calli hS (va_runV (As := [.int v44]) (rest := []) ⟨hx, hb, hml, hown, hts⟩ (v_catalogue l G Mw A (nI lm) sc16 E j n rs hV v44 lm rfl (by omega) (by omega) (by omega) (by omega)) (cwV 1 hts (gw_gv mw347 mw348 mw349 mw42 mw346) rfl rfl rfl (by decide +kernel) ⟨Nat.le_of_ble_eq_true rfl, Nat.le_of_ble_eq_true rfl⟩) (gw_pv hE hB hS hW rfl hfx) rfl rfl hl.1 rfl (lv_room (Nat.le_of_ble_eq_true rfl)) d_Law_law_131 ⟨Nat.le_trans (m := 590000) (by omega) (Nat.le_of_ble_eq_true rfl), Nat.le_trans (m := 7200000) (by omega) (Nat.le_of_ble_eq_true rfl)⟩) (fun r45 M46 H locs hw47 hW hS => ?_)
        refine W.widen (k := 30 + 3 * t + 2) (n := 40000 + 1258 * t + 1005) (by omega) (by omega) ?_
        clear hfx
        obtain ⟨n249, rs250, hb51, hb52, hV, hfr48⟩ := hw47
        replace hM := hM.stays hfr48.1 (by decide)
        replace hO := (hfr48.1 _ _ _ (by decide)).mp hO
        clear hfr48
        refine lv_pop hx hb d_Law_law_134 rfl ?_
        refine lv_aload_n hx hb d_Law_law_135 rfl (lv_at hl 2 rfl) ?_
        refine lv_aload_n hx hb d_Law_law_136 rfl (lv_at hl 4 rfl) ?_
        refine lv_iload hx hb d_Law_law_137 (lv_at hl 0 rfl) ?_
        refine lv_iconst (v := 1) hx hb d_Law_law_139 (by decide) ?_
        refine lv_iadd hx hb d_Law_law_140 ?_
        refine va_sld hx hb hX hbl hbA hS (i := (nI (4 * t + 2)) + 1) (gl_in (k := 4 * t + 2) (d := 1) (gl_n1 _) hg (by omega) hL) d_Law_law_141 ?_
        refine W.eq (g2 := F0 m 142 ls [.int v44, .ref (B 0)]) (by rw [ev44]) ?_
        obtain ⟨_, _, _, _, _, _, _, _, _, hfm, -⟩ := id hM
        refine gw_calli hS (va_runV (As := [.int v44]) (rest := []) ⟨hx, hb, hml, hown, hts⟩ (m_catalogue l G M46 B lm2 sm36 E j sz dr hM v44 (by omega) (by omega)) (cwV 1 hts (gw_gv mw351 mw352 mw353 mw228 mw350) rfl rfl rfl (by decide +kernel) ⟨Nat.le_of_ble_eq_true rfl, Nat.le_of_ble_eq_true rfl⟩) (gw_pv hE hB hS hW rfl hfm) rfl rfl hl.1 rfl (lv_room (Nat.le_of_ble_eq_true rfl)) d_Law_law_142 ⟨Nat.le_trans (m := 590000) (by omega) (Nat.le_of_ble_eq_true rfl), Nat.le_trans (m := 7200000) (by omega) (Nat.le_of_ble_eq_true rfl)⟩) (fun r53 M54 H locs hw55 hW hS => ?_)
        clear hfm
        obtain ⟨sz257, dr258, hb59, hb60, hM, hfr56⟩ := hw55
        replace hV := hV.stays hfr56.1 (by decide)
        replace hO := (hfr56.1 _ _ _ (by decide)).mp hO
        clear hfr56
        refine lv_pop hx hb d_Law_law_145 rfl ?_
        refine lv_goto (tgt := 541) hx hb d_Law_law_146 (by decide) ?_
        refine lv_iinc (v := (nI (4 * t + 2)) + 4) (lv' := [(4, .int ((nI (4 * t + 2)) + 4)), (3, .ref q39), (2, .ref (B 0)), (1, .ref (A 0)), (0, .ref b)]) hx hb d_Law_law_541 hl (k := 0) rfl rfl (by decide) rfl (fun ls hl => ?_)
        refine lv_goto (tgt := 43) hx hb d_Law_law_544 (by decide) ?_
        refine W.widen (k := 30 + 3 * (t + 1)) (n := 40000 + 1258 * (t + 1)) (by omega) (by omega) ?_
        rw [gl_n4, show 4 * t + 2 + 4 = 4 * (t + 1) + 2 by omega] at hl
        apply ih9 (t := t + 1) (ls := ls) (H := H) (locs := locs) (Mw := M54) (E := E) (j := j) (n := n249) (rs := rs250) (sz := sz257) (dr := dr258) (fo := fo) <;> first | exact lv_sub hl [0, 1, 2, 3, 4] rfl | exact hV | exact hM | exact hO | exact hW | exact hS | omega | assumption
      · refine lv_tableIn (tgt := 149) hx hb d_Law_law_59 (by rw [h9]; decide) (by rw [h9]; decide) (by rw [h9]; rfl) (by decide) ?_
        refine lv_aload_n hx hb d_Law_law_149 rfl (lv_at hl 3 rfl) ?_
        rcases Nat.lt_or_ge j 40 with hj | hj
        · obtain ⟨_, _, _, hfx, -⟩ := id hV
          refine gw_calli hS (va_runV (As := []) (rest := []) ⟨hx, hb, hml, hown, hts⟩ (v_jobN l G Mw A (nI lm) sc16 E j n rs hV  (by omega) (by omega)) (cwV 0 hts (gw_gv mw355 mw356 mw357 mw42 mw354) rfl rfl rfl (by decide +kernel) ⟨Nat.le_of_ble_eq_true rfl, Nat.le_of_ble_eq_true rfl⟩) (gw_pv hE hB hS hW rfl hfx) rfl rfl hl.1 rfl (lv_room (Nat.le_of_ble_eq_true rfl)) d_Law_law_150 ⟨Nat.le_trans (m := 590000) (by omega) (Nat.le_of_ble_eq_true rfl), Nat.le_trans (m := 7200000) (by omega) (Nat.le_of_ble_eq_true rfl)⟩) (fun r61 M62 H locs hw63 hW hS => ?_)
          refine W.widen (k := 30 + 3 * t + 3) (n := 40000 + 1258 * t + 1258) (by omega) (by omega) ?_
          clear hfx
          obtain ⟨rfl, hV, hfr64⟩ := hw63
          replace hM := hM.stays hfr64.1 (by decide)
          replace hO := (hfr64.1 _ _ _ (by decide)).mp hO
          clear hfr64
          refine lv_pop hx hb d_Law_law_153 rfl ?_
          refine lv_aload_n hx hb d_Law_law_154 rfl (lv_at hl 2 rfl) ?_
          obtain ⟨_, _, _, _, _, _, _, _, _, hfm, -⟩ := id hM
          refine gw_calli hS (va_runV (As := []) (rest := []) ⟨hx, hb, hml, hown, hts⟩ (m_jobN l G M62 B lm2 sm36 E j sz dr hM  (by omega) (by omega)) (cwV 0 hts (gw_gv mw359 mw360 mw361 mw228 mw358) rfl rfl rfl (by decide +kernel) ⟨Nat.le_of_ble_eq_true rfl, Nat.le_of_ble_eq_true rfl⟩) (gw_pv hE hB hS hW rfl hfm) rfl rfl hl.1 rfl (lv_room (Nat.le_of_ble_eq_true rfl)) d_Law_law_155 ⟨Nat.le_trans (m := 590000) (by omega) (Nat.le_of_ble_eq_true rfl), Nat.le_trans (m := 7200000) (by omega) (Nat.le_of_ble_eq_true rfl)⟩) (fun r65 M66 H locs hw67 hW hS => ?_)
          clear hfm
          obtain ⟨rfl, hM, hfr68⟩ := hw67
          replace hV := hV.stays hfr68.1 (by decide)
          replace hO := (hfr68.1 _ _ _ (by decide)).mp hO
          clear hfr68
          refine lv_pop hx hb d_Law_law_158 rfl ?_
          refine lv_goto (tgt := 541) hx hb d_Law_law_159 (by decide) ?_
          refine lv_iinc (v := (nI (4 * t + 2)) + 4) (lv' := [(4, .int ((nI (4 * t + 2)) + 4)), (3, .ref q39), (2, .ref (B 0)), (1, .ref (A 0)), (0, .ref b)]) hx hb d_Law_law_541 hl (k := 0) rfl rfl (by decide) rfl (fun ls hl => ?_)
          refine lv_goto (tgt := 43) hx hb d_Law_law_544 (by decide) ?_
          refine W.widen (k := 30 + 3 * (t + 1)) (n := 40000 + 1258 * (t + 1)) (by omega) (by omega) ?_
          rw [gl_n4, show 4 * t + 2 + 4 = 4 * (t + 1) + 2 by omega] at hl
          apply ih9 (t := t + 1) (ls := ls) (H := H) (locs := locs) (Mw := M66) (E := E) (j := j + 1) (n := n) (rs := rs) (sz := sz) (dr := dr) (fo := fo) <;> first | exact lv_sub hl [0, 1, 2, 3, 4] rfl | exact hV | exact hM | exact hO | exact hW | exact hS | omega | assumption
        · obtain ⟨_, _, _, hfx, -⟩ := id hV
          refine gw_calli hS (va_runV (As := []) (rest := []) ⟨hx, hb, hml, hown, hts⟩ (v_jobF l G Mw A (nI lm) sc16 E j n rs hV  (by omega)) (cwV 0 hts (gw_gv mw355 mw356 mw357 mw42 mw354) rfl rfl rfl (by decide +kernel) ⟨Nat.le_of_ble_eq_true rfl, Nat.le_of_ble_eq_true rfl⟩) (gw_pv hE hB hS hW rfl hfx) rfl rfl hl.1 rfl (lv_room (Nat.le_of_ble_eq_true rfl)) d_Law_law_150 ⟨Nat.le_trans (m := 590000) (by omega) (Nat.le_of_ble_eq_true rfl), Nat.le_trans (m := 7200000) (by omega) (Nat.le_of_ble_eq_true rfl)⟩) (fun r69 M70 H locs hw71 hW hS => ?_)
          clear hfx
          obtain ⟨rfl, hV, hfr72⟩ := hw71
          replace hM := hM.stays hfr72.1 (by decide)
          replace hO := (hfr72.1 _ _ _ (by decide)).mp hO
          clear hfr72
          refine lv_pop hx hb d_Law_law_153 rfl ?_
          refine lv_aload_n hx hb d_Law_law_154 rfl (lv_at hl 2 rfl) ?_
          obtain ⟨_, _, _, _, _, _, _, _, _, hfm, -⟩ := id hM
          refine gw_calli hS (va_runV (As := []) (rest := []) ⟨hx, hb, hml, hown, hts⟩ (m_jobF l G M70 B lm2 sm36 E j sz dr hM  (by omega)) (cwV 0 hts (gw_gv mw359 mw360 mw361 mw228 mw358) rfl rfl rfl (by decide +kernel) ⟨Nat.le_of_ble_eq_true rfl, Nat.le_of_ble_eq_true rfl⟩) (gw_pv hE hB hS hW rfl hfm) rfl rfl hl.1 rfl (lv_room (Nat.le_of_ble_eq_true rfl)) d_Law_law_155 ⟨Nat.le_trans (m := 590000) (by omega) (Nat.le_of_ble_eq_true rfl), Nat.le_trans (m := 7200000) (by omega) (Nat.le_of_ble_eq_true rfl)⟩) (fun r73 M74 H locs hw75 hW hS => ?_)
          clear hfm
          obtain ⟨rfl, hM, hfr76⟩ := hw75
          replace hV := hV.stays hfr76.1 (by decide)
          replace hO := (hfr76.1 _ _ _ (by decide)).mp hO
          clear hfr76
          refine lv_pop hx hb d_Law_law_158 rfl ?_
          refine lv_goto (tgt := 541) hx hb d_Law_law_159 (by decide) ?_
          refine lv_iinc (v := (nI (4 * t + 2)) + 4) (lv' := [(4, .int ((nI (4 * t + 2)) + 4)), (3, .ref q39), (2, .ref (B 0)), (1, .ref (A 0)), (0, .ref b)]) hx hb d_Law_law_541 hl (k := 0) rfl rfl (by decide) rfl (fun ls hl => ?_)
          refine lv_goto (tgt := 43) hx hb d_Law_law_544 (by decide) ?_
          refine W.widen (k := 30 + 3 * (t + 1)) (n := 40000 + 1258 * (t + 1)) (by omega) (by omega) ?_
          rw [gl_n4, show 4 * t + 2 + 4 = 4 * (t + 1) + 2 by omega] at hl
          apply ih9 (t := t + 1) (ls := ls) (H := H) (locs := locs) (Mw := M74) (E := E) (j := j) (n := n) (rs := rs) (sz := sz) (dr := dr) (fo := fo) <;> first | exact lv_sub hl [0, 1, 2, 3, 4] rfl | exact hV | exact hM | exact hO | exact hW | exact hS | omega | assumption
      · refine lv_tableIn (tgt := 162) hx hb d_Law_law_59 (by rw [h9]; decide) (by rw [h9]; decide) (by rw [h9]; rfl) (by decide) ?_
        refine lv_aload_n hx hb d_Law_law_162 rfl (lv_at hl 3 rfl) ?_
        refine lv_aload_n hx hb d_Law_law_163 rfl (lv_at hl 4 rfl) ?_
        refine lv_iload hx hb d_Law_law_164 (lv_at hl 0 rfl) ?_
        refine lv_iconst (v := 1) hx hb d_Law_law_166 (by decide) ?_
        refine lv_iadd hx hb d_Law_law_167 ?_
        refine va_sld hx hb hX hbl hbA hS (i := (nI (4 * t + 2)) + 1) (gl_in (k := 4 * t + 2) (d := 1) (gl_n1 _) hg (by omega) hL) d_Law_law_168 ?_
        obtain ⟨v77, ev77⟩ : ∃ z : Int32, z = xs ((nI (4 * t + 2)) + 1 : Int32).toNatClampNeg := ⟨_, rfl⟩
        refine W.eq (g2 := F0 m 169 ls [.int v77, .ref (A 0)]) (by rw [ev77]) ?_
        refine lv_aload_n hx hb d_Law_law_169 rfl (lv_at hl 4 rfl) ?_
        refine lv_iload hx hb d_Law_law_170 (lv_at hl 0 rfl) ?_
        refine lv_iconst (v := 2) hx hb d_Law_law_172 (by decide) ?_
        refine lv_iadd hx hb d_Law_law_173 ?_
        refine va_sld hx hb hX hbl hbA hS (i := (nI (4 * t + 2)) + 2) (gl_in (k := 4 * t + 2) (d := 2) (gl_n2 _) hg (by omega) hL) d_Law_law_174 ?_
        obtain ⟨v78, ev78⟩ : ∃ z : Int32, z = xs ((nI (4 * t + 2)) + 2 : Int32).toNatClampNeg := ⟨_, rfl⟩
        refine W.eq (g2 := F0 m 175 ls [.int v78, .int v77, .ref (A 0)]) (by rw [ev78]) ?_
        refine lv_aload_n hx hb d_Law_law_175 rfl (lv_at hl 1 rfl) ?_
        refine gw_calli hS (gt_runSW (n := 4) (As := [.ref (A 0), .int v77, .int v78, .ref q39]) (rest := []) ⟨hx, hb, hml, hown, hts⟩ (h_relative l hl9 G Mw A (nI lm) sc16 E j n rs hV v77 v78 q39 fo hO ) rfl rfl ⟨Nat.le_of_ble_eq_true rfl, Nat.le_of_ble_eq_true rfl⟩ (gw_gt mw362 mw363 mw335 mw364) (by decide +kernel) (gw_ps hE hB hS hW) rfl rfl hl.1 rfl (lv_room (Nat.le_of_ble_eq_true rfl)) d_Law_law_176 ⟨Nat.le_trans (m := 590000) (by omega) (Nat.le_of_ble_eq_true rfl), Nat.le_trans (m := 7200000) (by omega) (Nat.le_of_ble_eq_true rfl)⟩) (fun r79 M80 H locs hw81 hW hS => ?_)
        refine W.widen (k := 30 + 3 * t + 2) (n := 40000 + 1258 * t + 12) (by omega) (by omega) ?_
        obtain ⟨⟨fo83, hO⟩, hV, hfr82⟩ := hw81
        replace hM := hM.stays hfr82.1 (by decide)
        clear hfr82
        refine lv_istore (lv' := [(5, .int r79), (4, .int (nI (4 * t + 2))), (3, .ref q39), (2, .ref (B 0)), (1, .ref (A 0)), (0, .ref b)]) hx hb d_Law_law_179 hl (by decide) rfl (fun ls hl => ?_)
        refine lv_aload_n hx hb d_Law_law_181 rfl (lv_at hl 3 rfl) ?_
        refine lv_aload_n hx hb d_Law_law_182 rfl (lv_at hl 5 rfl) ?_
        refine lv_iload hx hb d_Law_law_183 (lv_at hl 1 rfl) ?_
        refine lv_iconst (v := 1) hx hb d_Law_law_185 (by decide) ?_
        refine lv_iadd hx hb d_Law_law_186 ?_
        refine va_sld hx hb hX hbl hbA hS (i := (nI (4 * t + 2)) + 1) (gl_in (k := 4 * t + 2) (d := 1) (gl_n1 _) hg (by omega) hL) d_Law_law_187 ?_
        refine W.eq (g2 := F0 m 188 ls [.int v77, .ref (B 0)]) (by rw [ev77]) ?_
        refine lv_aload_n hx hb d_Law_law_188 rfl (lv_at hl 5 rfl) ?_
        refine lv_iload hx hb d_Law_law_189 (lv_at hl 1 rfl) ?_
        refine lv_iconst (v := 2) hx hb d_Law_law_191 (by decide) ?_
        refine lv_iadd hx hb d_Law_law_192 ?_
        refine va_sld hx hb hX hbl hbA hS (i := (nI (4 * t + 2)) + 2) (gl_in (k := 4 * t + 2) (d := 2) (gl_n2 _) hg (by omega) hL) d_Law_law_193 ?_
        refine W.eq (g2 := F0 m 194 ls [.int v78, .int v77, .ref (B 0)]) (by rw [ev78]) ?_
        obtain ⟨_, _, _, _, _, _, _, _, _, hfm, -⟩ := id hM
        refine gw_calli hS (va_runV (As := [.int v77, .int v78]) (rest := []) ⟨hx, hb, hml, hown, hts⟩ (m_relative l G M80 B lm2 sm36 E j sz dr hM v77 v78 ) (cwV 2 hts (gw_gv mw366 mw367 mw368 mw228 mw365) rfl rfl rfl (by decide +kernel) ⟨Nat.le_of_ble_eq_true rfl, Nat.le_of_ble_eq_true rfl⟩) (gw_pv hE hB hS hW rfl hfm) rfl rfl hl.1 rfl (lv_room (Nat.le_of_ble_eq_true rfl)) d_Law_law_194 ⟨Nat.le_trans (m := 590000) (by omega) (Nat.le_of_ble_eq_true rfl), Nat.le_trans (m := 7200000) (by omega) (Nat.le_of_ble_eq_true rfl)⟩) (fun r84 M85 H locs hw86 hW hS => ?_)
        clear hfm
        obtain ⟨hM, hfr87⟩ := hw86
        replace hV := hV.stays hfr87.1 (by decide)
        replace hO := (hfr87.1 _ _ _ (by decide)).mp hO
        clear hfr87
        refine lv_istore (lv' := [(6, .int r84), (5, .int r79), (4, .int (nI (4 * t + 2))), (3, .ref q39), (2, .ref (B 0)), (1, .ref (A 0)), (0, .ref b)]) hx hb d_Law_law_197 hl (by decide) rfl (fun ls hl => ?_)
        refine lv_goto (tgt := 541) hx hb d_Law_law_199 (by decide) ?_
        refine lv_iinc (v := (nI (4 * t + 2)) + 4) (lv' := [(4, .int ((nI (4 * t + 2)) + 4)), (6, .int r84), (5, .int r79), (3, .ref q39), (2, .ref (B 0)), (1, .ref (A 0)), (0, .ref b)]) hx hb d_Law_law_541 hl (k := 2) rfl rfl (by decide) rfl (fun ls hl => ?_)
        refine lv_goto (tgt := 43) hx hb d_Law_law_544 (by decide) ?_
        refine W.widen (k := 30 + 3 * (t + 1)) (n := 40000 + 1258 * (t + 1)) (by omega) (by omega) ?_
        rw [gl_n4, show 4 * t + 2 + 4 = 4 * (t + 1) + 2 by omega] at hl
        apply ih9 (t := t + 1) (ls := ls) (H := H) (locs := locs) (Mw := M85) (E := E) (j := j) (n := n) (rs := rs) (sz := sz) (dr := dr) (fo := fo83) <;> first | exact lv_sub hl [0, 3, 4, 5, 6] rfl | exact hV | exact hM | exact hO | exact hW | exact hS | omega | assumption
      · refine lv_tableIn (tgt := 202) hx hb d_Law_law_59 (by rw [h9]; decide) (by rw [h9]; decide) (by rw [h9]; rfl) (by decide) ?_
        refine lv_aload_n hx hb d_Law_law_202 rfl (lv_at hl 3 rfl) ?_
        refine lv_aload_n hx hb d_Law_law_203 rfl (lv_at hl 4 rfl) ?_
        refine lv_iload hx hb d_Law_law_204 (lv_at hl 0 rfl) ?_
        refine lv_iconst (v := 1) hx hb d_Law_law_206 (by decide) ?_
        refine lv_iadd hx hb d_Law_law_207 ?_
        refine va_sld hx hb hX hbl hbA hS (i := (nI (4 * t + 2)) + 1) (gl_in (k := 4 * t + 2) (d := 1) (gl_n1 _) hg (by omega) hL) d_Law_law_208 ?_
        obtain ⟨v88, ev88⟩ : ∃ z : Int32, z = xs ((nI (4 * t + 2)) + 1 : Int32).toNatClampNeg := ⟨_, rfl⟩
        refine W.eq (g2 := F0 m 209 ls [.int v88, .ref (A 0)]) (by rw [ev88]) ?_
        refine lv_aload_n hx hb d_Law_law_209 rfl (lv_at hl 4 rfl) ?_
        refine lv_iload hx hb d_Law_law_210 (lv_at hl 0 rfl) ?_
        refine lv_iconst (v := 2) hx hb d_Law_law_212 (by decide) ?_
        refine lv_iadd hx hb d_Law_law_213 ?_
        refine va_sld hx hb hX hbl hbA hS (i := (nI (4 * t + 2)) + 2) (gl_in (k := 4 * t + 2) (d := 2) (gl_n2 _) hg (by omega) hL) d_Law_law_214 ?_
        obtain ⟨v89, ev89⟩ : ∃ z : Int32, z = xs ((nI (4 * t + 2)) + 2 : Int32).toNatClampNeg := ⟨_, rfl⟩
        refine W.eq (g2 := F0 m 215 ls [.int v89, .int v88, .ref (A 0)]) (by rw [ev89]) ?_
        refine lv_aload_n hx hb d_Law_law_215 rfl (lv_at hl 1 rfl) ?_
        refine gw_calli hS (gt_runSW (n := 4) (As := [.ref (A 0), .int v88, .int v89, .ref q39]) (rest := []) ⟨hx, hb, hml, hown, hts⟩ (h_make l hl9 G Mw A (nI lm) sc16 E j n rs hV v88 v89 q39 fo hO (by omega)) rfl rfl ⟨Nat.le_of_ble_eq_true rfl, Nat.le_of_ble_eq_true rfl⟩ (gw_gt mw369 mw370 mw335 mw371) (by decide +kernel) (gw_ps hE hB hS hW) rfl rfl hl.1 rfl (lv_room (Nat.le_of_ble_eq_true rfl)) d_Law_law_216 ⟨Nat.le_trans (m := 590000) (by omega) (Nat.le_of_ble_eq_true rfl), Nat.le_trans (m := 7200000) (by omega) (Nat.le_of_ble_eq_true rfl)⟩) (fun r90 M91 H locs hw92 hW hS => ?_)
        refine W.widen (k := 30 + 3 * t + 3) (n := 40000 + 1258 * t + 1011) (by omega) (by omega) ?_
        obtain ⟨n294, hb95, ⟨fo96, hO⟩, hV, hfr93⟩ := hw92
        replace hM := hM.stays hfr93.1 (by decide)
        clear hfr93
        refine lv_istore (lv' := [(5, .int r90), (4, .int (nI (4 * t + 2))), (3, .ref q39), (2, .ref (B 0)), (1, .ref (A 0)), (0, .ref b)]) hx hb d_Law_law_219 hl (by decide) rfl (fun ls hl => ?_)
        refine lv_aload_n hx hb d_Law_law_221 rfl (lv_at hl 3 rfl) ?_
        refine lv_aload_n hx hb d_Law_law_222 rfl (lv_at hl 5 rfl) ?_
        refine lv_iload hx hb d_Law_law_223 (lv_at hl 1 rfl) ?_
        refine lv_iconst (v := 1) hx hb d_Law_law_225 (by decide) ?_
        refine lv_iadd hx hb d_Law_law_226 ?_
        refine va_sld hx hb hX hbl hbA hS (i := (nI (4 * t + 2)) + 1) (gl_in (k := 4 * t + 2) (d := 1) (gl_n1 _) hg (by omega) hL) d_Law_law_227 ?_
        refine W.eq (g2 := F0 m 228 ls [.int v88, .ref (B 0)]) (by rw [ev88]) ?_
        refine lv_aload_n hx hb d_Law_law_228 rfl (lv_at hl 5 rfl) ?_
        refine lv_iload hx hb d_Law_law_229 (lv_at hl 1 rfl) ?_
        refine lv_iconst (v := 2) hx hb d_Law_law_231 (by decide) ?_
        refine lv_iadd hx hb d_Law_law_232 ?_
        refine va_sld hx hb hX hbl hbA hS (i := (nI (4 * t + 2)) + 2) (gl_in (k := 4 * t + 2) (d := 2) (gl_n2 _) hg (by omega) hL) d_Law_law_233 ?_
        refine W.eq (g2 := F0 m 234 ls [.int v89, .int v88, .ref (B 0)]) (by rw [ev89]) ?_
        obtain ⟨_, _, _, _, _, _, _, _, _, hfm, -⟩ := id hM
        refine gw_calli hS (va_runV (As := [.int v88, .int v89]) (rest := []) ⟨hx, hb, hml, hown, hts⟩ (m_make l G M91 B lm2 sm36 E j sz dr hM v88 v89 ) (cwV 2 hts (gw_gv mw373 mw374 mw375 mw228 mw372) rfl rfl rfl (by decide +kernel) ⟨Nat.le_of_ble_eq_true rfl, Nat.le_of_ble_eq_true rfl⟩) (gw_pv hE hB hS hW rfl hfm) rfl rfl hl.1 rfl (lv_room (Nat.le_of_ble_eq_true rfl)) d_Law_law_234 ⟨Nat.le_trans (m := 590000) (by omega) (Nat.le_of_ble_eq_true rfl), Nat.le_trans (m := 7200000) (by omega) (Nat.le_of_ble_eq_true rfl)⟩) (fun r97 M98 H locs hw99 hW hS => ?_)
        clear hfm
        obtain ⟨hM, hfr100⟩ := hw99
        replace hV := hV.stays hfr100.1 (by decide)
        replace hO := (hfr100.1 _ _ _ (by decide)).mp hO
        clear hfr100
        refine lv_istore (lv' := [(6, .int r97), (5, .int r90), (4, .int (nI (4 * t + 2))), (3, .ref q39), (2, .ref (B 0)), (1, .ref (A 0)), (0, .ref b)]) hx hb d_Law_law_237 hl (by decide) rfl (fun ls hl => ?_)
        refine lv_goto (tgt := 541) hx hb d_Law_law_239 (by decide) ?_
        refine lv_iinc (v := (nI (4 * t + 2)) + 4) (lv' := [(4, .int ((nI (4 * t + 2)) + 4)), (6, .int r97), (5, .int r90), (3, .ref q39), (2, .ref (B 0)), (1, .ref (A 0)), (0, .ref b)]) hx hb d_Law_law_541 hl (k := 2) rfl rfl (by decide) rfl (fun ls hl => ?_)
        refine lv_goto (tgt := 43) hx hb d_Law_law_544 (by decide) ?_
        refine W.widen (k := 30 + 3 * (t + 1)) (n := 40000 + 1258 * (t + 1)) (by omega) (by omega) ?_
        rw [gl_n4, show 4 * t + 2 + 4 = 4 * (t + 1) + 2 by omega] at hl
        apply ih9 (t := t + 1) (ls := ls) (H := H) (locs := locs) (Mw := M98) (E := E) (j := j) (n := n294) (rs := rs) (sz := sz) (dr := dr) (fo := fo96) <;> first | exact lv_sub hl [0, 3, 4, 5, 6] rfl | exact hV | exact hM | exact hO | exact hW | exact hS | omega | assumption
      · refine lv_tableIn (tgt := 242) hx hb d_Law_law_59 (by rw [h9]; decide) (by rw [h9]; decide) (by rw [h9]; rfl) (by decide) ?_
        refine lv_aload_n hx hb d_Law_law_242 rfl (lv_at hl 3 rfl) ?_
        refine lv_aload_n hx hb d_Law_law_243 rfl (lv_at hl 4 rfl) ?_
        refine lv_iload hx hb d_Law_law_244 (lv_at hl 0 rfl) ?_
        refine lv_iconst (v := 1) hx hb d_Law_law_246 (by decide) ?_
        refine lv_iadd hx hb d_Law_law_247 ?_
        refine va_sld hx hb hX hbl hbA hS (i := (nI (4 * t + 2)) + 1) (gl_in (k := 4 * t + 2) (d := 1) (gl_n1 _) hg (by omega) hL) d_Law_law_248 ?_
        obtain ⟨v101, ev101⟩ : ∃ z : Int32, z = xs ((nI (4 * t + 2)) + 1 : Int32).toNatClampNeg := ⟨_, rfl⟩
        refine W.eq (g2 := F0 m 249 ls [.int v101, .ref (A 0)]) (by rw [ev101]) ?_
        refine lv_aload_n hx hb d_Law_law_249 rfl (lv_at hl 4 rfl) ?_
        refine lv_iload hx hb d_Law_law_250 (lv_at hl 0 rfl) ?_
        refine lv_iconst (v := 2) hx hb d_Law_law_252 (by decide) ?_
        refine lv_iadd hx hb d_Law_law_253 ?_
        refine va_sld hx hb hX hbl hbA hS (i := (nI (4 * t + 2)) + 2) (gl_in (k := 4 * t + 2) (d := 2) (gl_n2 _) hg (by omega) hL) d_Law_law_254 ?_
        obtain ⟨v102, ev102⟩ : ∃ z : Int32, z = xs ((nI (4 * t + 2)) + 2 : Int32).toNatClampNeg := ⟨_, rfl⟩
        refine W.eq (g2 := F0 m 255 ls [.int v102, .int v101, .ref (A 0)]) (by rw [ev102]) ?_
        refine lv_aload_n hx hb d_Law_law_255 rfl (lv_at hl 4 rfl) ?_
        refine lv_iload hx hb d_Law_law_256 (lv_at hl 0 rfl) ?_
        refine lv_iconst (v := 3) hx hb d_Law_law_258 (by decide) ?_
        refine lv_iadd hx hb d_Law_law_259 ?_
        refine va_sld hx hb hX hbl hbA hS (i := (nI (4 * t + 2)) + 3) (gl_in (k := 4 * t + 2) (d := 3) (gl_n3 _) hg (by omega) hL) d_Law_law_260 ?_
        obtain ⟨v103, ev103⟩ : ∃ z : Int32, z = xs ((nI (4 * t + 2)) + 3 : Int32).toNatClampNeg := ⟨_, rfl⟩
        refine W.eq (g2 := F0 m 261 ls [.int v103, .int v102, .int v101, .ref (A 0)]) (by rw [ev103]) ?_
        refine lv_if_eq (tgt := 268) hx hb d_Law_law_261 (by decide) (fun c261 => ?_) (fun c261 => ?_)
        · refine lv_iconst (v := 0) hx hb d_Law_law_268 (by decide) ?_
          refine lv_aload_n hx hb d_Law_law_269 rfl (lv_at hl 1 rfl) ?_
          refine gw_calli hS (gt_runSW (n := 5) (As := [.ref (A 0), .int v101, .int v102, .int 0, .ref q39]) (rest := []) ⟨hx, hb, hml, hown, hts⟩ (h_end l hl9 G Mw A (nI lm) sc16 E j n rs hV v101 v102 0 lm q39 fo hO rfl (by omega) (by omega) (by omega)) rfl rfl ⟨Nat.le_of_ble_eq_true rfl, Nat.le_of_ble_eq_true rfl⟩ (gw_gt mw376 mw377 mw335 mw378) (by decide +kernel) (gw_ps hE hB hS hW) rfl rfl hl.1 rfl (lv_room (Nat.le_of_ble_eq_true rfl)) d_Law_law_270 ⟨Nat.le_trans (m := 590000) (by omega) (Nat.le_of_ble_eq_true rfl), Nat.le_trans (m := 7200000) (by omega) (Nat.le_of_ble_eq_true rfl)⟩) (fun r104 M105 H locs hw106 hW hS => ?_)
          refine W.widen (k := 30 + 3 * t + 1) (n := 40000 + 1258 * t + 6) (by omega) (by omega) ?_
          obtain ⟨rs2108, hb109, ⟨fo110, hO⟩, hV, hfr107⟩ := hw106
          replace hM := hM.stays hfr107.1 (by decide)
          clear hfr107
          refine lv_istore (lv' := [(5, .int r104), (4, .int (nI (4 * t + 2))), (3, .ref q39), (2, .ref (B 0)), (1, .ref (A 0)), (0, .ref b)]) hx hb d_Law_law_273 hl (by decide) rfl (fun ls hl => ?_)
          refine lv_aload_n hx hb d_Law_law_275 rfl (lv_at hl 3 rfl) ?_
          refine lv_aload_n hx hb d_Law_law_276 rfl (lv_at hl 5 rfl) ?_
          refine lv_iload hx hb d_Law_law_277 (lv_at hl 1 rfl) ?_
          refine lv_iconst (v := 1) hx hb d_Law_law_279 (by decide) ?_
          refine lv_iadd hx hb d_Law_law_280 ?_
          refine va_sld hx hb hX hbl hbA hS (i := (nI (4 * t + 2)) + 1) (gl_in (k := 4 * t + 2) (d := 1) (gl_n1 _) hg (by omega) hL) d_Law_law_281 ?_
          refine W.eq (g2 := F0 m 282 ls [.int v101, .ref (B 0)]) (by rw [ev101]) ?_
          refine lv_aload_n hx hb d_Law_law_282 rfl (lv_at hl 5 rfl) ?_
          refine lv_iload hx hb d_Law_law_283 (lv_at hl 1 rfl) ?_
          refine lv_iconst (v := 2) hx hb d_Law_law_285 (by decide) ?_
          refine lv_iadd hx hb d_Law_law_286 ?_
          refine va_sld hx hb hX hbl hbA hS (i := (nI (4 * t + 2)) + 2) (gl_in (k := 4 * t + 2) (d := 2) (gl_n2 _) hg (by omega) hL) d_Law_law_287 ?_
          refine W.eq (g2 := F0 m 288 ls [.int v102, .int v101, .ref (B 0)]) (by rw [ev102]) ?_
          refine lv_aload_n hx hb d_Law_law_288 rfl (lv_at hl 5 rfl) ?_
          refine lv_iload hx hb d_Law_law_289 (lv_at hl 1 rfl) ?_
          refine lv_iconst (v := 3) hx hb d_Law_law_291 (by decide) ?_
          refine lv_iadd hx hb d_Law_law_292 ?_
          refine va_sld hx hb hX hbl hbA hS (i := (nI (4 * t + 2)) + 3) (gl_in (k := 4 * t + 2) (d := 3) (gl_n3 _) hg (by omega) hL) d_Law_law_293 ?_
          refine W.eq (g2 := F0 m 294 ls [.int v103, .int v102, .int v101, .ref (B 0)]) (by rw [ev103]) ?_
          refine lv_if_eq (tgt := 301) hx hb d_Law_law_294 (by decide) (fun c294 => ?_) (fun c294 => ?_)
          · refine lv_iconst (v := 0) hx hb d_Law_law_301 (by decide) ?_
            obtain ⟨_, _, _, _, _, _, _, _, _, hfm, -⟩ := id hM
            refine gw_calli hS (va_runV (As := [.int v101, .int v102, .int 0]) (rest := []) ⟨hx, hb, hml, hown, hts⟩ (m_end l G M105 B lm2 sm36 E j sz dr hM v101 v102 0 (by omega) (by omega)) (cwV 3 hts (gw_gv mw380 mw381 mw382 mw228 mw379) rfl rfl rfl (by decide +kernel) ⟨Nat.le_of_ble_eq_true rfl, Nat.le_of_ble_eq_true rfl⟩) (gw_pv hE hB hS hW rfl hfm) rfl rfl hl.1 rfl (lv_room (Nat.le_of_ble_eq_true rfl)) d_Law_law_302 ⟨Nat.le_trans (m := 590000) (by omega) (Nat.le_of_ble_eq_true rfl), Nat.le_trans (m := 7200000) (by omega) (Nat.le_of_ble_eq_true rfl)⟩) (fun r111 M112 H locs hw113 hW hS => ?_)
            clear hfm
            obtain ⟨sz2115, dr2116, hb117, hb118, hM, hfr114⟩ := hw113
            replace hV := hV.stays hfr114.1 (by decide)
            replace hO := (hfr114.1 _ _ _ (by decide)).mp hO
            clear hfr114
            refine lv_istore (lv' := [(6, .int r111), (5, .int r104), (4, .int (nI (4 * t + 2))), (3, .ref q39), (2, .ref (B 0)), (1, .ref (A 0)), (0, .ref b)]) hx hb d_Law_law_305 hl (by decide) rfl (fun ls hl => ?_)
            refine lv_goto (tgt := 541) hx hb d_Law_law_307 (by decide) ?_
            refine lv_iinc (v := (nI (4 * t + 2)) + 4) (lv' := [(4, .int ((nI (4 * t + 2)) + 4)), (6, .int r111), (5, .int r104), (3, .ref q39), (2, .ref (B 0)), (1, .ref (A 0)), (0, .ref b)]) hx hb d_Law_law_541 hl (k := 2) rfl rfl (by decide) rfl (fun ls hl => ?_)
            refine lv_goto (tgt := 43) hx hb d_Law_law_544 (by decide) ?_
            refine W.widen (k := 30 + 3 * (t + 1)) (n := 40000 + 1258 * (t + 1)) (by omega) (by omega) ?_
            rw [gl_n4, show 4 * t + 2 + 4 = 4 * (t + 1) + 2 by omega] at hl
            apply ih9 (t := t + 1) (ls := ls) (H := H) (locs := locs) (Mw := M112) (E := E) (j := j) (n := n) (rs := rs2108) (sz := sz2115) (dr := dr2116) (fo := fo110) <;> first | exact lv_sub hl [0, 3, 4, 5, 6] rfl | exact hV | exact hM | exact hO | exact hW | exact hS | omega | assumption
          · exact absurd c261 c294
        · refine lv_iconst (v := 1) hx hb d_Law_law_264 (by decide) ?_
          refine lv_goto (tgt := 269) hx hb d_Law_law_265 (by decide) ?_
          refine lv_aload_n hx hb d_Law_law_269 rfl (lv_at hl 1 rfl) ?_
          refine gw_calli hS (gt_runSW (n := 5) (As := [.ref (A 0), .int v101, .int v102, .int 1, .ref q39]) (rest := []) ⟨hx, hb, hml, hown, hts⟩ (h_end l hl9 G Mw A (nI lm) sc16 E j n rs hV v101 v102 1 lm q39 fo hO rfl (by omega) (by omega) (by omega)) rfl rfl ⟨Nat.le_of_ble_eq_true rfl, Nat.le_of_ble_eq_true rfl⟩ (gw_gt mw376 mw377 mw335 mw378) (by decide +kernel) (gw_ps hE hB hS hW) rfl rfl hl.1 rfl (lv_room (Nat.le_of_ble_eq_true rfl)) d_Law_law_270 ⟨Nat.le_trans (m := 590000) (by omega) (Nat.le_of_ble_eq_true rfl), Nat.le_trans (m := 7200000) (by omega) (Nat.le_of_ble_eq_true rfl)⟩) (fun r119 M120 H locs hw121 hW hS => ?_)
          refine W.widen (k := 30 + 3 * t + 1) (n := 40000 + 1258 * t + 6) (by omega) (by omega) ?_
          obtain ⟨rs2123, hb124, ⟨fo125, hO⟩, hV, hfr122⟩ := hw121
          replace hM := hM.stays hfr122.1 (by decide)
          clear hfr122
          refine lv_istore (lv' := [(5, .int r119), (4, .int (nI (4 * t + 2))), (3, .ref q39), (2, .ref (B 0)), (1, .ref (A 0)), (0, .ref b)]) hx hb d_Law_law_273 hl (by decide) rfl (fun ls hl => ?_)
          refine lv_aload_n hx hb d_Law_law_275 rfl (lv_at hl 3 rfl) ?_
          refine lv_aload_n hx hb d_Law_law_276 rfl (lv_at hl 5 rfl) ?_
          refine lv_iload hx hb d_Law_law_277 (lv_at hl 1 rfl) ?_
          refine lv_iconst (v := 1) hx hb d_Law_law_279 (by decide) ?_
          refine lv_iadd hx hb d_Law_law_280 ?_
          refine va_sld hx hb hX hbl hbA hS (i := (nI (4 * t + 2)) + 1) (gl_in (k := 4 * t + 2) (d := 1) (gl_n1 _) hg (by omega) hL) d_Law_law_281 ?_
          refine W.eq (g2 := F0 m 282 ls [.int v101, .ref (B 0)]) (by rw [ev101]) ?_
          refine lv_aload_n hx hb d_Law_law_282 rfl (lv_at hl 5 rfl) ?_
          refine lv_iload hx hb d_Law_law_283 (lv_at hl 1 rfl) ?_
          refine lv_iconst (v := 2) hx hb d_Law_law_285 (by decide) ?_
          refine lv_iadd hx hb d_Law_law_286 ?_
          refine va_sld hx hb hX hbl hbA hS (i := (nI (4 * t + 2)) + 2) (gl_in (k := 4 * t + 2) (d := 2) (gl_n2 _) hg (by omega) hL) d_Law_law_287 ?_
          refine W.eq (g2 := F0 m 288 ls [.int v102, .int v101, .ref (B 0)]) (by rw [ev102]) ?_
          refine lv_aload_n hx hb d_Law_law_288 rfl (lv_at hl 5 rfl) ?_
          refine lv_iload hx hb d_Law_law_289 (lv_at hl 1 rfl) ?_
          refine lv_iconst (v := 3) hx hb d_Law_law_291 (by decide) ?_
          refine lv_iadd hx hb d_Law_law_292 ?_
          refine va_sld hx hb hX hbl hbA hS (i := (nI (4 * t + 2)) + 3) (gl_in (k := 4 * t + 2) (d := 3) (gl_n3 _) hg (by omega) hL) d_Law_law_293 ?_
          refine W.eq (g2 := F0 m 294 ls [.int v103, .int v102, .int v101, .ref (B 0)]) (by rw [ev103]) ?_
          refine lv_if_eq (tgt := 301) hx hb d_Law_law_294 (by decide) (fun c294 => ?_) (fun c294 => ?_)
          · exact absurd c294 c261
          · refine lv_iconst (v := 1) hx hb d_Law_law_297 (by decide) ?_
            refine lv_goto (tgt := 302) hx hb d_Law_law_298 (by decide) ?_
            obtain ⟨_, _, _, _, _, _, _, _, _, hfm, -⟩ := id hM
            refine gw_calli hS (va_runV (As := [.int v101, .int v102, .int 1]) (rest := []) ⟨hx, hb, hml, hown, hts⟩ (m_end l G M120 B lm2 sm36 E j sz dr hM v101 v102 1 (by omega) (by omega)) (cwV 3 hts (gw_gv mw380 mw381 mw382 mw228 mw379) rfl rfl rfl (by decide +kernel) ⟨Nat.le_of_ble_eq_true rfl, Nat.le_of_ble_eq_true rfl⟩) (gw_pv hE hB hS hW rfl hfm) rfl rfl hl.1 rfl (lv_room (Nat.le_of_ble_eq_true rfl)) d_Law_law_302 ⟨Nat.le_trans (m := 590000) (by omega) (Nat.le_of_ble_eq_true rfl), Nat.le_trans (m := 7200000) (by omega) (Nat.le_of_ble_eq_true rfl)⟩) (fun r126 M127 H locs hw128 hW hS => ?_)
            clear hfm
            obtain ⟨sz2130, dr2131, hb132, hb133, hM, hfr129⟩ := hw128
            replace hV := hV.stays hfr129.1 (by decide)
            replace hO := (hfr129.1 _ _ _ (by decide)).mp hO
            clear hfr129
            refine lv_istore (lv' := [(6, .int r126), (5, .int r119), (4, .int (nI (4 * t + 2))), (3, .ref q39), (2, .ref (B 0)), (1, .ref (A 0)), (0, .ref b)]) hx hb d_Law_law_305 hl (by decide) rfl (fun ls hl => ?_)
            refine lv_goto (tgt := 541) hx hb d_Law_law_307 (by decide) ?_
            refine lv_iinc (v := (nI (4 * t + 2)) + 4) (lv' := [(4, .int ((nI (4 * t + 2)) + 4)), (6, .int r126), (5, .int r119), (3, .ref q39), (2, .ref (B 0)), (1, .ref (A 0)), (0, .ref b)]) hx hb d_Law_law_541 hl (k := 2) rfl rfl (by decide) rfl (fun ls hl => ?_)
            refine lv_goto (tgt := 43) hx hb d_Law_law_544 (by decide) ?_
            refine W.widen (k := 30 + 3 * (t + 1)) (n := 40000 + 1258 * (t + 1)) (by omega) (by omega) ?_
            rw [gl_n4, show 4 * t + 2 + 4 = 4 * (t + 1) + 2 by omega] at hl
            apply ih9 (t := t + 1) (ls := ls) (H := H) (locs := locs) (Mw := M127) (E := E) (j := j) (n := n) (rs := rs2123) (sz := sz2130) (dr := dr2131) (fo := fo125) <;> first | exact lv_sub hl [0, 3, 4, 5, 6] rfl | exact hV | exact hM | exact hO | exact hW | exact hS | omega | assumption
      · refine lv_tableIn (tgt := 310) hx hb d_Law_law_59 (by rw [h9]; decide) (by rw [h9]; decide) (by rw [h9]; rfl) (by decide) ?_
        refine lv_aload_n hx hb d_Law_law_310 rfl (lv_at hl 3 rfl) ?_
        refine lv_aload_n hx hb d_Law_law_311 rfl (lv_at hl 4 rfl) ?_
        refine lv_iload hx hb d_Law_law_312 (lv_at hl 0 rfl) ?_
        refine lv_iconst (v := 1) hx hb d_Law_law_314 (by decide) ?_
        refine lv_iadd hx hb d_Law_law_315 ?_
        refine va_sld hx hb hX hbl hbA hS (i := (nI (4 * t + 2)) + 1) (gl_in (k := 4 * t + 2) (d := 1) (gl_n1 _) hg (by omega) hL) d_Law_law_316 ?_
        obtain ⟨v134, ev134⟩ : ∃ z : Int32, z = xs ((nI (4 * t + 2)) + 1 : Int32).toNatClampNeg := ⟨_, rfl⟩
        refine W.eq (g2 := F0 m 317 ls [.int v134, .ref (A 0)]) (by rw [ev134]) ?_
        obtain ⟨_, _, _, hfx, -⟩ := id hV
        refine gr_calli (va_runV (As := [.int v134]) (rest := []) ⟨hx, hb, hml, hown, hts⟩ (r_dropped l G Mw A (nI lm) sc16 E j n hV.w v134 ) (cwV 1 hts (gw_gv mw384 mw385 mw386 mw42 mw383) rfl rfl rfl (by decide +kernel) ⟨Nat.le_of_ble_eq_true rfl, Nat.le_of_ble_eq_true rfl⟩) (gw_pv hE hB hS hW rfl hfx) rfl rfl hl.1 rfl (lv_room (Nat.le_of_ble_eq_true rfl)) d_Law_law_317 ⟨Nat.le_trans (m := 590000) (by omega) (Nat.le_of_ble_eq_true rfl), Nat.le_trans (m := 7200000) (by omega) (Nat.le_of_ble_eq_true rfl)⟩) (fun r135 hw137 => ?_)
        clear hw137 hfx
        refine lv_pop hx hb d_Law_law_320 rfl ?_
        refine lv_aload_n hx hb d_Law_law_321 rfl (lv_at hl 2 rfl) ?_
        refine lv_aload_n hx hb d_Law_law_322 rfl (lv_at hl 4 rfl) ?_
        refine lv_iload hx hb d_Law_law_323 (lv_at hl 0 rfl) ?_
        refine lv_iconst (v := 1) hx hb d_Law_law_325 (by decide) ?_
        refine lv_iadd hx hb d_Law_law_326 ?_
        refine va_sld hx hb hX hbl hbA hS (i := (nI (4 * t + 2)) + 1) (gl_in (k := 4 * t + 2) (d := 1) (gl_n1 _) hg (by omega) hL) d_Law_law_327 ?_
        refine W.eq (g2 := F0 m 328 ls [.int v134, .ref (B 0)]) (by rw [ev134]) ?_
        obtain ⟨_, _, _, _, _, _, _, _, _, hfm, -⟩ := id hM
        refine gw_calli hS (va_runV (As := [.int v134]) (rest := []) ⟨hx, hb, hml, hown, hts⟩ (m_dropped l G Mw B lm2 sm36 E j sz dr hM v134 (by omega) (by omega)) (cwV 1 hts (gw_gv mw388 mw389 mw390 mw228 mw387) rfl rfl rfl (by decide +kernel) ⟨Nat.le_of_ble_eq_true rfl, Nat.le_of_ble_eq_true rfl⟩) (gw_pv hE hB hS hW rfl hfm) rfl rfl hl.1 rfl (lv_room (Nat.le_of_ble_eq_true rfl)) d_Law_law_328 ⟨Nat.le_trans (m := 590000) (by omega) (Nat.le_of_ble_eq_true rfl), Nat.le_trans (m := 7200000) (by omega) (Nat.le_of_ble_eq_true rfl)⟩) (fun r139 M140 H locs hw141 hW hS => ?_)
        clear hfm
        obtain ⟨hM, hfr142⟩ := hw141
        replace hV := hV.stays hfr142.1 (by decide)
        replace hO := (hfr142.1 _ _ _ (by decide)).mp hO
        clear hfr142
        refine lv_pop hx hb d_Law_law_331 rfl ?_
        refine lv_goto (tgt := 541) hx hb d_Law_law_332 (by decide) ?_
        refine lv_iinc (v := (nI (4 * t + 2)) + 4) (lv' := [(4, .int ((nI (4 * t + 2)) + 4)), (3, .ref q39), (2, .ref (B 0)), (1, .ref (A 0)), (0, .ref b)]) hx hb d_Law_law_541 hl (k := 0) rfl rfl (by decide) rfl (fun ls hl => ?_)
        refine lv_goto (tgt := 43) hx hb d_Law_law_544 (by decide) ?_
        refine W.widen (k := 30 + 3 * (t + 1)) (n := 40000 + 1258 * (t + 1)) (by omega) (by omega) ?_
        rw [gl_n4, show 4 * t + 2 + 4 = 4 * (t + 1) + 2 by omega] at hl
        apply ih9 (t := t + 1) (ls := ls) (H := H) (locs := locs) (Mw := M140) (E := E) (j := j) (n := n) (rs := rs) (sz := sz) (dr := dr) (fo := fo) <;> first | exact lv_sub hl [0, 1, 2, 3, 4] rfl | exact hV | exact hM | exact hO | exact hW | exact hS | omega | assumption
      · refine lv_tableIn (tgt := 335) hx hb d_Law_law_59 (by rw [h9]; decide) (by rw [h9]; decide) (by rw [h9]; rfl) (by decide) ?_
        refine lv_aload_n hx hb d_Law_law_335 rfl (lv_at hl 3 rfl) ?_
        refine lv_aload_n hx hb d_Law_law_336 rfl (lv_at hl 4 rfl) ?_
        refine lv_iload hx hb d_Law_law_337 (lv_at hl 0 rfl) ?_
        refine lv_iconst (v := 1) hx hb d_Law_law_339 (by decide) ?_
        refine lv_iadd hx hb d_Law_law_340 ?_
        refine va_sld hx hb hX hbl hbA hS (i := (nI (4 * t + 2)) + 1) (gl_in (k := 4 * t + 2) (d := 1) (gl_n1 _) hg (by omega) hL) d_Law_law_341 ?_
        obtain ⟨v143, ev143⟩ : ∃ z : Int32, z = xs ((nI (4 * t + 2)) + 1 : Int32).toNatClampNeg := ⟨_, rfl⟩
        refine W.eq (g2 := F0 m 342 ls [.int v143, .ref (A 0)]) (by rw [ev143]) ?_
        refine lv_aload_n hx hb d_Law_law_342 rfl (lv_at hl 4 rfl) ?_
        refine lv_iload hx hb d_Law_law_343 (lv_at hl 0 rfl) ?_
        refine lv_iconst (v := 2) hx hb d_Law_law_345 (by decide) ?_
        refine lv_iadd hx hb d_Law_law_346 ?_
        refine va_sld hx hb hX hbl hbA hS (i := (nI (4 * t + 2)) + 2) (gl_in (k := 4 * t + 2) (d := 2) (gl_n2 _) hg (by omega) hL) d_Law_law_347 ?_
        obtain ⟨v144, ev144⟩ : ∃ z : Int32, z = xs ((nI (4 * t + 2)) + 2 : Int32).toNatClampNeg := ⟨_, rfl⟩
        refine W.eq (g2 := F0 m 348 ls [.int v144, .int v143, .ref (A 0)]) (by rw [ev144]) ?_
        refine lv_aload_n hx hb d_Law_law_348 rfl (lv_at hl 1 rfl) ?_
        refine gw_calli hS (gt_runSW (n := 4) (As := [.ref (A 0), .int v143, .int v144, .ref q39]) (rest := []) ⟨hx, hb, hml, hown, hts⟩ (h_restart l hl9 G Mw A (nI lm) sc16 E j n rs hV v143 v144 q39 fo hO ) rfl rfl ⟨Nat.le_of_ble_eq_true rfl, Nat.le_of_ble_eq_true rfl⟩ (gw_gt mw391 mw392 mw335 mw393) (by decide +kernel) (gw_ps hE hB hS hW) rfl rfl hl.1 rfl (lv_room (Nat.le_of_ble_eq_true rfl)) d_Law_law_349 ⟨Nat.le_trans (m := 590000) (by omega) (Nat.le_of_ble_eq_true rfl), Nat.le_trans (m := 7200000) (by omega) (Nat.le_of_ble_eq_true rfl)⟩) (fun r145 M146 H locs hw147 hW hS => ?_)
        refine W.widen (k := 30 + 3 * t + 1) (n := 40000 + 1258 * t + 6) (by omega) (by omega) ?_
        obtain ⟨⟨fo149, hO⟩, hV, hfr148⟩ := hw147
        replace hM := hM.stays hfr148.1 (by decide)
        clear hfr148
        refine lv_istore (lv' := [(5, .int r145), (4, .int (nI (4 * t + 2))), (3, .ref q39), (2, .ref (B 0)), (1, .ref (A 0)), (0, .ref b)]) hx hb d_Law_law_352 hl (by decide) rfl (fun ls hl => ?_)
        refine lv_aload_n hx hb d_Law_law_354 rfl (lv_at hl 3 rfl) ?_
        refine lv_aload_n hx hb d_Law_law_355 rfl (lv_at hl 5 rfl) ?_
        refine lv_iload hx hb d_Law_law_356 (lv_at hl 1 rfl) ?_
        refine lv_iconst (v := 1) hx hb d_Law_law_358 (by decide) ?_
        refine lv_iadd hx hb d_Law_law_359 ?_
        refine va_sld hx hb hX hbl hbA hS (i := (nI (4 * t + 2)) + 1) (gl_in (k := 4 * t + 2) (d := 1) (gl_n1 _) hg (by omega) hL) d_Law_law_360 ?_
        refine W.eq (g2 := F0 m 361 ls [.int v143, .ref (B 0)]) (by rw [ev143]) ?_
        refine lv_aload_n hx hb d_Law_law_361 rfl (lv_at hl 5 rfl) ?_
        refine lv_iload hx hb d_Law_law_362 (lv_at hl 1 rfl) ?_
        refine lv_iconst (v := 2) hx hb d_Law_law_364 (by decide) ?_
        refine lv_iadd hx hb d_Law_law_365 ?_
        refine va_sld hx hb hX hbl hbA hS (i := (nI (4 * t + 2)) + 2) (gl_in (k := 4 * t + 2) (d := 2) (gl_n2 _) hg (by omega) hL) d_Law_law_366 ?_
        refine W.eq (g2 := F0 m 367 ls [.int v144, .int v143, .ref (B 0)]) (by rw [ev144]) ?_
        obtain ⟨_, _, _, _, _, _, _, _, _, hfm, -⟩ := id hM
        refine gw_calli hS (va_runV (As := [.int v143, .int v144]) (rest := []) ⟨hx, hb, hml, hown, hts⟩ (m_restart l G M146 B lm2 sm36 E j sz dr hM v143 v144 ) (cwV 2 hts (gw_gv mw395 mw396 mw397 mw228 mw394) rfl rfl rfl (by decide +kernel) ⟨Nat.le_of_ble_eq_true rfl, Nat.le_of_ble_eq_true rfl⟩) (gw_pv hE hB hS hW rfl hfm) rfl rfl hl.1 rfl (lv_room (Nat.le_of_ble_eq_true rfl)) d_Law_law_367 ⟨Nat.le_trans (m := 590000) (by omega) (Nat.le_of_ble_eq_true rfl), Nat.le_trans (m := 7200000) (by omega) (Nat.le_of_ble_eq_true rfl)⟩) (fun r150 M151 H locs hw152 hW hS => ?_)
        clear hfm
        obtain ⟨hM, hfr153⟩ := hw152
        replace hV := hV.stays hfr153.1 (by decide)
        replace hO := (hfr153.1 _ _ _ (by decide)).mp hO
        clear hfr153
        refine lv_istore (lv' := [(6, .int r150), (5, .int r145), (4, .int (nI (4 * t + 2))), (3, .ref q39), (2, .ref (B 0)), (1, .ref (A 0)), (0, .ref b)]) hx hb d_Law_law_370 hl (by decide) rfl (fun ls hl => ?_)
        refine lv_goto (tgt := 541) hx hb d_Law_law_372 (by decide) ?_
        refine lv_iinc (v := (nI (4 * t + 2)) + 4) (lv' := [(4, .int ((nI (4 * t + 2)) + 4)), (6, .int r150), (5, .int r145), (3, .ref q39), (2, .ref (B 0)), (1, .ref (A 0)), (0, .ref b)]) hx hb d_Law_law_541 hl (k := 2) rfl rfl (by decide) rfl (fun ls hl => ?_)
        refine lv_goto (tgt := 43) hx hb d_Law_law_544 (by decide) ?_
        refine W.widen (k := 30 + 3 * (t + 1)) (n := 40000 + 1258 * (t + 1)) (by omega) (by omega) ?_
        rw [gl_n4, show 4 * t + 2 + 4 = 4 * (t + 1) + 2 by omega] at hl
        apply ih9 (t := t + 1) (ls := ls) (H := H) (locs := locs) (Mw := M151) (E := E) (j := j) (n := n) (rs := rs) (sz := sz) (dr := dr) (fo := fo149) <;> first | exact lv_sub hl [0, 3, 4, 5, 6] rfl | exact hV | exact hM | exact hO | exact hW | exact hS | omega | assumption
      · refine lv_tableIn (tgt := 375) hx hb d_Law_law_59 (by rw [h9]; decide) (by rw [h9]; decide) (by rw [h9]; rfl) (by decide) ?_
        refine lv_aload_n hx hb d_Law_law_375 rfl (lv_at hl 3 rfl) ?_
        refine lv_aload_n hx hb d_Law_law_376 rfl (lv_at hl 4 rfl) ?_
        refine lv_iload hx hb d_Law_law_377 (lv_at hl 0 rfl) ?_
        refine lv_iconst (v := 1) hx hb d_Law_law_379 (by decide) ?_
        refine lv_iadd hx hb d_Law_law_380 ?_
        refine va_sld hx hb hX hbl hbA hS (i := (nI (4 * t + 2)) + 1) (gl_in (k := 4 * t + 2) (d := 1) (gl_n1 _) hg (by omega) hL) d_Law_law_381 ?_
        obtain ⟨v154, ev154⟩ : ∃ z : Int32, z = xs ((nI (4 * t + 2)) + 1 : Int32).toNatClampNeg := ⟨_, rfl⟩
        refine W.eq (g2 := F0 m 382 ls [.int v154, .ref (A 0)]) (by rw [ev154]) ?_
        obtain ⟨_, _, _, hfx, -⟩ := id hV
        refine gr_calli (va_runV (As := [.int v154]) (rest := []) ⟨hx, hb, hml, hown, hts⟩ (r_list l G Mw A (nI lm) sc16 E j n hV.w v154 ) (cwV 1 hts (gw_gv mw399 mw400 mw401 mw42 mw398) rfl rfl rfl (by decide +kernel) ⟨Nat.le_of_ble_eq_true rfl, Nat.le_of_ble_eq_true rfl⟩) (gw_pv hE hB hS hW rfl hfx) rfl rfl hl.1 rfl (lv_room (Nat.le_of_ble_eq_true rfl)) d_Law_law_382 ⟨Nat.le_trans (m := 590000) (by omega) (Nat.le_of_ble_eq_true rfl), Nat.le_trans (m := 7200000) (by omega) (Nat.le_of_ble_eq_true rfl)⟩) (fun r155 hw157 => ?_)
        clear hw157 hfx
        refine lv_pop hx hb d_Law_law_385 rfl ?_
        refine lv_aload_n hx hb d_Law_law_386 rfl (lv_at hl 2 rfl) ?_
        refine lv_aload_n hx hb d_Law_law_387 rfl (lv_at hl 4 rfl) ?_
        refine lv_iload hx hb d_Law_law_388 (lv_at hl 0 rfl) ?_
        refine lv_iconst (v := 1) hx hb d_Law_law_390 (by decide) ?_
        refine lv_iadd hx hb d_Law_law_391 ?_
        refine va_sld hx hb hX hbl hbA hS (i := (nI (4 * t + 2)) + 1) (gl_in (k := 4 * t + 2) (d := 1) (gl_n1 _) hg (by omega) hL) d_Law_law_392 ?_
        refine W.eq (g2 := F0 m 393 ls [.int v154, .ref (B 0)]) (by rw [ev154]) ?_
        obtain ⟨_, _, _, _, _, _, _, _, _, hfm, -⟩ := id hM
        refine gw_calli hS (va_runV (As := [.int v154]) (rest := []) ⟨hx, hb, hml, hown, hts⟩ (m_list l G Mw B lm2 sm36 E j sz dr hM v154 (by omega) (by omega)) (cwV 1 hts (gw_gv mw403 mw404 mw405 mw228 mw402) rfl rfl rfl (by decide +kernel) ⟨Nat.le_of_ble_eq_true rfl, Nat.le_of_ble_eq_true rfl⟩) (gw_pv hE hB hS hW rfl hfm) rfl rfl hl.1 rfl (lv_room (Nat.le_of_ble_eq_true rfl)) d_Law_law_393 ⟨Nat.le_trans (m := 590000) (by omega) (Nat.le_of_ble_eq_true rfl), Nat.le_trans (m := 7200000) (by omega) (Nat.le_of_ble_eq_true rfl)⟩) (fun r159 M160 H locs hw161 hW hS => ?_)
        clear hfm
        obtain ⟨hM, hfr162⟩ := hw161
        replace hV := hV.stays hfr162.1 (by decide)
        replace hO := (hfr162.1 _ _ _ (by decide)).mp hO
        clear hfr162
        refine lv_pop hx hb d_Law_law_396 rfl ?_
        refine lv_goto (tgt := 541) hx hb d_Law_law_397 (by decide) ?_
        refine lv_iinc (v := (nI (4 * t + 2)) + 4) (lv' := [(4, .int ((nI (4 * t + 2)) + 4)), (3, .ref q39), (2, .ref (B 0)), (1, .ref (A 0)), (0, .ref b)]) hx hb d_Law_law_541 hl (k := 0) rfl rfl (by decide) rfl (fun ls hl => ?_)
        refine lv_goto (tgt := 43) hx hb d_Law_law_544 (by decide) ?_
        refine W.widen (k := 30 + 3 * (t + 1)) (n := 40000 + 1258 * (t + 1)) (by omega) (by omega) ?_
        rw [gl_n4, show 4 * t + 2 + 4 = 4 * (t + 1) + 2 by omega] at hl
        apply ih9 (t := t + 1) (ls := ls) (H := H) (locs := locs) (Mw := M160) (E := E) (j := j) (n := n) (rs := rs) (sz := sz) (dr := dr) (fo := fo) <;> first | exact lv_sub hl [0, 1, 2, 3, 4] rfl | exact hV | exact hM | exact hO | exact hW | exact hS | omega | assumption
      · refine lv_tableIn (tgt := 400) hx hb d_Law_law_59 (by rw [h9]; decide) (by rw [h9]; decide) (by rw [h9]; rfl) (by decide) ?_
        refine lv_aload_n hx hb d_Law_law_400 rfl (lv_at hl 3 rfl) ?_
        refine lv_aload_n hx hb d_Law_law_401 rfl (lv_at hl 4 rfl) ?_
        refine lv_iload hx hb d_Law_law_402 (lv_at hl 0 rfl) ?_
        refine lv_iconst (v := 1) hx hb d_Law_law_404 (by decide) ?_
        refine lv_iadd hx hb d_Law_law_405 ?_
        refine va_sld hx hb hX hbl hbA hS (i := (nI (4 * t + 2)) + 1) (gl_in (k := 4 * t + 2) (d := 1) (gl_n1 _) hg (by omega) hL) d_Law_law_406 ?_
        obtain ⟨v163, ev163⟩ : ∃ z : Int32, z = xs ((nI (4 * t + 2)) + 1 : Int32).toNatClampNeg := ⟨_, rfl⟩
        refine W.eq (g2 := F0 m 407 ls [.int v163, .ref (A 0)]) (by rw [ev163]) ?_
        obtain ⟨_, _, _, hfx, -⟩ := id hV
        refine gw_calli hS (va_runV (As := [.int v163]) (rest := []) ⟨hx, hb, hml, hown, hts⟩ (v_reclaim l G Mw A (nI lm) sc16 E j n rs hV v163 lm rfl (by omega) (by omega) (by omega)) (cwV 1 hts (gw_gv mw407 mw408 mw409 mw42 mw406) rfl rfl rfl (by decide +kernel) ⟨Nat.le_of_ble_eq_true rfl, Nat.le_of_ble_eq_true rfl⟩) (gw_pv hE hB hS hW rfl hfx) rfl rfl hl.1 rfl (lv_room (Nat.le_of_ble_eq_true rfl)) d_Law_law_407 ⟨Nat.le_trans (m := 590000) (by omega) (Nat.le_of_ble_eq_true rfl), Nat.le_trans (m := 7200000) (by omega) (Nat.le_of_ble_eq_true rfl)⟩) (fun r164 M165 H locs hw166 hW hS => ?_)
        clear hfx
        obtain ⟨rs2168, hb169, hV, hfr167⟩ := hw166
        replace hM := hM.stays hfr167.1 (by decide)
        replace hO := (hfr167.1 _ _ _ (by decide)).mp hO
        clear hfr167
        refine lv_pop hx hb d_Law_law_410 rfl ?_
        refine lv_aload_n hx hb d_Law_law_411 rfl (lv_at hl 2 rfl) ?_
        refine lv_aload_n hx hb d_Law_law_412 rfl (lv_at hl 4 rfl) ?_
        refine lv_iload hx hb d_Law_law_413 (lv_at hl 0 rfl) ?_
        refine lv_iconst (v := 1) hx hb d_Law_law_415 (by decide) ?_
        refine lv_iadd hx hb d_Law_law_416 ?_
        refine va_sld hx hb hX hbl hbA hS (i := (nI (4 * t + 2)) + 1) (gl_in (k := 4 * t + 2) (d := 1) (gl_n1 _) hg (by omega) hL) d_Law_law_417 ?_
        refine W.eq (g2 := F0 m 418 ls [.int v163, .ref (B 0)]) (by rw [ev163]) ?_
        obtain ⟨_, _, _, _, _, _, _, _, _, hfm, -⟩ := id hM
        refine gw_calli hS (va_runV (As := [.int v163]) (rest := []) ⟨hx, hb, hml, hown, hts⟩ (m_reclaim l G M165 B lm2 sm36 E j sz dr hM v163 (by omega) (by omega)) (cwV 1 hts (gw_gv mw411 mw412 mw413 mw228 mw410) rfl rfl rfl (by decide +kernel) ⟨Nat.le_of_ble_eq_true rfl, Nat.le_of_ble_eq_true rfl⟩) (gw_pv hE hB hS hW rfl hfm) rfl rfl hl.1 rfl (lv_room (Nat.le_of_ble_eq_true rfl)) d_Law_law_418 ⟨Nat.le_trans (m := 590000) (by omega) (Nat.le_of_ble_eq_true rfl), Nat.le_trans (m := 7200000) (by omega) (Nat.le_of_ble_eq_true rfl)⟩) (fun r170 M171 H locs hw172 hW hS => ?_)
        clear hfm
        obtain ⟨sz2174, dr2175, hb176, hb177, hM, hfr173⟩ := hw172
        replace hV := hV.stays hfr173.1 (by decide)
        replace hO := (hfr173.1 _ _ _ (by decide)).mp hO
        clear hfr173
        refine lv_pop hx hb d_Law_law_421 rfl ?_
        refine lv_goto (tgt := 541) hx hb d_Law_law_422 (by decide) ?_
        refine lv_iinc (v := (nI (4 * t + 2)) + 4) (lv' := [(4, .int ((nI (4 * t + 2)) + 4)), (3, .ref q39), (2, .ref (B 0)), (1, .ref (A 0)), (0, .ref b)]) hx hb d_Law_law_541 hl (k := 0) rfl rfl (by decide) rfl (fun ls hl => ?_)
        refine lv_goto (tgt := 43) hx hb d_Law_law_544 (by decide) ?_
        refine W.widen (k := 30 + 3 * (t + 1)) (n := 40000 + 1258 * (t + 1)) (by omega) (by omega) ?_
        rw [gl_n4, show 4 * t + 2 + 4 = 4 * (t + 1) + 2 by omega] at hl
        apply ih9 (t := t + 1) (ls := ls) (H := H) (locs := locs) (Mw := M171) (E := E) (j := j) (n := n) (rs := rs2168) (sz := sz2174) (dr := dr2175) (fo := fo) <;> first | exact lv_sub hl [0, 1, 2, 3, 4] rfl | exact hV | exact hM | exact hO | exact hW | exact hS | omega | assumption
      · refine lv_tableIn (tgt := 425) hx hb d_Law_law_59 (by rw [h9]; decide) (by rw [h9]; decide) (by rw [h9]; rfl) (by decide) ?_
        refine lv_aload_n hx hb d_Law_law_425 rfl (lv_at hl 3 rfl) ?_
        refine lv_aload_n hx hb d_Law_law_426 rfl (lv_at hl 4 rfl) ?_
        refine lv_iload hx hb d_Law_law_427 (lv_at hl 0 rfl) ?_
        refine lv_iconst (v := 1) hx hb d_Law_law_429 (by decide) ?_
        refine lv_iadd hx hb d_Law_law_430 ?_
        refine va_sld hx hb hX hbl hbA hS (i := (nI (4 * t + 2)) + 1) (gl_in (k := 4 * t + 2) (d := 1) (gl_n1 _) hg (by omega) hL) d_Law_law_431 ?_
        obtain ⟨v178, ev178⟩ : ∃ z : Int32, z = xs ((nI (4 * t + 2)) + 1 : Int32).toNatClampNeg := ⟨_, rfl⟩
        refine W.eq (g2 := F0 m 432 ls [.int v178, .ref (A 0)]) (by rw [ev178]) ?_
        refine lv_if_eq (tgt := 439) hx hb d_Law_law_432 (by decide) (fun c432 => ?_) (fun c432 => ?_)
        · refine lv_iconst (v := 0) hx hb d_Law_law_439 (by decide) ?_
          obtain ⟨_, _, _, hfx, -⟩ := id hV
          refine gw_calli hS (va_runV (As := [.int 0]) (rest := []) ⟨hx, hb, hml, hown, hts⟩ (v_empty l G Mw A (nI lm) sc16 E j n rs hV 0 rfl rfl) (cwV 1 hts (gw_gv mw415 mw416 mw417 mw42 mw414) rfl rfl rfl (by decide +kernel) ⟨Nat.le_of_ble_eq_true rfl, Nat.le_of_ble_eq_true rfl⟩) (gw_pv hE hB hS hW rfl hfx) rfl rfl hl.1 rfl (lv_room (Nat.le_of_ble_eq_true rfl)) d_Law_law_440 ⟨Nat.le_trans (m := 590000) (by omega) (Nat.le_of_ble_eq_true rfl), Nat.le_trans (m := 7200000) (by omega) (Nat.le_of_ble_eq_true rfl)⟩) (fun r179 M180 H locs hw181 hW hS => ?_)
          clear hfx
          obtain ⟨rfl, hV, hfr182⟩ := hw181
          replace hM := hM.stays hfr182.1 (by decide)
          replace hO := (hfr182.1 _ _ _ (by decide)).mp hO
          clear hfr182
          refine lv_aload_n hx hb d_Law_law_443 rfl (lv_at hl 2 rfl) ?_
          refine lv_aload_n hx hb d_Law_law_444 rfl (lv_at hl 4 rfl) ?_
          refine lv_iload hx hb d_Law_law_445 (lv_at hl 0 rfl) ?_
          refine lv_iconst (v := 1) hx hb d_Law_law_447 (by decide) ?_
          refine lv_iadd hx hb d_Law_law_448 ?_
          refine va_sld hx hb hX hbl hbA hS (i := (nI (4 * t + 2)) + 1) (gl_in (k := 4 * t + 2) (d := 1) (gl_n1 _) hg (by omega) hL) d_Law_law_449 ?_
          refine W.eq (g2 := F0 m 450 ls [.int v178, .ref (B 0), .int (if E = 0 then 0 else 1)]) (by rw [ev178]) ?_
          refine lv_if_eq (tgt := 457) hx hb d_Law_law_450 (by decide) (fun c450 => ?_) (fun c450 => ?_)
          · refine lv_iconst (v := 0) hx hb d_Law_law_457 (by decide) ?_
            obtain ⟨_, _, _, _, _, _, _, _, _, hfm, -⟩ := id hM
            refine gw_calli hS (va_runV (As := [.int 0]) (rest := [.int (if E = 0 then 0 else 1)]) ⟨hx, hb, hml, hown, hts⟩ (m_empty l G M180 B lm2 sm36 E j sz dr hM 0 rfl rfl) (cwV 1 hts (gw_gv mw419 mw420 mw421 mw228 mw418) rfl rfl rfl (by decide +kernel) ⟨Nat.le_of_ble_eq_true rfl, Nat.le_of_ble_eq_true rfl⟩) (gw_pv hE hB hS hW rfl hfm) rfl rfl hl.1 rfl (lv_room (Nat.le_of_ble_eq_true rfl)) d_Law_law_458 ⟨Nat.le_trans (m := 590000) (by omega) (Nat.le_of_ble_eq_true rfl), Nat.le_trans (m := 7200000) (by omega) (Nat.le_of_ble_eq_true rfl)⟩) (fun r183 M184 H locs hw185 hW hS => ?_)
            clear hfm
            obtain ⟨rfl, hM, hfr186⟩ := hw185
            replace hV := hV.stays hfr186.1 (by decide)
            replace hO := (hfr186.1 _ _ _ (by decide)).mp hO
            clear hfr186
            refine lv_icmp_eq (tgt := 541) hx hb d_Law_law_461 (by decide) (fun c461 => ?_) (fun c461 => ?_)
            · refine lv_iinc (v := (nI (4 * t + 2)) + 4) (lv' := [(4, .int ((nI (4 * t + 2)) + 4)), (3, .ref q39), (2, .ref (B 0)), (1, .ref (A 0)), (0, .ref b)]) hx hb d_Law_law_541 hl (k := 0) rfl rfl (by decide) rfl (fun ls hl => ?_)
              refine lv_goto (tgt := 43) hx hb d_Law_law_544 (by decide) ?_
              refine W.widen (k := 30 + 3 * (t + 1)) (n := 40000 + 1258 * (t + 1)) (by omega) (by omega) ?_
              rw [gl_n4, show 4 * t + 2 + 4 = 4 * (t + 1) + 2 by omega] at hl
              apply ih9 (t := t + 1) (ls := ls) (H := H) (locs := locs) (Mw := M184) (E := 0) (j := j) (n := n) (rs := rs) (sz := sz) (dr := dr) (fo := fo) <;> first | exact lv_sub hl [0, 1, 2, 3, 4] rfl | exact hV | exact hM | exact hO | exact hW | exact hS | omega | assumption
            · exact absurd rfl c461
          · exact absurd c432 c450
        · refine lv_iconst (v := 1) hx hb d_Law_law_435 (by decide) ?_
          refine lv_goto (tgt := 440) hx hb d_Law_law_436 (by decide) ?_
          obtain ⟨_, _, _, hfx, -⟩ := id hV
          refine gw_calli hS (va_runV (As := [.int 1]) (rest := []) ⟨hx, hb, hml, hown, hts⟩ (v_empty l G Mw A (nI lm) sc16 E j n rs hV 1 rfl rfl) (cwV 1 hts (gw_gv mw415 mw416 mw417 mw42 mw414) rfl rfl rfl (by decide +kernel) ⟨Nat.le_of_ble_eq_true rfl, Nat.le_of_ble_eq_true rfl⟩) (gw_pv hE hB hS hW rfl hfx) rfl rfl hl.1 rfl (lv_room (Nat.le_of_ble_eq_true rfl)) d_Law_law_440 ⟨Nat.le_trans (m := 590000) (by omega) (Nat.le_of_ble_eq_true rfl), Nat.le_trans (m := 7200000) (by omega) (Nat.le_of_ble_eq_true rfl)⟩) (fun r187 M188 H locs hw189 hW hS => ?_)
          clear hfx
          obtain ⟨rfl, hV, hfr190⟩ := hw189
          replace hM := hM.stays hfr190.1 (by decide)
          replace hO := (hfr190.1 _ _ _ (by decide)).mp hO
          clear hfr190
          refine lv_aload_n hx hb d_Law_law_443 rfl (lv_at hl 2 rfl) ?_
          refine lv_aload_n hx hb d_Law_law_444 rfl (lv_at hl 4 rfl) ?_
          refine lv_iload hx hb d_Law_law_445 (lv_at hl 0 rfl) ?_
          refine lv_iconst (v := 1) hx hb d_Law_law_447 (by decide) ?_
          refine lv_iadd hx hb d_Law_law_448 ?_
          refine va_sld hx hb hX hbl hbA hS (i := (nI (4 * t + 2)) + 1) (gl_in (k := 4 * t + 2) (d := 1) (gl_n1 _) hg (by omega) hL) d_Law_law_449 ?_
          refine W.eq (g2 := F0 m 450 ls [.int v178, .ref (B 0), .int (if E = 0 then 0 else 1)]) (by rw [ev178]) ?_
          refine lv_if_eq (tgt := 457) hx hb d_Law_law_450 (by decide) (fun c450 => ?_) (fun c450 => ?_)
          · exact absurd c450 c432
          · refine lv_iconst (v := 1) hx hb d_Law_law_453 (by decide) ?_
            refine lv_goto (tgt := 458) hx hb d_Law_law_454 (by decide) ?_
            obtain ⟨_, _, _, _, _, _, _, _, _, hfm, -⟩ := id hM
            refine gw_calli hS (va_runV (As := [.int 1]) (rest := [.int (if E = 0 then 0 else 1)]) ⟨hx, hb, hml, hown, hts⟩ (m_empty l G M188 B lm2 sm36 E j sz dr hM 1 rfl rfl) (cwV 1 hts (gw_gv mw419 mw420 mw421 mw228 mw418) rfl rfl rfl (by decide +kernel) ⟨Nat.le_of_ble_eq_true rfl, Nat.le_of_ble_eq_true rfl⟩) (gw_pv hE hB hS hW rfl hfm) rfl rfl hl.1 rfl (lv_room (Nat.le_of_ble_eq_true rfl)) d_Law_law_458 ⟨Nat.le_trans (m := 590000) (by omega) (Nat.le_of_ble_eq_true rfl), Nat.le_trans (m := 7200000) (by omega) (Nat.le_of_ble_eq_true rfl)⟩) (fun r191 M192 H locs hw193 hW hS => ?_)
            clear hfm
            obtain ⟨rfl, hM, hfr194⟩ := hw193
            replace hV := hV.stays hfr194.1 (by decide)
            replace hO := (hfr194.1 _ _ _ (by decide)).mp hO
            clear hfr194
            refine lv_icmp_eq (tgt := 541) hx hb d_Law_law_461 (by decide) (fun c461 => ?_) (fun c461 => ?_)
            · refine lv_iinc (v := (nI (4 * t + 2)) + 4) (lv' := [(4, .int ((nI (4 * t + 2)) + 4)), (3, .ref q39), (2, .ref (B 0)), (1, .ref (A 0)), (0, .ref b)]) hx hb d_Law_law_541 hl (k := 0) rfl rfl (by decide) rfl (fun ls hl => ?_)
              refine lv_goto (tgt := 43) hx hb d_Law_law_544 (by decide) ?_
              refine W.widen (k := 30 + 3 * (t + 1)) (n := 40000 + 1258 * (t + 1)) (by omega) (by omega) ?_
              rw [gl_n4, show 4 * t + 2 + 4 = 4 * (t + 1) + 2 by omega] at hl
              apply ih9 (t := t + 1) (ls := ls) (H := H) (locs := locs) (Mw := M192) (E := 1) (j := j) (n := n) (rs := rs) (sz := sz) (dr := dr) (fo := fo) <;> first | exact lv_sub hl [0, 1, 2, 3, 4] rfl | exact hV | exact hM | exact hO | exact hW | exact hS | omega | assumption
            · exact absurd rfl c461
      · refine lv_tableIn (tgt := 466) hx hb d_Law_law_59 (by rw [h9]; decide) (by rw [h9]; decide) (by rw [h9]; rfl) (by decide) ?_
        refine lv_aload_n hx hb d_Law_law_466 rfl (lv_at hl 3 rfl) ?_
        refine lv_aload_n hx hb d_Law_law_467 rfl (lv_at hl 4 rfl) ?_
        refine lv_iload hx hb d_Law_law_468 (lv_at hl 0 rfl) ?_
        refine lv_iconst (v := 1) hx hb d_Law_law_470 (by decide) ?_
        refine lv_iadd hx hb d_Law_law_471 ?_
        refine va_sld hx hb hX hbl hbA hS (i := (nI (4 * t + 2)) + 1) (gl_in (k := 4 * t + 2) (d := 1) (gl_n1 _) hg (by omega) hL) d_Law_law_472 ?_
        obtain ⟨v195, ev195⟩ : ∃ z : Int32, z = xs ((nI (4 * t + 2)) + 1 : Int32).toNatClampNeg := ⟨_, rfl⟩
        refine W.eq (g2 := F0 m 473 ls [.int v195, .ref (A 0)]) (by rw [ev195]) ?_
        obtain ⟨_, _, _, hfx, -⟩ := id hV
        refine gr_calli (va_runV (As := [.int v195]) (rest := []) ⟨hx, hb, hml, hown, hts⟩ (r_version l G Mw A (nI lm) sc16 E j n hV.w v195 ) (cwV 1 hts (gw_gv mw423 mw424 mw425 mw42 mw422) rfl rfl rfl (by decide +kernel) ⟨Nat.le_of_ble_eq_true rfl, Nat.le_of_ble_eq_true rfl⟩) (gw_pv hE hB hS hW rfl hfx) rfl rfl hl.1 rfl (lv_room (Nat.le_of_ble_eq_true rfl)) d_Law_law_473 ⟨Nat.le_trans (m := 590000) (by omega) (Nat.le_of_ble_eq_true rfl), Nat.le_trans (m := 7200000) (by omega) (Nat.le_of_ble_eq_true rfl)⟩) (fun r196 hw198 => ?_)
        clear hw198 hfx
        refine lv_pop hx hb d_Law_law_476 rfl ?_
        refine lv_aload_n hx hb d_Law_law_477 rfl (lv_at hl 2 rfl) ?_
        refine lv_aload_n hx hb d_Law_law_478 rfl (lv_at hl 4 rfl) ?_
        refine lv_iload hx hb d_Law_law_479 (lv_at hl 0 rfl) ?_
        refine lv_iconst (v := 1) hx hb d_Law_law_481 (by decide) ?_
        refine lv_iadd hx hb d_Law_law_482 ?_
        refine va_sld hx hb hX hbl hbA hS (i := (nI (4 * t + 2)) + 1) (gl_in (k := 4 * t + 2) (d := 1) (gl_n1 _) hg (by omega) hL) d_Law_law_483 ?_
        refine W.eq (g2 := F0 m 484 ls [.int v195, .ref (B 0)]) (by rw [ev195]) ?_
        obtain ⟨_, _, _, _, _, _, _, _, _, hfm, -⟩ := id hM
        refine gw_calli hS (va_runV (As := [.int v195]) (rest := []) ⟨hx, hb, hml, hown, hts⟩ (m_version l G Mw B lm2 sm36 E j sz dr hM v195 ) (cwV 1 hts (gw_gv mw427 mw428 mw429 mw228 mw426) rfl rfl rfl (by decide +kernel) ⟨Nat.le_of_ble_eq_true rfl, Nat.le_of_ble_eq_true rfl⟩) (gw_pv hE hB hS hW rfl hfm) rfl rfl hl.1 rfl (lv_room (Nat.le_of_ble_eq_true rfl)) d_Law_law_484 ⟨Nat.le_trans (m := 590000) (by omega) (Nat.le_of_ble_eq_true rfl), Nat.le_trans (m := 7200000) (by omega) (Nat.le_of_ble_eq_true rfl)⟩) (fun r200 M201 H locs hw202 hW hS => ?_)
        clear hfm
        obtain ⟨hM, hfr203⟩ := hw202
        replace hV := hV.stays hfr203.1 (by decide)
        replace hO := (hfr203.1 _ _ _ (by decide)).mp hO
        clear hfr203
        refine lv_pop hx hb d_Law_law_487 rfl ?_
        refine lv_goto (tgt := 541) hx hb d_Law_law_488 (by decide) ?_
        refine lv_iinc (v := (nI (4 * t + 2)) + 4) (lv' := [(4, .int ((nI (4 * t + 2)) + 4)), (3, .ref q39), (2, .ref (B 0)), (1, .ref (A 0)), (0, .ref b)]) hx hb d_Law_law_541 hl (k := 0) rfl rfl (by decide) rfl (fun ls hl => ?_)
        refine lv_goto (tgt := 43) hx hb d_Law_law_544 (by decide) ?_
        refine W.widen (k := 30 + 3 * (t + 1)) (n := 40000 + 1258 * (t + 1)) (by omega) (by omega) ?_
        rw [gl_n4, show 4 * t + 2 + 4 = 4 * (t + 1) + 2 by omega] at hl
        apply ih9 (t := t + 1) (ls := ls) (H := H) (locs := locs) (Mw := M201) (E := E) (j := j) (n := n) (rs := rs) (sz := sz) (dr := dr) (fo := fo) <;> first | exact lv_sub hl [0, 1, 2, 3, 4] rfl | exact hV | exact hM | exact hO | exact hW | exact hS | omega | assumption
      · refine lv_tableIn (tgt := 491) hx hb d_Law_law_59 (by rw [h9]; decide) (by rw [h9]; decide) (by rw [h9]; rfl) (by decide) ?_
        refine lv_aload_n hx hb d_Law_law_491 rfl (lv_at hl 3 rfl) ?_
        refine lv_aload_n hx hb d_Law_law_492 rfl (lv_at hl 4 rfl) ?_
        refine lv_iload hx hb d_Law_law_493 (lv_at hl 0 rfl) ?_
        refine lv_iconst (v := 1) hx hb d_Law_law_495 (by decide) ?_
        refine lv_iadd hx hb d_Law_law_496 ?_
        refine va_sld hx hb hX hbl hbA hS (i := (nI (4 * t + 2)) + 1) (gl_in (k := 4 * t + 2) (d := 1) (gl_n1 _) hg (by omega) hL) d_Law_law_497 ?_
        obtain ⟨v204, ev204⟩ : ∃ z : Int32, z = xs ((nI (4 * t + 2)) + 1 : Int32).toNatClampNeg := ⟨_, rfl⟩
        refine W.eq (g2 := F0 m 498 ls [.int v204, .ref (A 0)]) (by rw [ev204]) ?_
        obtain ⟨_, _, _, hfx, -⟩ := id hV
        refine gr_calli (va_runV (As := [.int v204]) (rest := []) ⟨hx, hb, hml, hown, hts⟩ (r_state l G Mw A (nI lm) sc16 E j n hV.w v204 ) (cwV 1 hts (gw_gv mw431 mw432 mw433 mw42 mw430) rfl rfl rfl (by decide +kernel) ⟨Nat.le_of_ble_eq_true rfl, Nat.le_of_ble_eq_true rfl⟩) (gw_pv hE hB hS hW rfl hfx) rfl rfl hl.1 rfl (lv_room (Nat.le_of_ble_eq_true rfl)) d_Law_law_498 ⟨Nat.le_trans (m := 590000) (by omega) (Nat.le_of_ble_eq_true rfl), Nat.le_trans (m := 7200000) (by omega) (Nat.le_of_ble_eq_true rfl)⟩) (fun r205 hw207 => ?_)
        clear hw207 hfx
        refine lv_pop hx hb d_Law_law_501 rfl ?_
        refine lv_aload_n hx hb d_Law_law_502 rfl (lv_at hl 2 rfl) ?_
        refine lv_aload_n hx hb d_Law_law_503 rfl (lv_at hl 4 rfl) ?_
        refine lv_iload hx hb d_Law_law_504 (lv_at hl 0 rfl) ?_
        refine lv_iconst (v := 1) hx hb d_Law_law_506 (by decide) ?_
        refine lv_iadd hx hb d_Law_law_507 ?_
        refine va_sld hx hb hX hbl hbA hS (i := (nI (4 * t + 2)) + 1) (gl_in (k := 4 * t + 2) (d := 1) (gl_n1 _) hg (by omega) hL) d_Law_law_508 ?_
        refine W.eq (g2 := F0 m 509 ls [.int v204, .ref (B 0)]) (by rw [ev204]) ?_
        obtain ⟨_, _, _, _, _, _, _, _, _, hfm, -⟩ := id hM
        refine gw_calli hS (va_runV (As := [.int v204]) (rest := []) ⟨hx, hb, hml, hown, hts⟩ (m_state l G Mw B lm2 sm36 E j sz dr hM v204 ) (cwV 1 hts (gw_gv mw435 mw436 mw437 mw228 mw434) rfl rfl rfl (by decide +kernel) ⟨Nat.le_of_ble_eq_true rfl, Nat.le_of_ble_eq_true rfl⟩) (gw_pv hE hB hS hW rfl hfm) rfl rfl hl.1 rfl (lv_room (Nat.le_of_ble_eq_true rfl)) d_Law_law_509 ⟨Nat.le_trans (m := 590000) (by omega) (Nat.le_of_ble_eq_true rfl), Nat.le_trans (m := 7200000) (by omega) (Nat.le_of_ble_eq_true rfl)⟩) (fun r209 M210 H locs hw211 hW hS => ?_)
        clear hfm
        obtain ⟨hM, hfr212⟩ := hw211
        replace hV := hV.stays hfr212.1 (by decide)
        replace hO := (hfr212.1 _ _ _ (by decide)).mp hO
        clear hfr212
        refine lv_pop hx hb d_Law_law_512 rfl ?_
        refine lv_goto (tgt := 541) hx hb d_Law_law_513 (by decide) ?_
        refine lv_iinc (v := (nI (4 * t + 2)) + 4) (lv' := [(4, .int ((nI (4 * t + 2)) + 4)), (3, .ref q39), (2, .ref (B 0)), (1, .ref (A 0)), (0, .ref b)]) hx hb d_Law_law_541 hl (k := 0) rfl rfl (by decide) rfl (fun ls hl => ?_)
        refine lv_goto (tgt := 43) hx hb d_Law_law_544 (by decide) ?_
        refine W.widen (k := 30 + 3 * (t + 1)) (n := 40000 + 1258 * (t + 1)) (by omega) (by omega) ?_
        rw [gl_n4, show 4 * t + 2 + 4 = 4 * (t + 1) + 2 by omega] at hl
        apply ih9 (t := t + 1) (ls := ls) (H := H) (locs := locs) (Mw := M210) (E := E) (j := j) (n := n) (rs := rs) (sz := sz) (dr := dr) (fo := fo) <;> first | exact lv_sub hl [0, 1, 2, 3, 4] rfl | exact hV | exact hM | exact hO | exact hW | exact hS | omega | assumption
      · refine lv_tableIn (tgt := 516) hx hb d_Law_law_59 (by rw [h9]; decide) (by rw [h9]; decide) (by rw [h9]; rfl) (by decide) ?_
        refine lv_aload_n hx hb d_Law_law_516 rfl (lv_at hl 3 rfl) ?_
        refine lv_aload_n hx hb d_Law_law_517 rfl (lv_at hl 4 rfl) ?_
        refine lv_iload hx hb d_Law_law_518 (lv_at hl 0 rfl) ?_
        refine lv_iconst (v := 1) hx hb d_Law_law_520 (by decide) ?_
        refine lv_iadd hx hb d_Law_law_521 ?_
        refine va_sld hx hb hX hbl hbA hS (i := (nI (4 * t + 2)) + 1) (gl_in (k := 4 * t + 2) (d := 1) (gl_n1 _) hg (by omega) hL) d_Law_law_522 ?_
        obtain ⟨v213, ev213⟩ : ∃ z : Int32, z = xs ((nI (4 * t + 2)) + 1 : Int32).toNatClampNeg := ⟨_, rfl⟩
        refine W.eq (g2 := F0 m 523 ls [.int v213, .ref (A 0)]) (by rw [ev213]) ?_
        obtain ⟨_, _, _, hfx, -⟩ := id hV
        refine gr_calli (va_runV (As := [.int v213]) (rest := []) ⟨hx, hb, hml, hown, hts⟩ (r_count l G Mw A (nI lm) sc16 E j n hV.w v213 ) (cwV 1 hts (gw_gv mw439 mw440 mw441 mw42 mw438) rfl rfl rfl (by decide +kernel) ⟨Nat.le_of_ble_eq_true rfl, Nat.le_of_ble_eq_true rfl⟩) (gw_pv hE hB hS hW rfl hfx) rfl rfl hl.1 rfl (lv_room (Nat.le_of_ble_eq_true rfl)) d_Law_law_523 ⟨Nat.le_trans (m := 590000) (by omega) (Nat.le_of_ble_eq_true rfl), Nat.le_trans (m := 7200000) (by omega) (Nat.le_of_ble_eq_true rfl)⟩) (fun r214 hw216 => ?_)
        clear hw216 hfx
        refine lv_pop hx hb d_Law_law_526 rfl ?_
        refine lv_aload_n hx hb d_Law_law_527 rfl (lv_at hl 2 rfl) ?_
        refine lv_aload_n hx hb d_Law_law_528 rfl (lv_at hl 4 rfl) ?_
        refine lv_iload hx hb d_Law_law_529 (lv_at hl 0 rfl) ?_
        refine lv_iconst (v := 1) hx hb d_Law_law_531 (by decide) ?_
        refine lv_iadd hx hb d_Law_law_532 ?_
        refine va_sld hx hb hX hbl hbA hS (i := (nI (4 * t + 2)) + 1) (gl_in (k := 4 * t + 2) (d := 1) (gl_n1 _) hg (by omega) hL) d_Law_law_533 ?_
        refine W.eq (g2 := F0 m 534 ls [.int v213, .ref (B 0)]) (by rw [ev213]) ?_
        obtain ⟨_, _, _, _, _, _, _, _, _, hfm, -⟩ := id hM
        refine gw_calli hS (va_runV (As := [.int v213]) (rest := []) ⟨hx, hb, hml, hown, hts⟩ (m_count l G Mw B lm2 sm36 E j sz dr hM v213 ) (cwV 1 hts (gw_gv mw443 mw444 mw445 mw228 mw442) rfl rfl rfl (by decide +kernel) ⟨Nat.le_of_ble_eq_true rfl, Nat.le_of_ble_eq_true rfl⟩) (gw_pv hE hB hS hW rfl hfm) rfl rfl hl.1 rfl (lv_room (Nat.le_of_ble_eq_true rfl)) d_Law_law_534 ⟨Nat.le_trans (m := 590000) (by omega) (Nat.le_of_ble_eq_true rfl), Nat.le_trans (m := 7200000) (by omega) (Nat.le_of_ble_eq_true rfl)⟩) (fun r218 M219 H locs hw220 hW hS => ?_)
        clear hfm
        obtain ⟨hM, hfr221⟩ := hw220
        replace hV := hV.stays hfr221.1 (by decide)
        replace hO := (hfr221.1 _ _ _ (by decide)).mp hO
        clear hfr221
        refine lv_pop hx hb d_Law_law_537 rfl ?_
        refine lv_goto (tgt := 541) hx hb d_Law_law_538 (by decide) ?_
        refine lv_iinc (v := (nI (4 * t + 2)) + 4) (lv' := [(4, .int ((nI (4 * t + 2)) + 4)), (3, .ref q39), (2, .ref (B 0)), (1, .ref (A 0)), (0, .ref b)]) hx hb d_Law_law_541 hl (k := 0) rfl rfl (by decide) rfl (fun ls hl => ?_)
        refine lv_goto (tgt := 43) hx hb d_Law_law_544 (by decide) ?_
        refine W.widen (k := 30 + 3 * (t + 1)) (n := 40000 + 1258 * (t + 1)) (by omega) (by omega) ?_
        rw [gl_n4, show 4 * t + 2 + 4 = 4 * (t + 1) + 2 by omega] at hl
        apply ih9 (t := t + 1) (ls := ls) (H := H) (locs := locs) (Mw := M219) (E := E) (j := j) (n := n) (rs := rs) (sz := sz) (dr := dr) (fo := fo) <;> first | exact lv_sub hl [0, 1, 2, 3, 4] rfl | exact hV | exact hM | exact hO | exact hW | exact hS | omega | assumption
