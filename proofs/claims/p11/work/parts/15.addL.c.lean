theorem gw_monoi {l : Launch} {y : MethodName} {ws : List Cond} {rm : Room} {Pc : Array Value → State → Prop} {G : gw_G} {p1 p2 : Int32 → gw_M → Prop} {mc ms : Nat} {free : Addr → Prop} (h : Met l y ws rm Pc (gw_Qi G p1) mc ms free) (hp : ∀ r M2, p1 r M2 → p2 r M2) : Met l y ws rm Pc (gw_Qi G p2) mc ms free := by
  intro p e ha hc hk s m args below hf happ hP hK
  obtain ⟨k, o, h1, h2, h3, ⟨⟨r, u, hr, hq, hb⟩, hF⟩, hL⟩ := h p e ha hc hk s m args below hf happ hP hK
  exact ⟨k, o, h1, h2, h3, ⟨⟨r, u, hr, hp r u hq, hb⟩, hF⟩, hL⟩
theorem gx_up0 {g : Nat} {f : Nat → Option Nat} {n : Nat} (hn : n < 2 ^ 31) : va_up f (nI n).toNatClampNeg (some g) n = some g := by rw [nI_clamp hn]; exact va_up_self _ _ _
theorem gx_upn {g : Nat} {f : Nat → Option Nat} {n i : Nat} (hn : n < 2 ^ 31) (hi : i < n) : va_up f (nI n).toNatClampNeg (some g) i = f i := by rw [nI_clamp hn]; exact va_up_ne _ _ (by omega)
set_option maxHeartbeats 4000000 in
theorem s_addK (l : Launch) (G : gw_G) (M : gw_M) (o n g : Nat) (v1 : Int32) (v2 : Int32) (v3 : Int32) (v4 : Int32) (v5 : Int32) (hL : gl_L G M o 5 7 9 n) (hn : n ≤ 600) (hz : ∀ (a : Nat) (e : va_E), M a = some (9, e) → ∃ fs : List Value, e = .inr (2, fs)) (hg : M g = some (9, .inr (2, [.int v1, .int v2, .int v3, .int v4, .int v5]))) : Met l y_AL_add2 [.code y_AL_add2 b_AL_add2 2 (some .boolean)] ({ frames := 6, cells := 1, slots := 1000, locals := 200 }) (gw_Pc G M [.ref o, .ref g]) (gw_Qi G (fun r M2 => 1 = r ∧ gl_L G M2 o 5 7 9 (n + 1) ∧ gw_fg (gw_out [5, 7]) M M2)) 1 1000 (gw_A G) := by
  obtain ⟨k, ⟨rfl, hf⟩ | ⟨a, cap, f, hf, ha, hc, hc2, he⟩⟩ := hL
  · refine gw_monoi (a_addK l G M o k g v1 v2 v3 v4 v5 hf hg) (fun r M2 hq => ?_)
    obtain ⟨ar, e1, h1, h2, h3⟩ := hq
    refine ⟨e1, ⟨_, Or.inr ⟨ar, 10, _, h1, h2, by omega, ⟨by omega, by omega⟩, fun i hi => ?_⟩⟩, h3⟩
    have e0 : i = 0 := by omega
    subst e0
    exact ⟨g, _, gx_up0 (by omega), (h3.1 _ _ _ (by decide)).mp hg⟩
  · by_cases hcap : n < cap
    · refine gw_monoi (b_addK l G M o k a n cap f g v1 v2 v3 v4 v5 hf ha hg hcap hc2.2) (fun r M2 hq => ?_)
      obtain ⟨e1, h1, h2, h3⟩ := hq
      refine ⟨e1, ⟨_, Or.inr ⟨a, cap, _, by rw [← nI_1]; exact h1, h2, by omega, hc2, fun i hi => ?_⟩⟩, h3⟩
      by_cases q : i = n
      · subst q
        exact ⟨g, _, gx_up0 (by omega), (h3.1 _ _ _ (by decide)).mp hg⟩
      · obtain ⟨y, e, hy, hM⟩ := he i (by omega)
        exact ⟨y, e, by rw [gx_upn (by omega) (by omega)]; exact hy, (h3.1 _ _ _ (by decide)).mp hM⟩
    · have ecap : cap = n := by omega
      subst ecap
      · refine gw_monoi (c_addK l G M o k a cap f g v1 v2 v3 v4 v5 hf ha hg hc2.1 hn (fun i hi => ?_)) (fun r M2 hq => ?_)
        · obtain ⟨y, e, hy, hM⟩ := he i hi
          obtain ⟨fs, rfl⟩ := hz y e hM
          exact ⟨y, fs, hy, hM⟩
        · obtain ⟨c, q, e1, h1, h2, hq1, hq2, h3⟩ := hq
          refine ⟨e1, ⟨_, Or.inr ⟨c, q, _, by rw [← nI_1]; exact h1, h2, by omega, ⟨by omega, hq2⟩, fun i hi => ?_⟩⟩, h3⟩
          by_cases z : i = cap
          · subst z
            exact ⟨g, _, gx_up0 (by omega), (h3.1 _ _ _ (by decide)).mp hg⟩
          · obtain ⟨y, e, hy, hM⟩ := he i (by omega)
            exact ⟨y, e, by rw [gx_upn (by omega) (by omega), pk_cpy_in (by omega) (by omega)]; exact (by rw [show 0 + (i - 0) = i by omega]; exact hy), (h3.1 _ _ _ (by decide)).mp hM⟩
set_option maxHeartbeats 4000000 in
theorem s_addJ (l : Launch) (G : gw_G) (M : gw_M) (o n g : Nat) (v1 : Nat) (v2 : Int32) (hL : gl_L G M o 4 6 10 n) (hn : n ≤ 600) (hz : ∀ (a : Nat) (e : va_E), M a = some (10, e) → ∃ fs : List Value, e = .inr (3, fs)) (hg : M g = some (10, .inr (3, [.ref v1, .int v2]))) : Met l y_AL_add2 [.code y_AL_add2 b_AL_add2 2 (some .boolean)] ({ frames := 6, cells := 1, slots := 1000, locals := 200 }) (gw_Pc G M [.ref o, .ref g]) (gw_Qi G (fun r M2 => 1 = r ∧ gl_L G M2 o 4 6 10 (n + 1) ∧ gw_fg (gw_out [4, 6]) M M2)) 1 1000 (gw_A G) := by
  obtain ⟨k, ⟨rfl, hf⟩ | ⟨a, cap, f, hf, ha, hc, hc2, he⟩⟩ := hL
  · refine gw_monoi (a_addJ l G M o k g v1 v2 hf hg) (fun r M2 hq => ?_)
    obtain ⟨ar, e1, h1, h2, h3⟩ := hq
    refine ⟨e1, ⟨_, Or.inr ⟨ar, 10, _, h1, h2, by omega, ⟨by omega, by omega⟩, fun i hi => ?_⟩⟩, h3⟩
    have e0 : i = 0 := by omega
    subst e0
    exact ⟨g, _, gx_up0 (by omega), (h3.1 _ _ _ (by decide)).mp hg⟩
  · by_cases hcap : n < cap
    · refine gw_monoi (b_addJ l G M o k a n cap f g v1 v2 hf ha hg hcap hc2.2) (fun r M2 hq => ?_)
      obtain ⟨e1, h1, h2, h3⟩ := hq
      refine ⟨e1, ⟨_, Or.inr ⟨a, cap, _, by rw [← nI_1]; exact h1, h2, by omega, hc2, fun i hi => ?_⟩⟩, h3⟩
      by_cases q : i = n
      · subst q
        exact ⟨g, _, gx_up0 (by omega), (h3.1 _ _ _ (by decide)).mp hg⟩
      · obtain ⟨y, e, hy, hM⟩ := he i (by omega)
        exact ⟨y, e, by rw [gx_upn (by omega) (by omega)]; exact hy, (h3.1 _ _ _ (by decide)).mp hM⟩
    · have ecap : cap = n := by omega
      subst ecap
      · refine gw_monoi (c_addJ l G M o k a cap f g v1 v2 hf ha hg hc2.1 hn (fun i hi => ?_)) (fun r M2 hq => ?_)
        · obtain ⟨y, e, hy, hM⟩ := he i hi
          obtain ⟨fs, rfl⟩ := hz y e hM
          exact ⟨y, fs, hy, hM⟩
        · obtain ⟨c, q, e1, h1, h2, hq1, hq2, h3⟩ := hq
          refine ⟨e1, ⟨_, Or.inr ⟨c, q, _, by rw [← nI_1]; exact h1, h2, by omega, ⟨by omega, hq2⟩, fun i hi => ?_⟩⟩, h3⟩
          by_cases z : i = cap
          · subst z
            exact ⟨g, _, gx_up0 (by omega), (h3.1 _ _ _ (by decide)).mp hg⟩
          · obtain ⟨y, e, hy, hM⟩ := he i (by omega)
            exact ⟨y, e, by rw [gx_upn (by omega) (by omega), pk_cpy_in (by omega) (by omega)]; exact (by rw [show 0 + (i - 0) = i by omega]; exact hy), (h3.1 _ _ _ (by decide)).mp hM⟩
