/-! odds: the class, and the pair -/
theorem gm_onn_c {mb mb2 : Nat → Nat → Bool} {u u2 : Nat → Bool} {n : Nat} (h1 : ∀ i j, i < n → j < n → mb i j = mb2 i j) (h2 : ∀ j, j < n → u j = u2 j) : gm_onn mb u n = gm_onn mb2 u2 n := gm_lp_c (fun x a _ ha => gm_lp_c (fun x j q1 q2 => by rw [h1 a j (by omega) (by omega), h2 a (by omega), h2 j (by omega)]))
section PR8
variable {g : Nat}
theorem sX0_maIn (hg : 4000 ≤ g) (z : Nat → Int32) (w : Nat → Nat → Int32) (b : Int64) (hr : hx_rg w) {n : Nat} (hn : n ≤ 7) (hz : z 2 = nI n) (hmo : hx_mo w n) (a : Nat) (ha : a < n) : ∀ (k j F : Nat) (x : Nat × Nat), j + k = n → k + 1 ≤ F → ∃ F2, F = F2 + (k + 1) ∧ ah_run (kX0_matchesAlone g) F 16 [(0, .ref 3), (1, .int (nI x.1)), (2, .int (nI a)), (3, .int (nI j))] [] (hx z w b) = ah_run (kX0_matchesAlone g) F2 4 [(0, .ref 3), (1, .int (nI (gm_lp (fun (x : Nat × Nat) j => if (decide (w 21 a = -1) && decide (w 21 j = -1)) = true then (if xw_mb w a j = true then x.1 + 1 else x.1, x.2 + 1) else x) k j x).1)), (2, .int (nI (a + 1)))] [] (hx z w b) := by
  intro k
  induction k with
  | zero =>
    intro j F x hj hF
    obtain ⟨f, rfl⟩ : ∃ f, F = f + 1 := ⟨F - 1, by omega⟩
    refine ⟨f, by omega, ?_⟩
    have e : j = n := by omega
    subst e
    simp only [rX0_matchesAlone_16, Option.bind_some, Option.bind_none, ah_rI_s, ah_rL_s, ah_rV_s, hx_v0, hx_fr0_0, hx_fr0_1, hx_fr0_2, hx_fr0_3, hx_fr0_4, hx_fi0_5, hx_sv0_5, hx_v1, hx_fr1_0, hx_fi1_1, hx_sv1_1, hx_v3, hx_fr3_0, hx_fr3_1, hx_fi3_2, hx_sv3_2, hx_fi3_3, hx_sv3_3, hx_fi3_4, hx_sv3_4, hx_fi3_5, hx_sv3_5, hx_fi3_6, hx_sv3_6, hx_fr3_7, hx_v5, hx_fi5_0, hx_sv5_0, hx_fr5_1, hx_fr5_2, hx_fr5_3, hx_fr5_4, hx_v11, hx_fi11_0, hx_sv11_0, hx_fr11_1, hx_fr11_2, hx_fr11_3, hx_fr11_4, hx_fi11_5, hx_sv11_5, hx_fi11_6, hx_sv11_6, hx_fi11_7, hx_sv11_7, hx_fi11_8, hx_sv11_8, hx_v15, hx_fi15_0, hx_sv15_0, hx_fr15_1, hx_fr15_2, hx_fr15_3, hx_fr15_4, hx_v20, hx_fi20_0, hx_sv20_0, hx_fi20_1, hx_sv20_1, hx_fi20_2, hx_sv20_2, hx_fi20_3, hx_sv20_3, hx_fr20_4, hx_fr20_5, hx_fr20_6, hx_fr20_7, hx_fi20_8, hx_sv20_8, hx_fi20_9, hx_sv20_9, hx_fi20_10, hx_sv20_10, hx_fi20_11, hx_sv20_11, hx_v25, hx_fi25_0, hx_sv25_0, hx_fi25_1, hx_sv25_1, hx_fl, hx_sl, hx_fr25_3, hx_li2, hx_ai2, hx_si2, hx_li6, hx_ai6, hx_si6, hx_li7, hx_ai7, hx_si7, hx_li8, hx_ai8, hx_si8, hx_li9, hx_ai9, hx_si9, hx_li10, hx_ai10, hx_si10, hx_li12, hx_ai12, hx_si12, hx_li13, hx_ai13, hx_si13, hx_li14, hx_ai14, hx_si14, hx_li16, hx_ai16, hx_si16, hx_li17, hx_ai17, hx_si17, hx_li18, hx_ai18, hx_si18, hx_li19, hx_ai19, hx_si19, hx_li21, hx_ai21, hx_si21, hx_li22, hx_ai22, hx_si22, hx_li24, hx_ai24, hx_si24, hx_li26, hx_ai26, hx_si26, hx_li27, hx_ai27, hx_si27, hx_li28, hx_ai28, hx_si28, hx_li29, hx_ai29, hx_si29, hx_li30, hx_ai30, hx_si30, hx_li31, hx_ai31, hx_si31, hx_li32, hx_ai32, hx_si32, hx_li33, hx_ai33, hx_si33, hx_lr4, hx_lr23, hx_sf0, hx_sf1, hx_ss1, hx_sf2, hx_ss2, hx_sf3, hx_ss3, hx_lkli, hx_lksi, hz, nI_ltnn (show j < 1000 by omega), if_false, nI_1]
    rfl
  | succ k ih =>
    intro j F x hj hF
    obtain ⟨f, rfl⟩ : ∃ f, F = f + 1 := ⟨F - 1, by omega⟩
    obtain ⟨F2, h1, h2⟩ := ih (j + 1) f (if (decide (w 21 a = -1) && decide (w 21 j = -1)) = true then (if xw_mb w a j = true then x.1 + 1 else x.1, x.2 + 1) else x) (by omega) (by omega)
    refine ⟨F2, by omega, ?_⟩
    rw [gm_lp_s, ← h2]
    simp only [rX0_matchesAlone_16, Option.bind_some, Option.bind_none, ah_rI_s, ah_rL_s, ah_rV_s, hx_v0, hx_fr0_0, hx_fr0_1, hx_fr0_2, hx_fr0_3, hx_fr0_4, hx_fi0_5, hx_sv0_5, hx_v1, hx_fr1_0, hx_fi1_1, hx_sv1_1, hx_v3, hx_fr3_0, hx_fr3_1, hx_fi3_2, hx_sv3_2, hx_fi3_3, hx_sv3_3, hx_fi3_4, hx_sv3_4, hx_fi3_5, hx_sv3_5, hx_fi3_6, hx_sv3_6, hx_fr3_7, hx_v5, hx_fi5_0, hx_sv5_0, hx_fr5_1, hx_fr5_2, hx_fr5_3, hx_fr5_4, hx_v11, hx_fi11_0, hx_sv11_0, hx_fr11_1, hx_fr11_2, hx_fr11_3, hx_fr11_4, hx_fi11_5, hx_sv11_5, hx_fi11_6, hx_sv11_6, hx_fi11_7, hx_sv11_7, hx_fi11_8, hx_sv11_8, hx_v15, hx_fi15_0, hx_sv15_0, hx_fr15_1, hx_fr15_2, hx_fr15_3, hx_fr15_4, hx_v20, hx_fi20_0, hx_sv20_0, hx_fi20_1, hx_sv20_1, hx_fi20_2, hx_sv20_2, hx_fi20_3, hx_sv20_3, hx_fr20_4, hx_fr20_5, hx_fr20_6, hx_fr20_7, hx_fi20_8, hx_sv20_8, hx_fi20_9, hx_sv20_9, hx_fi20_10, hx_sv20_10, hx_fi20_11, hx_sv20_11, hx_v25, hx_fi25_0, hx_sv25_0, hx_fi25_1, hx_sv25_1, hx_fl, hx_sl, hx_fr25_3, hx_li2, hx_ai2, hx_si2, hx_li6, hx_ai6, hx_si6, hx_li7, hx_ai7, hx_si7, hx_li8, hx_ai8, hx_si8, hx_li9, hx_ai9, hx_si9, hx_li10, hx_ai10, hx_si10, hx_li12, hx_ai12, hx_si12, hx_li13, hx_ai13, hx_si13, hx_li14, hx_ai14, hx_si14, hx_li16, hx_ai16, hx_si16, hx_li17, hx_ai17, hx_si17, hx_li18, hx_ai18, hx_si18, hx_li19, hx_ai19, hx_si19, hx_li21, hx_ai21, hx_si21, hx_li22, hx_ai22, hx_si22, hx_li24, hx_ai24, hx_si24, hx_li26, hx_ai26, hx_si26, hx_li27, hx_ai27, hx_si27, hx_li28, hx_ai28, hx_si28, hx_li29, hx_ai29, hx_si29, hx_li30, hx_ai30, hx_si30, hx_li31, hx_ai31, hx_si31, hx_li32, hx_ai32, hx_si32, hx_li33, hx_ai33, hx_si33, hx_lr4, hx_lr23, hx_sf0, hx_sf1, hx_ss1, hx_sf2, hx_ss2, hx_sf3, hx_ss3, hx_lkli, hx_lksi, hz, nI_ltin (show j < n by omega) (show n < 1000 by omega), if_true, sX0_isPaired z w b hg hn hz hmo a ha, sX0_isPaired z w b hg hn hz hmo j (by omega), sX0_mayPair z w b hg hr a j (by omega) (by omega), bI_0, nI_1]
    by_cases c1 : w 21 a = -1 <;> by_cases c2 : w 21 j = -1 <;> cases c3 : xw_mb w a j <;> simp [c1, c2]
theorem sX0_matchesAlone (hg : 4000 ≤ g) (z : Nat → Int32) (w : Nat → Nat → Int32) (b : Int64) (hr : hx_rg w) {n : Nat} (hn : n ≤ 7) (hz : z 2 = nI n) (hmo : hx_mo w n) : aX0_matchesAlone g [.ref 3] (hx z w b) = some (some (.int (nI (gm_onn (xw_mb w) (fun j => decide (w 21 j = -1)) n).1)), hx z w b) := by
  have loop := gm_loop (n := n) 9 1 (fun F i (x : Nat × Nat) => ah_run (kX0_matchesAlone g) F 4 [(0, .ref 3), (1, .int (nI x.1)), (2, .int (nI i))] [] (hx z w b)) (fun x a => gm_on1 (xw_mb w) (fun j => decide (w 21 j = -1)) n a x) (fun x => some (some (.int (nI x.1)), hx z w b)) (fun _ _ => True) (fun F x hF _ => by
      obtain ⟨f, rfl⟩ : ∃ f, F = f + 1 := ⟨F - 1, by omega⟩
      simp only [rX0_matchesAlone_4, Option.bind_some, Option.bind_none, ah_rI_s, ah_rL_s, ah_rV_s, hx_v0, hx_fr0_0, hx_fr0_1, hx_fr0_2, hx_fr0_3, hx_fr0_4, hx_fi0_5, hx_sv0_5, hx_v1, hx_fr1_0, hx_fi1_1, hx_sv1_1, hx_v3, hx_fr3_0, hx_fr3_1, hx_fi3_2, hx_sv3_2, hx_fi3_3, hx_sv3_3, hx_fi3_4, hx_sv3_4, hx_fi3_5, hx_sv3_5, hx_fi3_6, hx_sv3_6, hx_fr3_7, hx_v5, hx_fi5_0, hx_sv5_0, hx_fr5_1, hx_fr5_2, hx_fr5_3, hx_fr5_4, hx_v11, hx_fi11_0, hx_sv11_0, hx_fr11_1, hx_fr11_2, hx_fr11_3, hx_fr11_4, hx_fi11_5, hx_sv11_5, hx_fi11_6, hx_sv11_6, hx_fi11_7, hx_sv11_7, hx_fi11_8, hx_sv11_8, hx_v15, hx_fi15_0, hx_sv15_0, hx_fr15_1, hx_fr15_2, hx_fr15_3, hx_fr15_4, hx_v20, hx_fi20_0, hx_sv20_0, hx_fi20_1, hx_sv20_1, hx_fi20_2, hx_sv20_2, hx_fi20_3, hx_sv20_3, hx_fr20_4, hx_fr20_5, hx_fr20_6, hx_fr20_7, hx_fi20_8, hx_sv20_8, hx_fi20_9, hx_sv20_9, hx_fi20_10, hx_sv20_10, hx_fi20_11, hx_sv20_11, hx_v25, hx_fi25_0, hx_sv25_0, hx_fi25_1, hx_sv25_1, hx_fl, hx_sl, hx_fr25_3, hx_li2, hx_ai2, hx_si2, hx_li6, hx_ai6, hx_si6, hx_li7, hx_ai7, hx_si7, hx_li8, hx_ai8, hx_si8, hx_li9, hx_ai9, hx_si9, hx_li10, hx_ai10, hx_si10, hx_li12, hx_ai12, hx_si12, hx_li13, hx_ai13, hx_si13, hx_li14, hx_ai14, hx_si14, hx_li16, hx_ai16, hx_si16, hx_li17, hx_ai17, hx_si17, hx_li18, hx_ai18, hx_si18, hx_li19, hx_ai19, hx_si19, hx_li21, hx_ai21, hx_si21, hx_li22, hx_ai22, hx_si22, hx_li24, hx_ai24, hx_si24, hx_li26, hx_ai26, hx_si26, hx_li27, hx_ai27, hx_si27, hx_li28, hx_ai28, hx_si28, hx_li29, hx_ai29, hx_si29, hx_li30, hx_ai30, hx_si30, hx_li31, hx_ai31, hx_si31, hx_li32, hx_ai32, hx_si32, hx_li33, hx_ai33, hx_si33, hx_lr4, hx_lr23, hx_sf0, hx_sf1, hx_ss1, hx_sf2, hx_ss2, hx_sf3, hx_ss3, hx_lkli, hx_lksi, hz, nI_ltnn (show n < 1000 by omega), if_false]) (fun F i x hF hi _ => by
      obtain ⟨f, rfl⟩ : ∃ f, F = f + 1 := ⟨F - 1, by omega⟩
      obtain ⟨F2, h1, h2⟩ := sX0_maIn hg z w b hr hn hz hmo i hi (n - (i + 1)) (i + 1) f x (by omega) (by omega)
      refine ⟨F2, by omega, ?_, trivial⟩
      simp only [rX0_matchesAlone_4, Option.bind_some, Option.bind_none, ah_rI_s, ah_rL_s, ah_rV_s, hx_v0, hx_fr0_0, hx_fr0_1, hx_fr0_2, hx_fr0_3, hx_fr0_4, hx_fi0_5, hx_sv0_5, hx_v1, hx_fr1_0, hx_fi1_1, hx_sv1_1, hx_v3, hx_fr3_0, hx_fr3_1, hx_fi3_2, hx_sv3_2, hx_fi3_3, hx_sv3_3, hx_fi3_4, hx_sv3_4, hx_fi3_5, hx_sv3_5, hx_fi3_6, hx_sv3_6, hx_fr3_7, hx_v5, hx_fi5_0, hx_sv5_0, hx_fr5_1, hx_fr5_2, hx_fr5_3, hx_fr5_4, hx_v11, hx_fi11_0, hx_sv11_0, hx_fr11_1, hx_fr11_2, hx_fr11_3, hx_fr11_4, hx_fi11_5, hx_sv11_5, hx_fi11_6, hx_sv11_6, hx_fi11_7, hx_sv11_7, hx_fi11_8, hx_sv11_8, hx_v15, hx_fi15_0, hx_sv15_0, hx_fr15_1, hx_fr15_2, hx_fr15_3, hx_fr15_4, hx_v20, hx_fi20_0, hx_sv20_0, hx_fi20_1, hx_sv20_1, hx_fi20_2, hx_sv20_2, hx_fi20_3, hx_sv20_3, hx_fr20_4, hx_fr20_5, hx_fr20_6, hx_fr20_7, hx_fi20_8, hx_sv20_8, hx_fi20_9, hx_sv20_9, hx_fi20_10, hx_sv20_10, hx_fi20_11, hx_sv20_11, hx_v25, hx_fi25_0, hx_sv25_0, hx_fi25_1, hx_sv25_1, hx_fl, hx_sl, hx_fr25_3, hx_li2, hx_ai2, hx_si2, hx_li6, hx_ai6, hx_si6, hx_li7, hx_ai7, hx_si7, hx_li8, hx_ai8, hx_si8, hx_li9, hx_ai9, hx_si9, hx_li10, hx_ai10, hx_si10, hx_li12, hx_ai12, hx_si12, hx_li13, hx_ai13, hx_si13, hx_li14, hx_ai14, hx_si14, hx_li16, hx_ai16, hx_si16, hx_li17, hx_ai17, hx_si17, hx_li18, hx_ai18, hx_si18, hx_li19, hx_ai19, hx_si19, hx_li21, hx_ai21, hx_si21, hx_li22, hx_ai22, hx_si22, hx_li24, hx_ai24, hx_si24, hx_li26, hx_ai26, hx_si26, hx_li27, hx_ai27, hx_si27, hx_li28, hx_ai28, hx_si28, hx_li29, hx_ai29, hx_si29, hx_li30, hx_ai30, hx_si30, hx_li31, hx_ai31, hx_si31, hx_li32, hx_ai32, hx_si32, hx_li33, hx_ai33, hx_si33, hx_lr4, hx_lr23, hx_sf0, hx_sf1, hx_ss1, hx_sf2, hx_ss2, hx_sf3, hx_ss3, hx_lkli, hx_lksi, hz, nI_ltin hi (show n < 1000 by omega), if_true, nI_1]
      exact h2)
  obtain ⟨f, rfl⟩ : ∃ f, g = f + 200 := ⟨g - 200, by omega⟩
  unfold aX0_matchesAlone
  rw [eX0_matchesAlone]
  exact loop n 0 (0, 0) (f + 199) (by omega) trivial (by omega)
theorem gq_odds (hg : 4000 ≤ g) {K n ln sn : Nat} {z : Nat → Int32} {w : Nat → Nat → Int32} {y : Nat → Int32} {v : Nat → Nat → Int32} (b c : Int64) (hR : gm_R K n ln sn z w y v) (h0 : ¬ z 2 = 0) (p : Int32) (hp : p = 0 ∨ p = 1) : ∃ r : Int32, aX11_odds g [.ref 0, .int p] (hx z w b) = some (some (.int r), hx z w b) ∧ aX12_oddsOf g [.ref 0, .int p] (hm y v c) = some (some (.int r), hm y v c) := by
  have h7 := hR.n7
  obtain ⟨U, hU⟩ : ∃ U, U = (gm_onn (xw_mb w) (fun j => decide (w 21 j = -1)) n).1 := ⟨_, rfl⟩
  obtain ⟨A, hA⟩ : ∃ A, A = (gm_onn (xw_mb w) (fun j => decide (w 21 j = -1)) n).2 := ⟨_, rfl⟩
  have hUA : U ≤ A := by rw [hU, hA]; exact gm_onn_le _ _ _
  have hcu := gm_cu_le (fun j => decide (w 21 j = -1)) n
  have hA2 : A = gm_cu (fun j => decide (w 21 j = -1)) n * (gm_cu (fun j => decide (w 21 j = -1)) n - 1) / 2 := by rw [hA, gm_onn_2, gm_c2u _ h7]
  have hA21 : A ≤ 21 := by
    rw [hA2]
    have : ∀ m : Fin 8, m.val * (m.val - 1) / 2 ≤ 21 := by decide
    exact this ⟨gm_cu (fun j => decide (w 21 j = -1)) n, by omega⟩
  have hod : gm_od (mw_mb v) (v 11) n = (nI U, nI A) := by
    rw [gm_od_n, hU, hA]
    have e : gm_onn (mw_mb v) (fun j => decide (v 11 j = -1)) n = gm_onn (xw_mb w) (fun j => decide (w 21 j = -1)) n := gm_onn_c (fun i j hi hj => (hR.mb hi hj).symm) (fun j hj => by rw [hR.mt hj])
    rw [e]
  have h2 := sX12_oddsOf hg y v c h7 hR.zm p hod hUA hA21
  refine ⟨_, ?_, h2⟩
  have htwo : aX0_twosAlone g [.ref 3] (hx z w b) = some (some (.int (nI A)), hx z w b) := by
    have e := gm_al01 (hd := w 18) (mt := w 21) (n := n) (fun i hi => (hR.sg hi).2.2.2.2.2.2.1)
    have e2 := gm_sq ⟨gm_cu (fun j => decide (w 21 j = -1)) n, by omega⟩
    dsimp only at e2
    obtain ⟨f, rfl⟩ : ∃ f, g = f + 1 := ⟨g - 1, by omega⟩
    unfold aX0_twosAlone
    rw [eX0_twosAlone]
    simp only [Option.bind_some, Option.bind_none, ah_rI_s, ah_rL_s, ah_rV_s, hx_v0, hx_fr0_0, hx_fr0_1, hx_fr0_2, hx_fr0_3, hx_fr0_4, hx_fi0_5, hx_sv0_5, hx_v1, hx_fr1_0, hx_fi1_1, hx_sv1_1, hx_v3, hx_fr3_0, hx_fr3_1, hx_fi3_2, hx_sv3_2, hx_fi3_3, hx_sv3_3, hx_fi3_4, hx_sv3_4, hx_fi3_5, hx_sv3_5, hx_fi3_6, hx_sv3_6, hx_fr3_7, hx_v5, hx_fi5_0, hx_sv5_0, hx_fr5_1, hx_fr5_2, hx_fr5_3, hx_fr5_4, hx_v11, hx_fi11_0, hx_sv11_0, hx_fr11_1, hx_fr11_2, hx_fr11_3, hx_fr11_4, hx_fi11_5, hx_sv11_5, hx_fi11_6, hx_sv11_6, hx_fi11_7, hx_sv11_7, hx_fi11_8, hx_sv11_8, hx_v15, hx_fi15_0, hx_sv15_0, hx_fr15_1, hx_fr15_2, hx_fr15_3, hx_fr15_4, hx_v20, hx_fi20_0, hx_sv20_0, hx_fi20_1, hx_sv20_1, hx_fi20_2, hx_sv20_2, hx_fi20_3, hx_sv20_3, hx_fr20_4, hx_fr20_5, hx_fr20_6, hx_fr20_7, hx_fi20_8, hx_sv20_8, hx_fi20_9, hx_sv20_9, hx_fi20_10, hx_sv20_10, hx_fi20_11, hx_sv20_11, hx_v25, hx_fi25_0, hx_sv25_0, hx_fi25_1, hx_sv25_1, hx_fl, hx_sl, hx_fr25_3, hx_li2, hx_ai2, hx_si2, hx_li6, hx_ai6, hx_si6, hx_li7, hx_ai7, hx_si7, hx_li8, hx_ai8, hx_si8, hx_li9, hx_ai9, hx_si9, hx_li10, hx_ai10, hx_si10, hx_li12, hx_ai12, hx_si12, hx_li13, hx_ai13, hx_si13, hx_li14, hx_ai14, hx_si14, hx_li16, hx_ai16, hx_si16, hx_li17, hx_ai17, hx_si17, hx_li18, hx_ai18, hx_si18, hx_li19, hx_ai19, hx_si19, hx_li21, hx_ai21, hx_si21, hx_li22, hx_ai22, hx_si22, hx_li24, hx_ai24, hx_si24, hx_li26, hx_ai26, hx_si26, hx_li27, hx_ai27, hx_si27, hx_li28, hx_ai28, hx_si28, hx_li29, hx_ai29, hx_si29, hx_li30, hx_ai30, hx_si30, hx_li31, hx_ai31, hx_si31, hx_li32, hx_ai32, hx_si32, hx_li33, hx_ai33, hx_si33, hx_lr4, hx_lr23, hx_sf0, hx_sf1, hx_ss1, hx_sf2, hx_ss2, hx_sf3, hx_ss3, hx_lkli, hx_lksi, sX0_alone z w b hg h7 hR.zx hR.mo, n32_20, if_false, e]
    rw [e2, ← hA2]
  have hma := sX0_matchesAlone hg z w b hR.rg h7 hR.zx hR.mo
  rw [← hU] at hma
  have zA : (nI A = 0) = (A = 0) := nI_eqi (b := 0) (by omega) (by omega)
  obtain ⟨f, rfl⟩ : ∃ f, g = f + 1 := ⟨g - 1, by omega⟩
  unfold aX11_odds
  rw [eX11_odds]
  simp only [Option.bind_some, Option.bind_none, ah_rI_s, ah_rL_s, ah_rV_s, hx_v0, hx_fr0_0, hx_fr0_1, hx_fr0_2, hx_fr0_3, hx_fr0_4, hx_fi0_5, hx_sv0_5, hx_v1, hx_fr1_0, hx_fi1_1, hx_sv1_1, hx_v3, hx_fr3_0, hx_fr3_1, hx_fi3_2, hx_sv3_2, hx_fi3_3, hx_sv3_3, hx_fi3_4, hx_sv3_4, hx_fi3_5, hx_sv3_5, hx_fi3_6, hx_sv3_6, hx_fr3_7, hx_v5, hx_fi5_0, hx_sv5_0, hx_fr5_1, hx_fr5_2, hx_fr5_3, hx_fr5_4, hx_v11, hx_fi11_0, hx_sv11_0, hx_fr11_1, hx_fr11_2, hx_fr11_3, hx_fr11_4, hx_fi11_5, hx_sv11_5, hx_fi11_6, hx_sv11_6, hx_fi11_7, hx_sv11_7, hx_fi11_8, hx_sv11_8, hx_v15, hx_fi15_0, hx_sv15_0, hx_fr15_1, hx_fr15_2, hx_fr15_3, hx_fr15_4, hx_v20, hx_fi20_0, hx_sv20_0, hx_fi20_1, hx_sv20_1, hx_fi20_2, hx_sv20_2, hx_fi20_3, hx_sv20_3, hx_fr20_4, hx_fr20_5, hx_fr20_6, hx_fr20_7, hx_fi20_8, hx_sv20_8, hx_fi20_9, hx_sv20_9, hx_fi20_10, hx_sv20_10, hx_fi20_11, hx_sv20_11, hx_v25, hx_fi25_0, hx_sv25_0, hx_fi25_1, hx_sv25_1, hx_fl, hx_sl, hx_fr25_3, hx_li2, hx_ai2, hx_si2, hx_li6, hx_ai6, hx_si6, hx_li7, hx_ai7, hx_si7, hx_li8, hx_ai8, hx_si8, hx_li9, hx_ai9, hx_si9, hx_li10, hx_ai10, hx_si10, hx_li12, hx_ai12, hx_si12, hx_li13, hx_ai13, hx_si13, hx_li14, hx_ai14, hx_si14, hx_li16, hx_ai16, hx_si16, hx_li17, hx_ai17, hx_si17, hx_li18, hx_ai18, hx_si18, hx_li19, hx_ai19, hx_si19, hx_li21, hx_ai21, hx_si21, hx_li22, hx_ai22, hx_si22, hx_li24, hx_ai24, hx_si24, hx_li26, hx_ai26, hx_si26, hx_li27, hx_ai27, hx_si27, hx_li28, hx_ai28, hx_si28, hx_li29, hx_ai29, hx_si29, hx_li30, hx_ai30, hx_si30, hx_li31, hx_ai31, hx_si31, hx_li32, hx_ai32, hx_si32, hx_li33, hx_ai33, hx_si33, hx_lr4, hx_lr23, hx_sf0, hx_sf1, hx_ss1, hx_sf2, hx_ss2, hx_sf3, hx_ss3, hx_lkli, hx_lksi, sX0_isMissing z w b hg, h0, decide_false, bI_0, if_true, hma, htwo, zA]
  by_cases c0 : A = 0
  · simp only [c0, if_true]
    rcases hp with rfl | rfl
    · rfl
    · rfl
  · have hg2 := gm_cdg ⟨U, by omega⟩ ⟨A, by omega⟩ hUA (by show 0 < A; omega)
    dsimp only at hg2
    have zg : (nI (gm_gcd 100 A U) = 0) = False := by rw [show (0 : Int32) = nI 0 from rfl, nI_eqi (by omega) (by omega)]; exact eq_false (by omega)
    simp only [c0, if_false, sX11_commonDivisor hg U A (by omega) (by omega), hg2.1, Option.bind_some, Option.bind_none, ah_rI_s, ah_rL_s, ah_rV_s, zg]
    rcases hp with rfl | rfl
    · rfl
    · rfl
theorem gp_odds (hg : 4000 ≤ g) (p : Int32) : gm_Pair (aX11_odds g) (aX12_odds g) [.ref 0, .int p] := by
  intro K n ln sn z w b y v c hR
  have h7 := hR.n7
  have hin : aX12_in g [.long p.toInt64, .long 0, .long 1] (hm y v c) = some (some (.int (bI (decide (0 ≤ p.toInt ∧ p.toInt ≤ 1)))), hm y v c) := sX12_in2 hg p 0 1 (hm y v c)
  have hzy : y 2 = z 2 := by rw [hR.zm, hR.zx]
  by_cases hp : p = 0 ∨ p = 1
  · have hq : 0 ≤ p.toInt ∧ p.toInt ≤ 1 := by
      rcases hp with rfl | rfl
      · decide
      · decide
    by_cases h0 : z 2 = 0
    · refine gm_same hR (-103) ?_ ?_
      · obtain ⟨f, rfl⟩ : ∃ f, g = f + 1 := ⟨g - 1, by omega⟩
        unfold aX11_odds
        rw [eX11_odds]
        simp only [Option.bind_some, Option.bind_none, ah_rI_s, ah_rL_s, ah_rV_s, hx_v0, hx_fr0_0, hx_fr0_1, hx_fr0_2, hx_fr0_3, hx_fr0_4, hx_fi0_5, hx_sv0_5, hx_v1, hx_fr1_0, hx_fi1_1, hx_sv1_1, hx_v3, hx_fr3_0, hx_fr3_1, hx_fi3_2, hx_sv3_2, hx_fi3_3, hx_sv3_3, hx_fi3_4, hx_sv3_4, hx_fi3_5, hx_sv3_5, hx_fi3_6, hx_sv3_6, hx_fr3_7, hx_v5, hx_fi5_0, hx_sv5_0, hx_fr5_1, hx_fr5_2, hx_fr5_3, hx_fr5_4, hx_v11, hx_fi11_0, hx_sv11_0, hx_fr11_1, hx_fr11_2, hx_fr11_3, hx_fr11_4, hx_fi11_5, hx_sv11_5, hx_fi11_6, hx_sv11_6, hx_fi11_7, hx_sv11_7, hx_fi11_8, hx_sv11_8, hx_v15, hx_fi15_0, hx_sv15_0, hx_fr15_1, hx_fr15_2, hx_fr15_3, hx_fr15_4, hx_v20, hx_fi20_0, hx_sv20_0, hx_fi20_1, hx_sv20_1, hx_fi20_2, hx_sv20_2, hx_fi20_3, hx_sv20_3, hx_fr20_4, hx_fr20_5, hx_fr20_6, hx_fr20_7, hx_fi20_8, hx_sv20_8, hx_fi20_9, hx_sv20_9, hx_fi20_10, hx_sv20_10, hx_fi20_11, hx_sv20_11, hx_v25, hx_fi25_0, hx_sv25_0, hx_fi25_1, hx_sv25_1, hx_fl, hx_sl, hx_fr25_3, hx_li2, hx_ai2, hx_si2, hx_li6, hx_ai6, hx_si6, hx_li7, hx_ai7, hx_si7, hx_li8, hx_ai8, hx_si8, hx_li9, hx_ai9, hx_si9, hx_li10, hx_ai10, hx_si10, hx_li12, hx_ai12, hx_si12, hx_li13, hx_ai13, hx_si13, hx_li14, hx_ai14, hx_si14, hx_li16, hx_ai16, hx_si16, hx_li17, hx_ai17, hx_si17, hx_li18, hx_ai18, hx_si18, hx_li19, hx_ai19, hx_si19, hx_li21, hx_ai21, hx_si21, hx_li22, hx_ai22, hx_si22, hx_li24, hx_ai24, hx_si24, hx_li26, hx_ai26, hx_si26, hx_li27, hx_ai27, hx_si27, hx_li28, hx_ai28, hx_si28, hx_li29, hx_ai29, hx_si29, hx_li30, hx_ai30, hx_si30, hx_li31, hx_ai31, hx_si31, hx_li32, hx_ai32, hx_si32, hx_li33, hx_ai33, hx_si33, hx_lr4, hx_lr23, hx_sf0, hx_sf1, hx_ss1, hx_sf2, hx_ss2, hx_sf3, hx_ss3, hx_lkli, hx_lksi, sX0_isMissing z w b hg, h0, decide_true, bI_0, Bool.true_eq_false, if_false]
        rcases hp with rfl | rfl
        · rfl
        · rfl
      · obtain ⟨f, rfl⟩ : ∃ f, g = f + 1 := ⟨g - 1, by omega⟩
        unfold aX12_odds
        rw [eX12_odds]
        simp only [Option.bind_some, Option.bind_none, ah_rI_s, ah_rL_s, ah_rV_s, hm_vI, hm_fr0, hm_li0, hm_ai0, hm_si0, hm_fi1, hm_sv1, hm_fi2, hm_sv2, hm_fi3, hm_sv3, hm_fi4, hm_sv4, hm_fi5, hm_sv5, hm_fi6, hm_sv6, hm_fi7, hm_sv7, hm_fr8, hm_li8, hm_ai8, hm_si8, hm_fr9, hm_li9, hm_ai9, hm_si9, hm_fr10, hm_li10, hm_ai10, hm_si10, hm_fr11, hm_li11, hm_ai11, hm_si11, hm_fr12, hm_li12, hm_ai12, hm_si12, hm_fr13, hm_li13, hm_ai13, hm_si13, hm_fr14, hm_li14, hm_ai14, hm_si14, hm_fi15, hm_sv15, hm_fr16, hm_li16, hm_ai16, hm_si16, hm_fr17, hm_li17, hm_ai17, hm_si17, hm_fi18, hm_sv18, hm_fi19, hm_sv19, hm_fi20, hm_sv20, hm_fi21, hm_sv21, hm_fi22, hm_sv22, hm_fi23, hm_sv23, hm_fi24, hm_sv24, hm_fr25, hm_li25, hm_ai25, hm_si25, hm_fr26, hm_li26, hm_ai26, hm_si26, hm_fr27, hm_li27, hm_ai27, hm_si27, hm_fr28, hm_li28, hm_ai28, hm_si28, hm_fl, hm_sl, hin, hq, and_self, decide_true, sX12_lacks y v c hg, hzy, h0, bI_0, Bool.true_eq_false, if_false]
    · obtain ⟨r, h1, h2⟩ := gq_odds hg b c hR h0 p hp
      refine gm_same hR r h1 ?_
      obtain ⟨f, rfl⟩ : ∃ f, g = f + 1 := ⟨g - 1, by omega⟩
      unfold aX12_odds
      rw [eX12_odds]
      simp only [Option.bind_some, Option.bind_none, ah_rI_s, ah_rL_s, ah_rV_s, hm_vI, hm_fr0, hm_li0, hm_ai0, hm_si0, hm_fi1, hm_sv1, hm_fi2, hm_sv2, hm_fi3, hm_sv3, hm_fi4, hm_sv4, hm_fi5, hm_sv5, hm_fi6, hm_sv6, hm_fi7, hm_sv7, hm_fr8, hm_li8, hm_ai8, hm_si8, hm_fr9, hm_li9, hm_ai9, hm_si9, hm_fr10, hm_li10, hm_ai10, hm_si10, hm_fr11, hm_li11, hm_ai11, hm_si11, hm_fr12, hm_li12, hm_ai12, hm_si12, hm_fr13, hm_li13, hm_ai13, hm_si13, hm_fr14, hm_li14, hm_ai14, hm_si14, hm_fi15, hm_sv15, hm_fr16, hm_li16, hm_ai16, hm_si16, hm_fr17, hm_li17, hm_ai17, hm_si17, hm_fi18, hm_sv18, hm_fi19, hm_sv19, hm_fi20, hm_sv20, hm_fi21, hm_sv21, hm_fi22, hm_sv22, hm_fi23, hm_sv23, hm_fi24, hm_sv24, hm_fr25, hm_li25, hm_ai25, hm_si25, hm_fr26, hm_li26, hm_ai26, hm_si26, hm_fr27, hm_li27, hm_ai27, hm_si27, hm_fr28, hm_li28, hm_ai28, hm_si28, hm_fl, hm_sl, hin, hq, and_self, decide_true, sX12_lacks y v c hg, hzy, h0, decide_false, bI_0, Bool.true_eq_false, if_false, if_true, h2]
  · have hq : ¬ (0 ≤ p.toInt ∧ p.toInt ≤ 1) := fun h => hp (by
      rw [i32_eq, i32_eq, show (0 : Int32).toInt = 0 from rfl, show (1 : Int32).toInt = 1 from rfl]; omega)
    refine gm_same hR (-102) ?_ ?_
    · obtain ⟨f, rfl⟩ : ∃ f, g = f + 1 := ⟨g - 1, by omega⟩
      unfold aX11_odds
      rw [eX11_odds]
      rw [if_neg (fun h => hp (Or.inl h)), if_neg (fun h => hp (Or.inr h))]
    · obtain ⟨f, rfl⟩ : ∃ f, g = f + 1 := ⟨g - 1, by omega⟩
      unfold aX12_odds
      rw [eX12_odds]
      simp only [Option.bind_some, Option.bind_none, ah_rI_s, ah_rL_s, ah_rV_s, hm_vI, hm_fr0, hm_li0, hm_ai0, hm_si0, hm_fi1, hm_sv1, hm_fi2, hm_sv2, hm_fi3, hm_sv3, hm_fi4, hm_sv4, hm_fi5, hm_sv5, hm_fi6, hm_sv6, hm_fi7, hm_sv7, hm_fr8, hm_li8, hm_ai8, hm_si8, hm_fr9, hm_li9, hm_ai9, hm_si9, hm_fr10, hm_li10, hm_ai10, hm_si10, hm_fr11, hm_li11, hm_ai11, hm_si11, hm_fr12, hm_li12, hm_ai12, hm_si12, hm_fr13, hm_li13, hm_ai13, hm_si13, hm_fr14, hm_li14, hm_ai14, hm_si14, hm_fi15, hm_sv15, hm_fr16, hm_li16, hm_ai16, hm_si16, hm_fr17, hm_li17, hm_ai17, hm_si17, hm_fi18, hm_sv18, hm_fi19, hm_sv19, hm_fi20, hm_sv20, hm_fi21, hm_sv21, hm_fi22, hm_sv22, hm_fi23, hm_sv23, hm_fi24, hm_sv24, hm_fr25, hm_li25, hm_ai25, hm_si25, hm_fr26, hm_li26, hm_ai26, hm_si26, hm_fr27, hm_li27, hm_ai27, hm_si27, hm_fr28, hm_li28, hm_ai28, hm_si28, hm_fl, hm_sl, hin, hq, decide_false, bI_0, if_true]
end PR8
