/-! pairs: most, best, stable, the calls -/
def gx_qb (q : Int32) : Bool := decide (q.toInt = 0 ∨ q.toInt = 1 ∨ (10 ≤ q.toInt ∧ q.toInt < 17))
theorem gx_qb_q {q : Int32} (h : gx_qb q = true) : gx_q q := by
  rcases of_decide_eq_true h with h | h | ⟨h1, h2⟩
  · exact Or.inl ((i32_eq q 0).mpr h)
  · exact Or.inr (Or.inl ((i32_eq q 1).mpr h))
  · refine Or.inr (Or.inr ⟨q.toInt.toNat - 10, by omega, ?_⟩)
    rw [show 10 + (q.toInt.toNat - 10) = q.toInt.toNat by omega]
    exact i32_nI (by omega)
theorem rd_lv_s (v : Nat → Nat → Int32) (i j : Nat) : rd_lv v i j = rd_lv v j i := by
  unfold rd_lv
  rw [mw_lk, gm_lk_s]
section RWQ
variable {g : Nat}
theorem sX11_isRowQuestion (hg : 4000 ≤ g) (q : Int32) (h : ah_H) : aX11_isRowQuestion g [.int q] h = some (some (.int (bI (gx_qb q))), h) := by
  obtain ⟨f, rfl⟩ : ∃ f, g = f + 1 := ⟨g - 1, by omega⟩
  unfold aX11_isRowQuestion
  rw [eX11_isRowQuestion]
  simp only [i32_lt, i32_eq, show (0 : Int32).toInt = 0 from rfl, show (1 : Int32).toInt = 1 from rfl, show (10 : Int32).toInt = 10 from rfl, show (17 : Int32).toInt = 17 from rfl]
  unfold gx_qb
  by_cases c0 : q.toInt = 0
  · rw [if_pos c0, decide_eq_true (Or.inl c0)]; rfl
  · rw [if_neg c0]
    by_cases c1 : q.toInt = 1
    · rw [if_pos c1, decide_eq_true (Or.inr (Or.inl c1))]; rfl
    · rw [if_neg c1]
      by_cases c2 : q.toInt < 10
      · rw [if_pos c2, decide_eq_false (by omega)]; rfl
      · rw [if_neg c2]
        by_cases c3 : q.toInt < 17
        · rw [if_pos c3, decide_eq_true (by omega)]; rfl
        · rw [if_neg c3, decide_eq_false (by omega)]; rfl
theorem sX12_isRowWhat (hg : 4000 ≤ g) (q : Int32) (h : ah_H) : aX12_isRowWhat g [.int q] h = some (some (.int (bI (gx_qb q))), h) := by
  obtain ⟨f, rfl⟩ : ∃ f, g = f + 1 := ⟨g - 1, by omega⟩
  unfold aX12_isRowWhat
  rw [eX12_isRowWhat]
  simp only [sX12_in hg, ob_s, ob_n, ar_I, ar_L, ar_V, show (0 : Int64) = (0 : Int32).toInt64 from rfl, show (1 : Int64) = (1 : Int32).toInt64 from rfl, show (10 : Int64) = (10 : Int32).toInt64 from rfl, show (16 : Int64) = (16 : Int32).toInt64 from rfl, i64_lt, show (0 : Int32).toInt = 0 from rfl, show (1 : Int32).toInt = 1 from rfl, show (10 : Int32).toInt = 10 from rfl, show (16 : Int32).toInt = 16 from rfl]
  unfold gx_qb
  by_cases c0 : q.toInt < 0 ∨ 1 < q.toInt
  · rw [if_pos c0, if_pos rfl]
    by_cases c1 : q.toInt < 10 ∨ 16 < q.toInt
    · rw [if_pos c1, if_pos rfl, decide_eq_false (by omega)]; rfl
    · rw [if_neg c1, if_neg (by decide), decide_eq_true (by omega)]; rfl
  · rw [if_neg c0, if_neg (by decide), decide_eq_true (by omega)]; rfl
theorem hx_told (z : Nat → Int32) (w : Nat → Nat → Int32) (b : Int64) (hg : 4000 ≤ g) {q : Int32} (hq : gx_q q) (x u : Int32) : (if q = 0 then some (some (Value.int x), hx z w b) else if q = 1 then some (some (Value.int u), hx z w b) else (ah_rI (aX6_mateOf g [.ref 20, .int (q - 10)] (hx z w b))).bind fun z8 => some (some (Value.int z8.1), z8.2)) = some (some (Value.int (gx_an q x u (w 13))), hx z w b) := by
  unfold gx_an
  rcases hq with e | e | ⟨i, hi, e⟩
  · rw [if_pos e, if_pos e]
  · have : ¬ q = 0 := by rw [e]; decide
    rw [if_neg this, if_neg this, if_pos e, if_pos e]
  · have e0 : ¬ q = 0 := by
      rw [e, show (0 : Int32) = nI 0 from rfl, nI_eq (by omega) (by omega)]
      omega
    have e1 : ¬ q = 1 := by
      rw [e, show (1 : Int32) = nI 1 from rfl, nI_eq (by omega) (by omega)]
      omega
    rw [if_neg e0, if_neg e0, if_neg e1, if_neg e1, e, gx_q10, sX6_mateOf hg z w b i hi, ar_I, ob_s, nI_clamp (by omega)]
theorem sX11_mostTold (hg : 4000 ≤ g) (z : Nat → Int32) (w : Nat → Nat → Int32) (b : Int64) {q : Int32} (hq : gx_q q) : aX11_mostTold g [.ref 0, .int q] (hx z w b) = some (some (.int (gx_an q (z 15) (z 16) (w 13))), hx z w b) := by
  obtain ⟨f, rfl⟩ : ∃ f, g = f + 1 := ⟨g - 1, by omega⟩
  unfold aX11_mostTold
  rw [eX11_mostTold]
  simp only [ob_s, ob_n, ar_I, ar_L, ar_V, hx_v0, hx_fr0_0, hx_fr0_1, hx_fr0_2, hx_fr0_3, hx_fr0_4, hx_fi0_5, hx_sv0_5, hx_v1, hx_fr1_0, hx_fi1_1, hx_sv1_1, hx_v3, hx_fr3_0, hx_fr3_1, hx_fi3_2, hx_sv3_2, hx_fi3_3, hx_sv3_3, hx_fi3_4, hx_sv3_4, hx_fi3_5, hx_sv3_5, hx_fi3_6, hx_sv3_6, hx_fr3_7, hx_v5, hx_fi5_0, hx_sv5_0, hx_fr5_1, hx_fr5_2, hx_fr5_3, hx_fr5_4, hx_v11, hx_fi11_0, hx_sv11_0, hx_fr11_1, hx_fr11_2, hx_fr11_3, hx_fr11_4, hx_fi11_5, hx_sv11_5, hx_fi11_6, hx_sv11_6, hx_fi11_7, hx_sv11_7, hx_fi11_8, hx_sv11_8, hx_v15, hx_fi15_0, hx_sv15_0, hx_fr15_1, hx_fr15_2, hx_fr15_3, hx_fr15_4, hx_v20, hx_fi20_0, hx_sv20_0, hx_fi20_1, hx_sv20_1, hx_fi20_2, hx_sv20_2, hx_fi20_3, hx_sv20_3, hx_fr20_4, hx_fr20_5, hx_fr20_6, hx_fr20_7, hx_fi20_8, hx_sv20_8, hx_fi20_9, hx_sv20_9, hx_fi20_10, hx_sv20_10, hx_fi20_11, hx_sv20_11, hx_v25, hx_fi25_0, hx_sv25_0, hx_fi25_1, hx_sv25_1, hx_fl, hx_sl, hx_fr25_3, hx_li2, hx_ai2, hx_si2, hx_li6, hx_ai6, hx_si6, hx_li7, hx_ai7, hx_si7, hx_li8, hx_ai8, hx_si8, hx_li9, hx_ai9, hx_si9, hx_li10, hx_ai10, hx_si10, hx_li12, hx_ai12, hx_si12, hx_li13, hx_ai13, hx_si13, hx_li14, hx_ai14, hx_si14, hx_li16, hx_ai16, hx_si16, hx_li17, hx_ai17, hx_si17, hx_li18, hx_ai18, hx_si18, hx_li19, hx_ai19, hx_si19, hx_li21, hx_ai21, hx_si21, hx_li22, hx_ai22, hx_si22, hx_li24, hx_ai24, hx_si24, hx_li26, hx_ai26, hx_si26, hx_li27, hx_ai27, hx_si27, hx_li28, hx_ai28, hx_si28, hx_li29, hx_ai29, hx_si29, hx_li30, hx_ai30, hx_si30, hx_li31, hx_ai31, hx_si31, hx_li32, hx_ai32, hx_si32, hx_li33, hx_ai33, hx_si33, hx_lr4, hx_lr23, hx_sf0, hx_sf1, hx_ss1, hx_sf2, hx_ss2, hx_sf3, hx_ss3, hx_lkli, hx_lksi]
  exact hx_told z w b hg hq (z 15) (z 16)
theorem sX11_bestTold (hg : 4000 ≤ g) (z : Nat → Int32) (w : Nat → Nat → Int32) (b : Int64) {q : Int32} (hq : gx_q q) : aX11_bestTold g [.ref 0, .int q] (hx z w b) = some (some (.int (gx_an q (z 16) (z 17) (w 13))), hx z w b) := by
  obtain ⟨f, rfl⟩ : ∃ f, g = f + 1 := ⟨g - 1, by omega⟩
  unfold aX11_bestTold
  rw [eX11_bestTold]
  simp only [ob_s, ob_n, ar_I, ar_L, ar_V, hx_v0, hx_fr0_0, hx_fr0_1, hx_fr0_2, hx_fr0_3, hx_fr0_4, hx_fi0_5, hx_sv0_5, hx_v1, hx_fr1_0, hx_fi1_1, hx_sv1_1, hx_v3, hx_fr3_0, hx_fr3_1, hx_fi3_2, hx_sv3_2, hx_fi3_3, hx_sv3_3, hx_fi3_4, hx_sv3_4, hx_fi3_5, hx_sv3_5, hx_fi3_6, hx_sv3_6, hx_fr3_7, hx_v5, hx_fi5_0, hx_sv5_0, hx_fr5_1, hx_fr5_2, hx_fr5_3, hx_fr5_4, hx_v11, hx_fi11_0, hx_sv11_0, hx_fr11_1, hx_fr11_2, hx_fr11_3, hx_fr11_4, hx_fi11_5, hx_sv11_5, hx_fi11_6, hx_sv11_6, hx_fi11_7, hx_sv11_7, hx_fi11_8, hx_sv11_8, hx_v15, hx_fi15_0, hx_sv15_0, hx_fr15_1, hx_fr15_2, hx_fr15_3, hx_fr15_4, hx_v20, hx_fi20_0, hx_sv20_0, hx_fi20_1, hx_sv20_1, hx_fi20_2, hx_sv20_2, hx_fi20_3, hx_sv20_3, hx_fr20_4, hx_fr20_5, hx_fr20_6, hx_fr20_7, hx_fi20_8, hx_sv20_8, hx_fi20_9, hx_sv20_9, hx_fi20_10, hx_sv20_10, hx_fi20_11, hx_sv20_11, hx_v25, hx_fi25_0, hx_sv25_0, hx_fi25_1, hx_sv25_1, hx_fl, hx_sl, hx_fr25_3, hx_li2, hx_ai2, hx_si2, hx_li6, hx_ai6, hx_si6, hx_li7, hx_ai7, hx_si7, hx_li8, hx_ai8, hx_si8, hx_li9, hx_ai9, hx_si9, hx_li10, hx_ai10, hx_si10, hx_li12, hx_ai12, hx_si12, hx_li13, hx_ai13, hx_si13, hx_li14, hx_ai14, hx_si14, hx_li16, hx_ai16, hx_si16, hx_li17, hx_ai17, hx_si17, hx_li18, hx_ai18, hx_si18, hx_li19, hx_ai19, hx_si19, hx_li21, hx_ai21, hx_si21, hx_li22, hx_ai22, hx_si22, hx_li24, hx_ai24, hx_si24, hx_li26, hx_ai26, hx_si26, hx_li27, hx_ai27, hx_si27, hx_li28, hx_ai28, hx_si28, hx_li29, hx_ai29, hx_si29, hx_li30, hx_ai30, hx_si30, hx_li31, hx_ai31, hx_si31, hx_li32, hx_ai32, hx_si32, hx_li33, hx_ai33, hx_si33, hx_lr4, hx_lr23, hx_sf0, hx_sf1, hx_ss1, hx_sf2, hx_ss2, hx_sf3, hx_ss3, hx_lkli, hx_lksi]
  exact hx_told z w b hg hq (z 16) (z 17)
theorem sX11_stableTold (hg : 4000 ≤ g) (z : Nat → Int32) (w : Nat → Nat → Int32) (b : Int64) {q : Int32} (hq : gx_q q) : aX11_stableTold g [.ref 0, .int q] (hx z w b) = some (some (.int (gx_an q (z 14) (z 15) (w 13))), hx z w b) := by
  obtain ⟨f, rfl⟩ : ∃ f, g = f + 1 := ⟨g - 1, by omega⟩
  unfold aX11_stableTold
  rw [eX11_stableTold]
  simp only [ob_s, ob_n, ar_I, ar_L, ar_V, hx_v0, hx_fr0_0, hx_fr0_1, hx_fr0_2, hx_fr0_3, hx_fr0_4, hx_fi0_5, hx_sv0_5, hx_v1, hx_fr1_0, hx_fi1_1, hx_sv1_1, hx_v3, hx_fr3_0, hx_fr3_1, hx_fi3_2, hx_sv3_2, hx_fi3_3, hx_sv3_3, hx_fi3_4, hx_sv3_4, hx_fi3_5, hx_sv3_5, hx_fi3_6, hx_sv3_6, hx_fr3_7, hx_v5, hx_fi5_0, hx_sv5_0, hx_fr5_1, hx_fr5_2, hx_fr5_3, hx_fr5_4, hx_v11, hx_fi11_0, hx_sv11_0, hx_fr11_1, hx_fr11_2, hx_fr11_3, hx_fr11_4, hx_fi11_5, hx_sv11_5, hx_fi11_6, hx_sv11_6, hx_fi11_7, hx_sv11_7, hx_fi11_8, hx_sv11_8, hx_v15, hx_fi15_0, hx_sv15_0, hx_fr15_1, hx_fr15_2, hx_fr15_3, hx_fr15_4, hx_v20, hx_fi20_0, hx_sv20_0, hx_fi20_1, hx_sv20_1, hx_fi20_2, hx_sv20_2, hx_fi20_3, hx_sv20_3, hx_fr20_4, hx_fr20_5, hx_fr20_6, hx_fr20_7, hx_fi20_8, hx_sv20_8, hx_fi20_9, hx_sv20_9, hx_fi20_10, hx_sv20_10, hx_fi20_11, hx_sv20_11, hx_v25, hx_fi25_0, hx_sv25_0, hx_fi25_1, hx_sv25_1, hx_fl, hx_sl, hx_fr25_3, hx_li2, hx_ai2, hx_si2, hx_li6, hx_ai6, hx_si6, hx_li7, hx_ai7, hx_si7, hx_li8, hx_ai8, hx_si8, hx_li9, hx_ai9, hx_si9, hx_li10, hx_ai10, hx_si10, hx_li12, hx_ai12, hx_si12, hx_li13, hx_ai13, hx_si13, hx_li14, hx_ai14, hx_si14, hx_li16, hx_ai16, hx_si16, hx_li17, hx_ai17, hx_si17, hx_li18, hx_ai18, hx_si18, hx_li19, hx_ai19, hx_si19, hx_li21, hx_ai21, hx_si21, hx_li22, hx_ai22, hx_si22, hx_li24, hx_ai24, hx_si24, hx_li26, hx_ai26, hx_si26, hx_li27, hx_ai27, hx_si27, hx_li28, hx_ai28, hx_si28, hx_li29, hx_ai29, hx_si29, hx_li30, hx_ai30, hx_si30, hx_li31, hx_ai31, hx_si31, hx_li32, hx_ai32, hx_si32, hx_li33, hx_ai33, hx_si33, hx_lr4, hx_lr23, hx_sf0, hx_sf1, hx_ss1, hx_sf2, hx_ss2, hx_sf3, hx_ss3, hx_lkli, hx_lksi]
  exact hx_told z w b hg hq (z 14) (z 15)
theorem gp_most (hg : 6000 ≤ g) (q : Int32) : gm_Pair (aX11_most g) (aX12_most g) [.ref 0, .int q] := by
  intro K n ln sn z w b y v c hR
  have h4 : 4000 ≤ g := by omega
  have q1 := sX11_isRowQuestion h4 q (hx z w b)
  have q2 := sX12_isRowWhat h4 q (hm y v c)
  have m1 := sX0_isMissing z w b h4
  have m2 := sX12_lacks y v c h4
  cases hq : gx_qb q
  · rw [hq] at q1 q2
    refine gm_same hR (-102) ?_ ?_
    · obtain ⟨f, rfl⟩ : ∃ f, g = f + 1 := ⟨g - 1, by omega⟩
      unfold aX11_most
      rw [eX11_most]
      simp only [q1, bI_f, ob_s, ob_n, ar_I, ar_L, ar_V, n32_00, if_true]
    · obtain ⟨f, rfl⟩ : ∃ f, g = f + 1 := ⟨g - 1, by omega⟩
      unfold aX12_most
      rw [eX12_most]
      simp only [q2, bI_f, ob_s, ob_n, ar_I, ar_L, ar_V, n32_00, if_true]
  · rw [hq] at q1 q2
    by_cases h0 : n = 0
    · have e1 : z 2 = 0 := by rw [hR.zx, h0]; rfl
      have e2 : y 2 = 0 := by rw [hR.zm, h0]; rfl
      rw [decide_eq_true e1] at m1
      rw [decide_eq_true e2] at m2
      refine gm_same hR (-103) ?_ ?_
      · obtain ⟨f, rfl⟩ : ∃ f, g = f + 1 := ⟨g - 1, by omega⟩
        unfold aX11_most
        rw [eX11_most]
        simp only [q1, bI_t, ob_s, ob_n, ar_I, ar_L, ar_V, n32_10, if_false, hx_v0, hx_fr0_0, hx_fr0_1, hx_fr0_2, hx_fr0_3, hx_fr0_4, hx_fi0_5, hx_sv0_5, hx_v1, hx_fr1_0, hx_fi1_1, hx_sv1_1, hx_v3, hx_fr3_0, hx_fr3_1, hx_fi3_2, hx_sv3_2, hx_fi3_3, hx_sv3_3, hx_fi3_4, hx_sv3_4, hx_fi3_5, hx_sv3_5, hx_fi3_6, hx_sv3_6, hx_fr3_7, hx_v5, hx_fi5_0, hx_sv5_0, hx_fr5_1, hx_fr5_2, hx_fr5_3, hx_fr5_4, hx_v11, hx_fi11_0, hx_sv11_0, hx_fr11_1, hx_fr11_2, hx_fr11_3, hx_fr11_4, hx_fi11_5, hx_sv11_5, hx_fi11_6, hx_sv11_6, hx_fi11_7, hx_sv11_7, hx_fi11_8, hx_sv11_8, hx_v15, hx_fi15_0, hx_sv15_0, hx_fr15_1, hx_fr15_2, hx_fr15_3, hx_fr15_4, hx_v20, hx_fi20_0, hx_sv20_0, hx_fi20_1, hx_sv20_1, hx_fi20_2, hx_sv20_2, hx_fi20_3, hx_sv20_3, hx_fr20_4, hx_fr20_5, hx_fr20_6, hx_fr20_7, hx_fi20_8, hx_sv20_8, hx_fi20_9, hx_sv20_9, hx_fi20_10, hx_sv20_10, hx_fi20_11, hx_sv20_11, hx_v25, hx_fi25_0, hx_sv25_0, hx_fi25_1, hx_sv25_1, hx_fl, hx_sl, hx_fr25_3, hx_li2, hx_ai2, hx_si2, hx_li6, hx_ai6, hx_si6, hx_li7, hx_ai7, hx_si7, hx_li8, hx_ai8, hx_si8, hx_li9, hx_ai9, hx_si9, hx_li10, hx_ai10, hx_si10, hx_li12, hx_ai12, hx_si12, hx_li13, hx_ai13, hx_si13, hx_li14, hx_ai14, hx_si14, hx_li16, hx_ai16, hx_si16, hx_li17, hx_ai17, hx_si17, hx_li18, hx_ai18, hx_si18, hx_li19, hx_ai19, hx_si19, hx_li21, hx_ai21, hx_si21, hx_li22, hx_ai22, hx_si22, hx_li24, hx_ai24, hx_si24, hx_li26, hx_ai26, hx_si26, hx_li27, hx_ai27, hx_si27, hx_li28, hx_ai28, hx_si28, hx_li29, hx_ai29, hx_si29, hx_li30, hx_ai30, hx_si30, hx_li31, hx_ai31, hx_si31, hx_li32, hx_ai32, hx_si32, hx_li33, hx_ai33, hx_si33, hx_lr4, hx_lr23, hx_sf0, hx_sf1, hx_ss1, hx_sf2, hx_ss2, hx_sf3, hx_ss3, hx_lkli, hx_lksi, m1]
      · obtain ⟨f, rfl⟩ : ∃ f, g = f + 1 := ⟨g - 1, by omega⟩
        unfold aX12_most
        rw [eX12_most]
        simp only [q2, bI_t, ob_s, ob_n, ar_I, ar_L, ar_V, n32_10, if_false, hm_vI, hm_fr0, hm_li0, hm_ai0, hm_si0, hm_fi1, hm_sv1, hm_fi2, hm_sv2, hm_fi3, hm_sv3, hm_fi4, hm_sv4, hm_fi5, hm_sv5, hm_fi6, hm_sv6, hm_fi7, hm_sv7, hm_fr8, hm_li8, hm_ai8, hm_si8, hm_fr9, hm_li9, hm_ai9, hm_si9, hm_fr10, hm_li10, hm_ai10, hm_si10, hm_fr11, hm_li11, hm_ai11, hm_si11, hm_fr12, hm_li12, hm_ai12, hm_si12, hm_fr13, hm_li13, hm_ai13, hm_si13, hm_fr14, hm_li14, hm_ai14, hm_si14, hm_fi15, hm_sv15, hm_fr16, hm_li16, hm_ai16, hm_si16, hm_fr17, hm_li17, hm_ai17, hm_si17, hm_fi18, hm_sv18, hm_fi19, hm_sv19, hm_fi20, hm_sv20, hm_fi21, hm_sv21, hm_fi22, hm_sv22, hm_fi23, hm_sv23, hm_fi24, hm_sv24, hm_fr25, hm_li25, hm_ai25, hm_si25, hm_fr26, hm_li26, hm_ai26, hm_si26, hm_fr27, hm_li27, hm_ai27, hm_si27, hm_fr28, hm_li28, hm_ai28, hm_si28, hm_fl, hm_sl, m2]
    · have h7 := hR.n7
      have e1 : ¬ z 2 = 0 := by rw [hR.zx]; exact nI_ne0 (by omega) (by omega)
      have e2 : ¬ y 2 = 0 := by rw [hR.zm]; exact nI_ne0 (by omega) (by omega)
      rw [decide_eq_false e1] at m1
      rw [decide_eq_false e2] at m2
      obtain ⟨z2, w2, T, s1, s2, s3, s4, s5, s6, s7, s8⟩ := gq_seek h4 b hR 0 (A := 30) (by omega)
      obtain ⟨r2, t2, p1⟩ := sX12_mostOf hg c hR.n7 hR.zm (rd_D hR) (gx_qb_q hq) s2
      have p2 := sX11_mostTold h4 z2 w2 b (gx_qb_q hq)
      rw [s5, s6, s8] at p2
      refine ⟨gx_an q (gx_X 0 n 30 (rd_ok v) (rd_lv v) (rd_dv v) T).1.2.2.1 (gx_X 0 n 30 (rd_ok v) (rd_lv v) (rd_dv v) T).1.2.2.2.1 (gx_X 0 n 30 (rd_ok v) (rd_lv v) (rd_dv v) T).2, n, ln, sn, z2, w2, b, y, mx_w v r2 t2, c, ?_, ?_, gm_R_mw s3 r2 t2⟩
      · have s1 : aX6_seek g [.ref 20, .ref 3, .int 0, .int 30] (hx z w b) = some (none, hx z2 w2 b) := s1
        obtain ⟨f, rfl⟩ : ∃ f, g = f + 1 := ⟨g - 1, by omega⟩
        unfold aX11_most
        rw [eX11_most]
        simp only [q1, bI_t, ob_s, ob_n, ar_I, ar_L, ar_V, n32_10, if_false, hx_v0, hx_fr0_0, hx_fr0_1, hx_fr0_2, hx_fr0_3, hx_fr0_4, hx_fi0_5, hx_sv0_5, hx_v1, hx_fr1_0, hx_fi1_1, hx_sv1_1, hx_v3, hx_fr3_0, hx_fr3_1, hx_fi3_2, hx_sv3_2, hx_fi3_3, hx_sv3_3, hx_fi3_4, hx_sv3_4, hx_fi3_5, hx_sv3_5, hx_fi3_6, hx_sv3_6, hx_fr3_7, hx_v5, hx_fi5_0, hx_sv5_0, hx_fr5_1, hx_fr5_2, hx_fr5_3, hx_fr5_4, hx_v11, hx_fi11_0, hx_sv11_0, hx_fr11_1, hx_fr11_2, hx_fr11_3, hx_fr11_4, hx_fi11_5, hx_sv11_5, hx_fi11_6, hx_sv11_6, hx_fi11_7, hx_sv11_7, hx_fi11_8, hx_sv11_8, hx_v15, hx_fi15_0, hx_sv15_0, hx_fr15_1, hx_fr15_2, hx_fr15_3, hx_fr15_4, hx_v20, hx_fi20_0, hx_sv20_0, hx_fi20_1, hx_sv20_1, hx_fi20_2, hx_sv20_2, hx_fi20_3, hx_sv20_3, hx_fr20_4, hx_fr20_5, hx_fr20_6, hx_fr20_7, hx_fi20_8, hx_sv20_8, hx_fi20_9, hx_sv20_9, hx_fi20_10, hx_sv20_10, hx_fi20_11, hx_sv20_11, hx_v25, hx_fi25_0, hx_sv25_0, hx_fi25_1, hx_sv25_1, hx_fl, hx_sl, hx_fr25_3, hx_li2, hx_ai2, hx_si2, hx_li6, hx_ai6, hx_si6, hx_li7, hx_ai7, hx_si7, hx_li8, hx_ai8, hx_si8, hx_li9, hx_ai9, hx_si9, hx_li10, hx_ai10, hx_si10, hx_li12, hx_ai12, hx_si12, hx_li13, hx_ai13, hx_si13, hx_li14, hx_ai14, hx_si14, hx_li16, hx_ai16, hx_si16, hx_li17, hx_ai17, hx_si17, hx_li18, hx_ai18, hx_si18, hx_li19, hx_ai19, hx_si19, hx_li21, hx_ai21, hx_si21, hx_li22, hx_ai22, hx_si22, hx_li24, hx_ai24, hx_si24, hx_li26, hx_ai26, hx_si26, hx_li27, hx_ai27, hx_si27, hx_li28, hx_ai28, hx_si28, hx_li29, hx_ai29, hx_si29, hx_li30, hx_ai30, hx_si30, hx_li31, hx_ai31, hx_si31, hx_li32, hx_ai32, hx_si32, hx_li33, hx_ai33, hx_si33, hx_lr4, hx_lr23, hx_sf0, hx_sf1, hx_ss1, hx_sf2, hx_ss2, hx_sf3, hx_ss3, hx_lkli, hx_lksi, m1, bI_f, n32_00, if_true, s1, p2]
      · obtain ⟨f, rfl⟩ : ∃ f, g = f + 1 := ⟨g - 1, by omega⟩
        unfold aX12_most
        rw [eX12_most]
        simp only [q2, bI_t, ob_s, ob_n, ar_I, ar_L, ar_V, n32_10, if_false, hm_vI, hm_fr0, hm_li0, hm_ai0, hm_si0, hm_fi1, hm_sv1, hm_fi2, hm_sv2, hm_fi3, hm_sv3, hm_fi4, hm_sv4, hm_fi5, hm_sv5, hm_fi6, hm_sv6, hm_fi7, hm_sv7, hm_fr8, hm_li8, hm_ai8, hm_si8, hm_fr9, hm_li9, hm_ai9, hm_si9, hm_fr10, hm_li10, hm_ai10, hm_si10, hm_fr11, hm_li11, hm_ai11, hm_si11, hm_fr12, hm_li12, hm_ai12, hm_si12, hm_fr13, hm_li13, hm_ai13, hm_si13, hm_fr14, hm_li14, hm_ai14, hm_si14, hm_fi15, hm_sv15, hm_fr16, hm_li16, hm_ai16, hm_si16, hm_fr17, hm_li17, hm_ai17, hm_si17, hm_fi18, hm_sv18, hm_fi19, hm_sv19, hm_fi20, hm_sv20, hm_fi21, hm_sv21, hm_fi22, hm_sv22, hm_fi23, hm_sv23, hm_fi24, hm_sv24, hm_fr25, hm_li25, hm_ai25, hm_si25, hm_fr26, hm_li26, hm_ai26, hm_si26, hm_fr27, hm_li27, hm_ai27, hm_si27, hm_fr28, hm_li28, hm_ai28, hm_si28, hm_fl, hm_sl, m2, bI_f, n32_00, if_true, p1]
theorem gp_stable (hg : 6000 ≤ g) (q : Int32) : gm_Pair (aX11_stable g) (aX12_stable g) [.ref 0, .int q] := by
  intro K n ln sn z w b y v c hR
  have h4 : 4000 ≤ g := by omega
  have q1 := sX11_isRowQuestion h4 q (hx z w b)
  have q2 := sX12_isRowWhat h4 q (hm y v c)
  have m1 := sX0_isMissing z w b h4
  have m2 := sX12_lacks y v c h4
  cases hq : gx_qb q
  · rw [hq] at q1 q2
    refine gm_same hR (-102) ?_ ?_
    · obtain ⟨f, rfl⟩ : ∃ f, g = f + 1 := ⟨g - 1, by omega⟩
      unfold aX11_stable
      rw [eX11_stable]
      simp only [q1, bI_f, ob_s, ob_n, ar_I, ar_L, ar_V, n32_00, if_true]
    · obtain ⟨f, rfl⟩ : ∃ f, g = f + 1 := ⟨g - 1, by omega⟩
      unfold aX12_stable
      rw [eX12_stable]
      simp only [q2, bI_f, ob_s, ob_n, ar_I, ar_L, ar_V, n32_00, if_true]
  · rw [hq] at q1 q2
    by_cases h0 : n = 0
    · have e1 : z 2 = 0 := by rw [hR.zx, h0]; rfl
      have e2 : y 2 = 0 := by rw [hR.zm, h0]; rfl
      rw [decide_eq_true e1] at m1
      rw [decide_eq_true e2] at m2
      refine gm_same hR (-103) ?_ ?_
      · obtain ⟨f, rfl⟩ : ∃ f, g = f + 1 := ⟨g - 1, by omega⟩
        unfold aX11_stable
        rw [eX11_stable]
        simp only [q1, bI_t, ob_s, ob_n, ar_I, ar_L, ar_V, n32_10, if_false, hx_v0, hx_fr0_0, hx_fr0_1, hx_fr0_2, hx_fr0_3, hx_fr0_4, hx_fi0_5, hx_sv0_5, hx_v1, hx_fr1_0, hx_fi1_1, hx_sv1_1, hx_v3, hx_fr3_0, hx_fr3_1, hx_fi3_2, hx_sv3_2, hx_fi3_3, hx_sv3_3, hx_fi3_4, hx_sv3_4, hx_fi3_5, hx_sv3_5, hx_fi3_6, hx_sv3_6, hx_fr3_7, hx_v5, hx_fi5_0, hx_sv5_0, hx_fr5_1, hx_fr5_2, hx_fr5_3, hx_fr5_4, hx_v11, hx_fi11_0, hx_sv11_0, hx_fr11_1, hx_fr11_2, hx_fr11_3, hx_fr11_4, hx_fi11_5, hx_sv11_5, hx_fi11_6, hx_sv11_6, hx_fi11_7, hx_sv11_7, hx_fi11_8, hx_sv11_8, hx_v15, hx_fi15_0, hx_sv15_0, hx_fr15_1, hx_fr15_2, hx_fr15_3, hx_fr15_4, hx_v20, hx_fi20_0, hx_sv20_0, hx_fi20_1, hx_sv20_1, hx_fi20_2, hx_sv20_2, hx_fi20_3, hx_sv20_3, hx_fr20_4, hx_fr20_5, hx_fr20_6, hx_fr20_7, hx_fi20_8, hx_sv20_8, hx_fi20_9, hx_sv20_9, hx_fi20_10, hx_sv20_10, hx_fi20_11, hx_sv20_11, hx_v25, hx_fi25_0, hx_sv25_0, hx_fi25_1, hx_sv25_1, hx_fl, hx_sl, hx_fr25_3, hx_li2, hx_ai2, hx_si2, hx_li6, hx_ai6, hx_si6, hx_li7, hx_ai7, hx_si7, hx_li8, hx_ai8, hx_si8, hx_li9, hx_ai9, hx_si9, hx_li10, hx_ai10, hx_si10, hx_li12, hx_ai12, hx_si12, hx_li13, hx_ai13, hx_si13, hx_li14, hx_ai14, hx_si14, hx_li16, hx_ai16, hx_si16, hx_li17, hx_ai17, hx_si17, hx_li18, hx_ai18, hx_si18, hx_li19, hx_ai19, hx_si19, hx_li21, hx_ai21, hx_si21, hx_li22, hx_ai22, hx_si22, hx_li24, hx_ai24, hx_si24, hx_li26, hx_ai26, hx_si26, hx_li27, hx_ai27, hx_si27, hx_li28, hx_ai28, hx_si28, hx_li29, hx_ai29, hx_si29, hx_li30, hx_ai30, hx_si30, hx_li31, hx_ai31, hx_si31, hx_li32, hx_ai32, hx_si32, hx_li33, hx_ai33, hx_si33, hx_lr4, hx_lr23, hx_sf0, hx_sf1, hx_ss1, hx_sf2, hx_ss2, hx_sf3, hx_ss3, hx_lkli, hx_lksi, m1]
      · obtain ⟨f, rfl⟩ : ∃ f, g = f + 1 := ⟨g - 1, by omega⟩
        unfold aX12_stable
        rw [eX12_stable]
        simp only [q2, bI_t, ob_s, ob_n, ar_I, ar_L, ar_V, n32_10, if_false, hm_vI, hm_fr0, hm_li0, hm_ai0, hm_si0, hm_fi1, hm_sv1, hm_fi2, hm_sv2, hm_fi3, hm_sv3, hm_fi4, hm_sv4, hm_fi5, hm_sv5, hm_fi6, hm_sv6, hm_fi7, hm_sv7, hm_fr8, hm_li8, hm_ai8, hm_si8, hm_fr9, hm_li9, hm_ai9, hm_si9, hm_fr10, hm_li10, hm_ai10, hm_si10, hm_fr11, hm_li11, hm_ai11, hm_si11, hm_fr12, hm_li12, hm_ai12, hm_si12, hm_fr13, hm_li13, hm_ai13, hm_si13, hm_fr14, hm_li14, hm_ai14, hm_si14, hm_fi15, hm_sv15, hm_fr16, hm_li16, hm_ai16, hm_si16, hm_fr17, hm_li17, hm_ai17, hm_si17, hm_fi18, hm_sv18, hm_fi19, hm_sv19, hm_fi20, hm_sv20, hm_fi21, hm_sv21, hm_fi22, hm_sv22, hm_fi23, hm_sv23, hm_fi24, hm_sv24, hm_fr25, hm_li25, hm_ai25, hm_si25, hm_fr26, hm_li26, hm_ai26, hm_si26, hm_fr27, hm_li27, hm_ai27, hm_si27, hm_fr28, hm_li28, hm_ai28, hm_si28, hm_fl, hm_sl, m2]
    · have h7 := hR.n7
      have e1 : ¬ z 2 = 0 := by rw [hR.zx]; exact nI_ne0 (by omega) (by omega)
      have e2 : ¬ y 2 = 0 := by rw [hR.zm]; exact nI_ne0 (by omega) (by omega)
      rw [decide_eq_false e1] at m1
      rw [decide_eq_false e2] at m2
      obtain ⟨z2, w2, T, s1, s2, s3, s4, s5, s6, s7, s8⟩ := gq_seek h4 b hR 2 (A := 30) (by omega)
      obtain ⟨r2, t2, p1⟩ := sX12_stableOf hg c hR.n7 hR.zm (rd_D hR) (rd_lv_s v) (gx_qb_q hq) s2
      have p2 := sX11_stableTold h4 z2 w2 b (gx_qb_q hq)
      rw [s4, s5, s8] at p2
      refine ⟨gx_an q (gx_X 2 n 30 (rd_ok v) (rd_lv v) (rd_dv v) T).1.1 (gx_X 2 n 30 (rd_ok v) (rd_lv v) (rd_dv v) T).1.2.2.1 (gx_X 2 n 30 (rd_ok v) (rd_lv v) (rd_dv v) T).2, n, ln, sn, z2, w2, b, y, mx_w v r2 t2, c, ?_, ?_, gm_R_mw s3 r2 t2⟩
      · have s1 : aX6_seek g [.ref 20, .ref 3, .int 2, .int 30] (hx z w b) = some (none, hx z2 w2 b) := s1
        obtain ⟨f, rfl⟩ : ∃ f, g = f + 1 := ⟨g - 1, by omega⟩
        unfold aX11_stable
        rw [eX11_stable]
        simp only [q1, bI_t, ob_s, ob_n, ar_I, ar_L, ar_V, n32_10, if_false, hx_v0, hx_fr0_0, hx_fr0_1, hx_fr0_2, hx_fr0_3, hx_fr0_4, hx_fi0_5, hx_sv0_5, hx_v1, hx_fr1_0, hx_fi1_1, hx_sv1_1, hx_v3, hx_fr3_0, hx_fr3_1, hx_fi3_2, hx_sv3_2, hx_fi3_3, hx_sv3_3, hx_fi3_4, hx_sv3_4, hx_fi3_5, hx_sv3_5, hx_fi3_6, hx_sv3_6, hx_fr3_7, hx_v5, hx_fi5_0, hx_sv5_0, hx_fr5_1, hx_fr5_2, hx_fr5_3, hx_fr5_4, hx_v11, hx_fi11_0, hx_sv11_0, hx_fr11_1, hx_fr11_2, hx_fr11_3, hx_fr11_4, hx_fi11_5, hx_sv11_5, hx_fi11_6, hx_sv11_6, hx_fi11_7, hx_sv11_7, hx_fi11_8, hx_sv11_8, hx_v15, hx_fi15_0, hx_sv15_0, hx_fr15_1, hx_fr15_2, hx_fr15_3, hx_fr15_4, hx_v20, hx_fi20_0, hx_sv20_0, hx_fi20_1, hx_sv20_1, hx_fi20_2, hx_sv20_2, hx_fi20_3, hx_sv20_3, hx_fr20_4, hx_fr20_5, hx_fr20_6, hx_fr20_7, hx_fi20_8, hx_sv20_8, hx_fi20_9, hx_sv20_9, hx_fi20_10, hx_sv20_10, hx_fi20_11, hx_sv20_11, hx_v25, hx_fi25_0, hx_sv25_0, hx_fi25_1, hx_sv25_1, hx_fl, hx_sl, hx_fr25_3, hx_li2, hx_ai2, hx_si2, hx_li6, hx_ai6, hx_si6, hx_li7, hx_ai7, hx_si7, hx_li8, hx_ai8, hx_si8, hx_li9, hx_ai9, hx_si9, hx_li10, hx_ai10, hx_si10, hx_li12, hx_ai12, hx_si12, hx_li13, hx_ai13, hx_si13, hx_li14, hx_ai14, hx_si14, hx_li16, hx_ai16, hx_si16, hx_li17, hx_ai17, hx_si17, hx_li18, hx_ai18, hx_si18, hx_li19, hx_ai19, hx_si19, hx_li21, hx_ai21, hx_si21, hx_li22, hx_ai22, hx_si22, hx_li24, hx_ai24, hx_si24, hx_li26, hx_ai26, hx_si26, hx_li27, hx_ai27, hx_si27, hx_li28, hx_ai28, hx_si28, hx_li29, hx_ai29, hx_si29, hx_li30, hx_ai30, hx_si30, hx_li31, hx_ai31, hx_si31, hx_li32, hx_ai32, hx_si32, hx_li33, hx_ai33, hx_si33, hx_lr4, hx_lr23, hx_sf0, hx_sf1, hx_ss1, hx_sf2, hx_ss2, hx_sf3, hx_ss3, hx_lkli, hx_lksi, m1, bI_f, n32_00, if_true, s1, p2]
      · obtain ⟨f, rfl⟩ : ∃ f, g = f + 1 := ⟨g - 1, by omega⟩
        unfold aX12_stable
        rw [eX12_stable]
        simp only [q2, bI_t, ob_s, ob_n, ar_I, ar_L, ar_V, n32_10, if_false, hm_vI, hm_fr0, hm_li0, hm_ai0, hm_si0, hm_fi1, hm_sv1, hm_fi2, hm_sv2, hm_fi3, hm_sv3, hm_fi4, hm_sv4, hm_fi5, hm_sv5, hm_fi6, hm_sv6, hm_fi7, hm_sv7, hm_fr8, hm_li8, hm_ai8, hm_si8, hm_fr9, hm_li9, hm_ai9, hm_si9, hm_fr10, hm_li10, hm_ai10, hm_si10, hm_fr11, hm_li11, hm_ai11, hm_si11, hm_fr12, hm_li12, hm_ai12, hm_si12, hm_fr13, hm_li13, hm_ai13, hm_si13, hm_fr14, hm_li14, hm_ai14, hm_si14, hm_fi15, hm_sv15, hm_fr16, hm_li16, hm_ai16, hm_si16, hm_fr17, hm_li17, hm_ai17, hm_si17, hm_fi18, hm_sv18, hm_fi19, hm_sv19, hm_fi20, hm_sv20, hm_fi21, hm_sv21, hm_fi22, hm_sv22, hm_fi23, hm_sv23, hm_fi24, hm_sv24, hm_fr25, hm_li25, hm_ai25, hm_si25, hm_fr26, hm_li26, hm_ai26, hm_si26, hm_fr27, hm_li27, hm_ai27, hm_si27, hm_fr28, hm_li28, hm_ai28, hm_si28, hm_fl, hm_sl, m2, bI_f, n32_00, if_true, p1]
theorem gp_best (hg : 6000 ≤ g) (a q : Int32) : gm_Pair (aX11_best g) (aX12_best g) [.ref 0, .int a, .int q] := by
  intro K n ln sn z w b y v c hR
  have h4 : 4000 ≤ g := by omega
  have q1 := sX11_isRowQuestion h4 q (hx z w b)
  have q2 := sX12_isRowWhat h4 q (hm y v c)
  have m1 := sX0_isMissing z w b h4
  have m2 := sX12_lacks y v c h4
  have q3 := sX12_in h4 a.toInt64 0 30 (hm y v c)
  simp only [show (0 : Int64) = (0 : Int32).toInt64 from rfl, show (30 : Int64) = (30 : Int32).toInt64 from rfl, i64_lt, show (0 : Int32).toInt = 0 from rfl, show (30 : Int32).toInt = 30 from rfl] at q3
  by_cases ha : a.toInt < 0 ∨ 30 < a.toInt
  · rw [if_pos ha] at q3
    refine gm_same hR (-102) ?_ ?_
    · obtain ⟨f, rfl⟩ : ∃ f, g = f + 1 := ⟨g - 1, by omega⟩
      unfold aX11_best
      rw [eX11_best]
      simp only [i32_lt, show (0 : Int32).toInt = 0 from rfl, show (30 : Int32).toInt = 30 from rfl]
      by_cases c1 : a.toInt < 0
      · rw [if_pos c1]
      · rw [if_neg c1, if_pos (by omega)]
    · obtain ⟨f, rfl⟩ : ∃ f, g = f + 1 := ⟨g - 1, by omega⟩
      unfold aX12_best
      rw [eX12_best]
      rw [show (0 : Int64) = (0 : Int32).toInt64 from rfl, show (30 : Int64) = (30 : Int32).toInt64 from rfl, q3]
      simp only [ob_s, ob_n, ar_I, ar_L, ar_V, n32_00, if_true]
  · rw [if_neg ha] at q3
    have a1 : ¬ a < 0 := by rw [i32_lt, show (0 : Int32).toInt = 0 from rfl]; omega
    have a2 : ¬ (30 : Int32) < a := by rw [i32_lt, show (30 : Int32).toInt = 30 from rfl]; omega
    cases hq : gx_qb q
    · rw [hq] at q1 q2
      refine gm_same hR (-102) ?_ ?_
      · obtain ⟨f, rfl⟩ : ∃ f, g = f + 1 := ⟨g - 1, by omega⟩
        unfold aX11_best
        rw [eX11_best]
        rw [if_neg a1, if_neg a2]
        simp only [q1, bI_f, ob_s, ob_n, ar_I, ar_L, ar_V, n32_00, if_true]
      · obtain ⟨f, rfl⟩ : ∃ f, g = f + 1 := ⟨g - 1, by omega⟩
        unfold aX12_best
        rw [eX12_best]
        rw [show (0 : Int64) = (0 : Int32).toInt64 from rfl, show (30 : Int64) = (30 : Int32).toInt64 from rfl, q3]
        simp only [q2, bI_f, ob_s, ob_n, ar_I, ar_L, ar_V, n32_00, n32_10, if_false, if_true]
    · rw [hq] at q1 q2
      by_cases h0 : n = 0
      · have e1 : z 2 = 0 := by rw [hR.zx, h0]; rfl
        have e2 : y 2 = 0 := by rw [hR.zm, h0]; rfl
        rw [decide_eq_true e1] at m1
        rw [decide_eq_true e2] at m2
        refine gm_same hR (-103) ?_ ?_
        · obtain ⟨f, rfl⟩ : ∃ f, g = f + 1 := ⟨g - 1, by omega⟩
          unfold aX11_best
          rw [eX11_best]
          rw [if_neg a1, if_neg a2]
          simp only [q1, bI_t, ob_s, ob_n, ar_I, ar_L, ar_V, n32_10, if_false, hx_v0, hx_fr0_0, hx_fr0_1, hx_fr0_2, hx_fr0_3, hx_fr0_4, hx_fi0_5, hx_sv0_5, hx_v1, hx_fr1_0, hx_fi1_1, hx_sv1_1, hx_v3, hx_fr3_0, hx_fr3_1, hx_fi3_2, hx_sv3_2, hx_fi3_3, hx_sv3_3, hx_fi3_4, hx_sv3_4, hx_fi3_5, hx_sv3_5, hx_fi3_6, hx_sv3_6, hx_fr3_7, hx_v5, hx_fi5_0, hx_sv5_0, hx_fr5_1, hx_fr5_2, hx_fr5_3, hx_fr5_4, hx_v11, hx_fi11_0, hx_sv11_0, hx_fr11_1, hx_fr11_2, hx_fr11_3, hx_fr11_4, hx_fi11_5, hx_sv11_5, hx_fi11_6, hx_sv11_6, hx_fi11_7, hx_sv11_7, hx_fi11_8, hx_sv11_8, hx_v15, hx_fi15_0, hx_sv15_0, hx_fr15_1, hx_fr15_2, hx_fr15_3, hx_fr15_4, hx_v20, hx_fi20_0, hx_sv20_0, hx_fi20_1, hx_sv20_1, hx_fi20_2, hx_sv20_2, hx_fi20_3, hx_sv20_3, hx_fr20_4, hx_fr20_5, hx_fr20_6, hx_fr20_7, hx_fi20_8, hx_sv20_8, hx_fi20_9, hx_sv20_9, hx_fi20_10, hx_sv20_10, hx_fi20_11, hx_sv20_11, hx_v25, hx_fi25_0, hx_sv25_0, hx_fi25_1, hx_sv25_1, hx_fl, hx_sl, hx_fr25_3, hx_li2, hx_ai2, hx_si2, hx_li6, hx_ai6, hx_si6, hx_li7, hx_ai7, hx_si7, hx_li8, hx_ai8, hx_si8, hx_li9, hx_ai9, hx_si9, hx_li10, hx_ai10, hx_si10, hx_li12, hx_ai12, hx_si12, hx_li13, hx_ai13, hx_si13, hx_li14, hx_ai14, hx_si14, hx_li16, hx_ai16, hx_si16, hx_li17, hx_ai17, hx_si17, hx_li18, hx_ai18, hx_si18, hx_li19, hx_ai19, hx_si19, hx_li21, hx_ai21, hx_si21, hx_li22, hx_ai22, hx_si22, hx_li24, hx_ai24, hx_si24, hx_li26, hx_ai26, hx_si26, hx_li27, hx_ai27, hx_si27, hx_li28, hx_ai28, hx_si28, hx_li29, hx_ai29, hx_si29, hx_li30, hx_ai30, hx_si30, hx_li31, hx_ai31, hx_si31, hx_li32, hx_ai32, hx_si32, hx_li33, hx_ai33, hx_si33, hx_lr4, hx_lr23, hx_sf0, hx_sf1, hx_ss1, hx_sf2, hx_ss2, hx_sf3, hx_ss3, hx_lkli, hx_lksi, m1]
        · obtain ⟨f, rfl⟩ : ∃ f, g = f + 1 := ⟨g - 1, by omega⟩
          unfold aX12_best
          rw [eX12_best]
          rw [show (0 : Int64) = (0 : Int32).toInt64 from rfl, show (30 : Int64) = (30 : Int32).toInt64 from rfl, q3]
          simp only [q2, bI_t, ob_s, ob_n, ar_I, ar_L, ar_V, n32_10, if_false, hm_vI, hm_fr0, hm_li0, hm_ai0, hm_si0, hm_fi1, hm_sv1, hm_fi2, hm_sv2, hm_fi3, hm_sv3, hm_fi4, hm_sv4, hm_fi5, hm_sv5, hm_fi6, hm_sv6, hm_fi7, hm_sv7, hm_fr8, hm_li8, hm_ai8, hm_si8, hm_fr9, hm_li9, hm_ai9, hm_si9, hm_fr10, hm_li10, hm_ai10, hm_si10, hm_fr11, hm_li11, hm_ai11, hm_si11, hm_fr12, hm_li12, hm_ai12, hm_si12, hm_fr13, hm_li13, hm_ai13, hm_si13, hm_fr14, hm_li14, hm_ai14, hm_si14, hm_fi15, hm_sv15, hm_fr16, hm_li16, hm_ai16, hm_si16, hm_fr17, hm_li17, hm_ai17, hm_si17, hm_fi18, hm_sv18, hm_fi19, hm_sv19, hm_fi20, hm_sv20, hm_fi21, hm_sv21, hm_fi22, hm_sv22, hm_fi23, hm_sv23, hm_fi24, hm_sv24, hm_fr25, hm_li25, hm_ai25, hm_si25, hm_fr26, hm_li26, hm_ai26, hm_si26, hm_fr27, hm_li27, hm_ai27, hm_si27, hm_fr28, hm_li28, hm_ai28, hm_si28, hm_fl, hm_sl, m2]
      · have h7 := hR.n7
        have e1 : ¬ z 2 = 0 := by rw [hR.zx]; exact nI_ne0 (by omega) (by omega)
        have e2 : ¬ y 2 = 0 := by rw [hR.zm]; exact nI_ne0 (by omega) (by omega)
        rw [decide_eq_false e1] at m1
        rw [decide_eq_false e2] at m2
        obtain ⟨A, hA, rfl⟩ : ∃ A : Nat, A ≤ 30 ∧ a = nI A := ⟨a.toInt.toNat, by omega, i32_nI (by omega)⟩
        obtain ⟨z2, w2, T, s1, s2, s3, s4, s5, s6, s7, s8⟩ := gq_seek h4 b hR 1 (A := A) (by omega)
        obtain ⟨r2, t2, p1⟩ := sX12_bestOf hg c hA hR.n7 hR.zm (rd_D hR) (gx_qb_q hq) s2
        have p2 := sX11_bestTold h4 z2 w2 b (gx_qb_q hq)
        rw [s6, s7, s8] at p2
        refine ⟨gx_an q (gx_X 1 n A (rd_ok v) (rd_lv v) (rd_dv v) T).1.2.2.2.1 (gx_X 1 n A (rd_ok v) (rd_lv v) (rd_dv v) T).1.2.2.2.2 (gx_X 1 n A (rd_ok v) (rd_lv v) (rd_dv v) T).2, n, ln, sn, z2, w2, b, y, mx_w v r2 t2, c, ?_, ?_, gm_R_mw s3 r2 t2⟩
        · obtain ⟨f, rfl⟩ : ∃ f, g = f + 1 := ⟨g - 1, by omega⟩
          unfold aX11_best
          rw [eX11_best]
          rw [if_neg a1, if_neg a2]
          simp only [q1, bI_t, ob_s, ob_n, ar_I, ar_L, ar_V, n32_10, if_false, hx_v0, hx_fr0_0, hx_fr0_1, hx_fr0_2, hx_fr0_3, hx_fr0_4, hx_fi0_5, hx_sv0_5, hx_v1, hx_fr1_0, hx_fi1_1, hx_sv1_1, hx_v3, hx_fr3_0, hx_fr3_1, hx_fi3_2, hx_sv3_2, hx_fi3_3, hx_sv3_3, hx_fi3_4, hx_sv3_4, hx_fi3_5, hx_sv3_5, hx_fi3_6, hx_sv3_6, hx_fr3_7, hx_v5, hx_fi5_0, hx_sv5_0, hx_fr5_1, hx_fr5_2, hx_fr5_3, hx_fr5_4, hx_v11, hx_fi11_0, hx_sv11_0, hx_fr11_1, hx_fr11_2, hx_fr11_3, hx_fr11_4, hx_fi11_5, hx_sv11_5, hx_fi11_6, hx_sv11_6, hx_fi11_7, hx_sv11_7, hx_fi11_8, hx_sv11_8, hx_v15, hx_fi15_0, hx_sv15_0, hx_fr15_1, hx_fr15_2, hx_fr15_3, hx_fr15_4, hx_v20, hx_fi20_0, hx_sv20_0, hx_fi20_1, hx_sv20_1, hx_fi20_2, hx_sv20_2, hx_fi20_3, hx_sv20_3, hx_fr20_4, hx_fr20_5, hx_fr20_6, hx_fr20_7, hx_fi20_8, hx_sv20_8, hx_fi20_9, hx_sv20_9, hx_fi20_10, hx_sv20_10, hx_fi20_11, hx_sv20_11, hx_v25, hx_fi25_0, hx_sv25_0, hx_fi25_1, hx_sv25_1, hx_fl, hx_sl, hx_fr25_3, hx_li2, hx_ai2, hx_si2, hx_li6, hx_ai6, hx_si6, hx_li7, hx_ai7, hx_si7, hx_li8, hx_ai8, hx_si8, hx_li9, hx_ai9, hx_si9, hx_li10, hx_ai10, hx_si10, hx_li12, hx_ai12, hx_si12, hx_li13, hx_ai13, hx_si13, hx_li14, hx_ai14, hx_si14, hx_li16, hx_ai16, hx_si16, hx_li17, hx_ai17, hx_si17, hx_li18, hx_ai18, hx_si18, hx_li19, hx_ai19, hx_si19, hx_li21, hx_ai21, hx_si21, hx_li22, hx_ai22, hx_si22, hx_li24, hx_ai24, hx_si24, hx_li26, hx_ai26, hx_si26, hx_li27, hx_ai27, hx_si27, hx_li28, hx_ai28, hx_si28, hx_li29, hx_ai29, hx_si29, hx_li30, hx_ai30, hx_si30, hx_li31, hx_ai31, hx_si31, hx_li32, hx_ai32, hx_si32, hx_li33, hx_ai33, hx_si33, hx_lr4, hx_lr23, hx_sf0, hx_sf1, hx_ss1, hx_sf2, hx_ss2, hx_sf3, hx_ss3, hx_lkli, hx_lksi, m1, bI_f, n32_00, if_true, s1, p2]
        · obtain ⟨f, rfl⟩ : ∃ f, g = f + 1 := ⟨g - 1, by omega⟩
          unfold aX12_best
          rw [eX12_best]
          rw [show (0 : Int64) = (0 : Int32).toInt64 from rfl, show (30 : Int64) = (30 : Int32).toInt64 from rfl, q3]
          simp only [q2, bI_t, ob_s, ob_n, ar_I, ar_L, ar_V, n32_10, if_false, hm_vI, hm_fr0, hm_li0, hm_ai0, hm_si0, hm_fi1, hm_sv1, hm_fi2, hm_sv2, hm_fi3, hm_sv3, hm_fi4, hm_sv4, hm_fi5, hm_sv5, hm_fi6, hm_sv6, hm_fi7, hm_sv7, hm_fr8, hm_li8, hm_ai8, hm_si8, hm_fr9, hm_li9, hm_ai9, hm_si9, hm_fr10, hm_li10, hm_ai10, hm_si10, hm_fr11, hm_li11, hm_ai11, hm_si11, hm_fr12, hm_li12, hm_ai12, hm_si12, hm_fr13, hm_li13, hm_ai13, hm_si13, hm_fr14, hm_li14, hm_ai14, hm_si14, hm_fi15, hm_sv15, hm_fr16, hm_li16, hm_ai16, hm_si16, hm_fr17, hm_li17, hm_ai17, hm_si17, hm_fi18, hm_sv18, hm_fi19, hm_sv19, hm_fi20, hm_sv20, hm_fi21, hm_sv21, hm_fi22, hm_sv22, hm_fi23, hm_sv23, hm_fi24, hm_sv24, hm_fr25, hm_li25, hm_ai25, hm_si25, hm_fr26, hm_li26, hm_ai26, hm_si26, hm_fr27, hm_li27, hm_ai27, hm_si27, hm_fr28, hm_li28, hm_ai28, hm_si28, hm_fl, hm_sl, m2, bI_f, n32_00, if_true, p1]
end RWQ
