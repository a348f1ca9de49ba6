/-! digest: both say alike -/
theorem gx_q0 : gx_q 0 := Or.inl rfl
theorem gx_q1 : gx_q 1 := Or.inr (Or.inl rfl)
theorem gx_qi {i : Nat} (h : i < 7) : gx_q (nI (10 + i)) := Or.inr (Or.inr ⟨i, h, rfl⟩)
theorem nI_10 (i : Nat) : (10 : Int32) + nI i = nI (10 + i) := by
  rw [show (10 : Int32) = nI 10 from rfl, nI_add]
section DG1
variable {g : Nat}
theorem sX11_with (hg : 4000 ≤ g) (a b : Int64) (h : ah_H) : aX11_with g [.long a, .long b] h = some (some (.long (31 * a + b)), h) := by
  obtain ⟨f, rfl⟩ : ∃ f, g = f + 1 := ⟨g - 1, by omega⟩
  unfold aX11_with
  rw [eX11_with]
theorem sX12_say (hg : 4000 ≤ g) (y : Nat → Int32) (v : Nat → Nat → Int32) (c p : Int64) : aX12_say g [.ref 0, .long p] (hm y v c) = some (none, hm y v (31 * c + p)) := by
  obtain ⟨f, rfl⟩ : ∃ f, g = f + 1 := ⟨g - 1, by omega⟩
  unfold aX12_say
  rw [eX12_say]
  simp only [ob_s, ob_n, ar_I, ar_L, ar_V, hm_vI, hm_fr0, hm_li0, hm_ai0, hm_si0, hm_fi1, hm_sv1, hm_fi2, hm_sv2, hm_fi3, hm_sv3, hm_fi4, hm_sv4, hm_fi5, hm_sv5, hm_fi6, hm_sv6, hm_fi7, hm_sv7, hm_fr8, hm_li8, hm_ai8, hm_si8, hm_fr9, hm_li9, hm_ai9, hm_si9, hm_fr10, hm_li10, hm_ai10, hm_si10, hm_fr11, hm_li11, hm_ai11, hm_si11, hm_fr12, hm_li12, hm_ai12, hm_si12, hm_fr13, hm_li13, hm_ai13, hm_si13, hm_fr14, hm_li14, hm_ai14, hm_si14, hm_fi15, hm_sv15, hm_fr16, hm_li16, hm_ai16, hm_si16, hm_fr17, hm_li17, hm_ai17, hm_si17, hm_fi18, hm_sv18, hm_fi19, hm_sv19, hm_fi20, hm_sv20, hm_fi21, hm_sv21, hm_fi22, hm_sv22, hm_fi23, hm_sv23, hm_fi24, hm_sv24, hm_fr25, hm_li25, hm_ai25, hm_si25, hm_fr26, hm_li26, hm_ai26, hm_si26, hm_fr27, hm_li27, hm_ai27, hm_si27, hm_fr28, hm_li28, hm_ai28, hm_si28, hm_fl, hm_sl]
/-- the rows of most, told one after the other -/
theorem gd_most (hg : 6000 ≤ g) {K n ln sn : Nat} {z : Nat → Int32} {w : Nat → Nat → Int32} {y : Nat → Int32} (b : Int64) {T : Nat → Int32} (hT : ∀ i, i < 7 → T i = -1) : ∀ (k i f f2 : Nat) (v : Nat → Nat → Int32) (h : Int64), i + k = 7 → gm_R K n ln sn z w y v → z 15 = (gx_X 0 n 30 (rd_ok v) (rd_lv v) (rd_dv v) T).1.2.2.1 → z 16 = (gx_X 0 n 30 (rd_ok v) (rd_lv v) (rd_dv v) T).1.2.2.2.1 → w 13 = (gx_X 0 n 30 (rd_ok v) (rd_lv v) (rd_dv v) T).2 → ∃ (v2 : Nat → Nat → Int32) (h2 : Int64), gm_R K n ln sn z w y v2 ∧ ah_run (kX11_withRows g) (f + k) 37 [(0, .ref 0), (3, .long h), (5, .int (nI i))] [] (hx z w b) = ah_run (kX11_withRows g) f 37 [(0, .ref 0), (3, .long h2), (5, .int (nI 7))] [] (hx z w b) ∧ ah_run (kX12_sayDrawer g) (f2 + k) 23 [(0, .ref 0), (1, .int (nI (10 + i)))] [] (hm y v h) = ah_run (kX12_sayDrawer g) f2 23 [(0, .ref 0), (1, .int (nI 17))] [] (hm y v2 h2) := by
  intro k
  induction k with
  | zero =>
    intro i f f2 v h hi hR _ _ _
    have e : i = 7 := by omega
    subst e
    exact ⟨v, h, hR, rfl, rfl⟩
  | succ k ih =>
    intro i f f2 v h hi hR h1 h2 h3
    have h4 : 4000 ≤ g := by omega
    have i7 : i < 7 := by omega
    have p2 := sX11_mostTold h4 z w b (gx_qi i7)
    rw [h1, h2, h3] at p2
    obtain ⟨r2, t2, p1⟩ := sX12_mostOf hg h hR.n7 hR.zm (rd_D hR) (gx_qi i7) hT
    obtain ⟨v3, h5, q1, q2, q3⟩ := ih (i + 1) f f2 (mx_w v r2 t2) (31 * h + (gx_an (nI (10 + i)) (gx_X 0 n 30 (rd_ok v) (rd_lv v) (rd_dv v) T).1.2.2.1 (gx_X 0 n 30 (rd_ok v) (rd_lv v) (rd_dv v) T).1.2.2.2.1 (gx_X 0 n 30 (rd_ok v) (rd_lv v) (rd_dv v) T).2).toInt64) (by omega) (gm_R_mw hR r2 t2) h1 h2 h3
    refine ⟨v3, h5, q1, ?_, ?_⟩
    · rw [← q2, show f + (k + 1) = (f + k) + 1 from rfl]
      simp only [rX11_withRows_37, nI_lt7 (show i < 1000 by omega), i7, if_true, ob_s, ob_n, ar_I, ar_L, ar_V, hx_v0, hx_fr0_0, hx_fr0_1, hx_fr0_2, hx_fr0_3, hx_fr0_4, hx_fi0_5, hx_sv0_5, hx_v1, hx_fr1_0, hx_fi1_1, hx_sv1_1, hx_v3, hx_fr3_0, hx_fr3_1, hx_fi3_2, hx_sv3_2, hx_fi3_3, hx_sv3_3, hx_fi3_4, hx_sv3_4, hx_fi3_5, hx_sv3_5, hx_fi3_6, hx_sv3_6, hx_fr3_7, hx_v5, hx_fi5_0, hx_sv5_0, hx_fr5_1, hx_fr5_2, hx_fr5_3, hx_fr5_4, hx_v11, hx_fi11_0, hx_sv11_0, hx_fr11_1, hx_fr11_2, hx_fr11_3, hx_fr11_4, hx_fi11_5, hx_sv11_5, hx_fi11_6, hx_sv11_6, hx_fi11_7, hx_sv11_7, hx_fi11_8, hx_sv11_8, hx_v15, hx_fi15_0, hx_sv15_0, hx_fr15_1, hx_fr15_2, hx_fr15_3, hx_fr15_4, hx_v20, hx_fi20_0, hx_sv20_0, hx_fi20_1, hx_sv20_1, hx_fi20_2, hx_sv20_2, hx_fi20_3, hx_sv20_3, hx_fr20_4, hx_fr20_5, hx_fr20_6, hx_fr20_7, hx_fi20_8, hx_sv20_8, hx_fi20_9, hx_sv20_9, hx_fi20_10, hx_sv20_10, hx_fi20_11, hx_sv20_11, hx_v25, hx_fi25_0, hx_sv25_0, hx_fi25_1, hx_sv25_1, hx_fl, hx_sl, hx_fr25_3, hx_li2, hx_ai2, hx_si2, hx_li6, hx_ai6, hx_si6, hx_li7, hx_ai7, hx_si7, hx_li8, hx_ai8, hx_si8, hx_li9, hx_ai9, hx_si9, hx_li10, hx_ai10, hx_si10, hx_li12, hx_ai12, hx_si12, hx_li13, hx_ai13, hx_si13, hx_li14, hx_ai14, hx_si14, hx_li16, hx_ai16, hx_si16, hx_li17, hx_ai17, hx_si17, hx_li18, hx_ai18, hx_si18, hx_li19, hx_ai19, hx_si19, hx_li21, hx_ai21, hx_si21, hx_li22, hx_ai22, hx_si22, hx_li24, hx_ai24, hx_si24, hx_li26, hx_ai26, hx_si26, hx_li27, hx_ai27, hx_si27, hx_li28, hx_ai28, hx_si28, hx_li29, hx_ai29, hx_si29, hx_li30, hx_ai30, hx_si30, hx_li31, hx_ai31, hx_si31, hx_li32, hx_ai32, hx_si32, hx_li33, hx_ai33, hx_si33, hx_lr4, hx_lr23, hx_sf0, hx_sf1, hx_ss1, hx_sf2, hx_ss2, hx_sf3, hx_ss3, hx_lkli, hx_lksi, nI_10, p2, sX11_with h4, nI_1]
    · rw [← q3, show f2 + (k + 1) = (f2 + k) + 1 from rfl]
      have e17 : (nI (10 + i) < 17) = True := by
        rw [show (17 : Int32) = nI 17 from rfl, nI_lti (by omega) (by omega)]
        exact eq_true (by omega)
      simp only [rX12_sayDrawer_23, e17, if_true, ob_s, ob_n, ar_I, ar_L, ar_V, hm_vI, hm_fr0, hm_li0, hm_ai0, hm_si0, hm_fi1, hm_sv1, hm_fi2, hm_sv2, hm_fi3, hm_sv3, hm_fi4, hm_sv4, hm_fi5, hm_sv5, hm_fi6, hm_sv6, hm_fi7, hm_sv7, hm_fr8, hm_li8, hm_ai8, hm_si8, hm_fr9, hm_li9, hm_ai9, hm_si9, hm_fr10, hm_li10, hm_ai10, hm_si10, hm_fr11, hm_li11, hm_ai11, hm_si11, hm_fr12, hm_li12, hm_ai12, hm_si12, hm_fr13, hm_li13, hm_ai13, hm_si13, hm_fr14, hm_li14, hm_ai14, hm_si14, hm_fi15, hm_sv15, hm_fr16, hm_li16, hm_ai16, hm_si16, hm_fr17, hm_li17, hm_ai17, hm_si17, hm_fi18, hm_sv18, hm_fi19, hm_sv19, hm_fi20, hm_sv20, hm_fi21, hm_sv21, hm_fi22, hm_sv22, hm_fi23, hm_sv23, hm_fi24, hm_sv24, hm_fr25, hm_li25, hm_ai25, hm_si25, hm_fr26, hm_li26, hm_ai26, hm_si26, hm_fr27, hm_li27, hm_ai27, hm_si27, hm_fr28, hm_li28, hm_ai28, hm_si28, hm_fl, hm_sl, p1, sX12_say h4, nI_1]
      rfl
theorem n32_77 : (nI 7 < (7 : Int32)) = False := eq_false (by decide)
theorem n32_17 : (nI 17 < (17 : Int32)) = False := eq_false (by decide)
/-- withRows, and sayDrawer up to the rounds -/
theorem gd_rows (hg : 6000 ≤ g) {K n ln sn : Nat} {z : Nat → Int32} {w : Nat → Nat → Int32} {y : Nat → Int32} {v : Nat → Nat → Int32} (b h : Int64) (hR : gm_R K n ln sn z w y v) : ∃ (z2 : Nat → Int32) (w2 : Nat → Nat → Int32) (v2 : Nat → Nat → Int32) (h2 : Int64) (f2 : Nat), 4000 ≤ f2 ∧ gm_R K n ln sn z2 w2 y v2 ∧ aX11_withRows g [.ref 0, .long h] (hx z w b) = some (some (.long h2), hx z2 w2 b) ∧ aX12_sayDrawer g [.ref 0] (hm y v h) = ah_run (kX12_sayDrawer g) f2 89 [(0, .ref 0), (1, .int 0)] [] (hm y v2 h2) := by
  have h4 : 4000 ≤ g := by omega
  obtain ⟨z1, w1, T, s1, s2, s3, s4, s5, s6, s7, s8⟩ := gq_seek h4 b hR 0 (A := 30) (by omega)
  have a1 := sX11_mostTold h4 z1 w1 b gx_q0
  have a2 := sX11_mostTold h4 z1 w1 b gx_q1
  rw [s5, s6, s8] at a1 a2
  obtain ⟨r1, t1, b1⟩ := sX12_mostOf hg h hR.n7 hR.zm (rd_D hR) gx_q0 s2
  generalize gx_an 0 (gx_X 0 n 30 (rd_ok v) (rd_lv v) (rd_dv v) T).1.2.2.1 (gx_X 0 n 30 (rd_ok v) (rd_lv v) (rd_dv v) T).1.2.2.2.1 (gx_X 0 n 30 (rd_ok v) (rd_lv v) (rd_dv v) T).2 = x1 at a1 b1
  have hR1 := gm_R_mw s3 r1 t1
  obtain ⟨r2, t2, b2⟩ := sX12_mostOf hg (31 * h + x1.toInt64) hR1.n7 hR1.zm (rd_D hR1) gx_q1 s2
  have b2 : aX12_mostOf g [.ref 0, .int 1] (hm y (mx_w v r1 t1) (31 * h + x1.toInt64)) = some (some (.int (gx_an 1 (gx_X 0 n 30 (rd_ok v) (rd_lv v) (rd_dv v) T).1.2.2.1 (gx_X 0 n 30 (rd_ok v) (rd_lv v) (rd_dv v) T).1.2.2.2.1 (gx_X 0 n 30 (rd_ok v) (rd_lv v) (rd_dv v) T).2)), hm y (mx_w (mx_w v r1 t1) r2 t2) (31 * h + x1.toInt64)) := b2
  generalize gx_an 1 (gx_X 0 n 30 (rd_ok v) (rd_lv v) (rd_dv v) T).1.2.2.1 (gx_X 0 n 30 (rd_ok v) (rd_lv v) (rd_dv v) T).1.2.2.2.1 (gx_X 0 n 30 (rd_ok v) (rd_lv v) (rd_dv v) T).2 = x2 at a2 b2
  have hR2 := gm_R_mw hR1 r2 t2
  obtain ⟨v3, h3, c1, c2, c3⟩ := gd_most hg b s2 7 0 (g - 9 + 1) (g - 9 + 1) (mx_w (mx_w v r1 t1) r2 t2) (31 * (31 * h + x1.toInt64) + x2.toInt64) (by omega) hR2 s5 s6 s8
  -- best
  obtain ⟨z4, w4, T4, d1, d2, d3, d4, d5, d6, d7, d8⟩ := gq_seek h4 b c1 1 (A := 4) (by omega)
  have a3 := sX11_bestTold h4 z4 w4 b gx_q0
  have a4 := sX11_bestTold h4 z4 w4 b gx_q1
  rw [d6, d7, d8] at a3 a4
  obtain ⟨r3, t3, b3⟩ := sX12_bestOf hg h3 (A := 4) (by omega) d3.n7 d3.zm (rd_D d3) gx_q0 d2
  generalize gx_an 0 (gx_X 1 n 4 (rd_ok v3) (rd_lv v3) (rd_dv v3) T4).1.2.2.2.1 (gx_X 1 n 4 (rd_ok v3) (rd_lv v3) (rd_dv v3) T4).1.2.2.2.2 (gx_X 1 n 4 (rd_ok v3) (rd_lv v3) (rd_dv v3) T4).2 = x3 at a3 b3
  have hR3 := gm_R_mw d3 r3 t3
  obtain ⟨r4, t4, b4⟩ := sX12_bestOf hg (31 * h3 + x3.toInt64) (A := 4) (by omega) hR3.n7 hR3.zm (rd_D hR3) gx_q1 d2
  have b4 : aX12_bestOf g [.ref 0, .int (nI 4), .int 1] (hm y (mx_w v3 r3 t3) (31 * h3 + x3.toInt64)) = some (some (.int (gx_an 1 (gx_X 1 n 4 (rd_ok v3) (rd_lv v3) (rd_dv v3) T4).1.2.2.2.1 (gx_X 1 n 4 (rd_ok v3) (rd_lv v3) (rd_dv v3) T4).1.2.2.2.2 (gx_X 1 n 4 (rd_ok v3) (rd_lv v3) (rd_dv v3) T4).2)), hm y (mx_w (mx_w v3 r3 t3) r4 t4) (31 * h3 + x3.toInt64)) := b4
  generalize gx_an 1 (gx_X 1 n 4 (rd_ok v3) (rd_lv v3) (rd_dv v3) T4).1.2.2.2.1 (gx_X 1 n 4 (rd_ok v3) (rd_lv v3) (rd_dv v3) T4).1.2.2.2.2 (gx_X 1 n 4 (rd_ok v3) (rd_lv v3) (rd_dv v3) T4).2 = x4 at a4 b4
  have hR4 := gm_R_mw hR3 r4 t4
  -- stable
  obtain ⟨z5, w5, T5, e1, e2, e3, e4, e5, e6, e7, e8⟩ := gq_seek h4 b hR4 2 (A := 30) (by omega)
  have a5 := sX11_stableTold h4 z5 w5 b gx_q0
  have a6 := sX11_stableTold h4 z5 w5 b gx_q1
  rw [e4, e5, e8] at a5 a6
  generalize mx_w (mx_w v3 r3 t3) r4 t4 = v5 at b4 hR4 e3 e4 e5 e6 e7 e8 a5 a6
  obtain ⟨r5, t5, b5⟩ := sX12_stableOf hg (31 * (31 * h3 + x3.toInt64) + x4.toInt64) e3.n7 e3.zm (rd_D e3) (rd_lv_s v5) gx_q0 e2
  generalize gx_an 0 (gx_X 2 n 30 (rd_ok v5) (rd_lv v5) (rd_dv v5) T5).1.1 (gx_X 2 n 30 (rd_ok v5) (rd_lv v5) (rd_dv v5) T5).1.2.2.1 (gx_X 2 n 30 (rd_ok v5) (rd_lv v5) (rd_dv v5) T5).2 = x5 at a5 b5
  have hR5 := gm_R_mw e3 r5 t5
  obtain ⟨r6, t6, b6⟩ := sX12_stableOf hg (31 * (31 * (31 * h3 + x3.toInt64) + x4.toInt64) + x5.toInt64) hR5.n7 hR5.zm (rd_D hR5) (rd_lv_s (mx_w v5 r5 t5)) gx_q1 e2
  have b6 : aX12_stableOf g [.ref 0, .int 1] (hm y (mx_w v5 r5 t5) (31 * (31 * (31 * h3 + x3.toInt64) + x4.toInt64) + x5.toInt64)) = some (some (.int (gx_an 1 (gx_X 2 n 30 (rd_ok v5) (rd_lv v5) (rd_dv v5) T5).1.1 (gx_X 2 n 30 (rd_ok v5) (rd_lv v5) (rd_dv v5) T5).1.2.2.1 (gx_X 2 n 30 (rd_ok v5) (rd_lv v5) (rd_dv v5) T5).2)), hm y (mx_w (mx_w v5 r5 t5) r6 t6) (31 * (31 * (31 * h3 + x3.toInt64) + x4.toInt64) + x5.toInt64)) := b6
  generalize gx_an 1 (gx_X 2 n 30 (rd_ok v5) (rd_lv v5) (rd_dv v5) T5).1.1 (gx_X 2 n 30 (rd_ok v5) (rd_lv v5) (rd_dv v5) T5).1.2.2.1 (gx_X 2 n 30 (rd_ok v5) (rd_lv v5) (rd_dv v5) T5).2 = x6 at a6 b6
  have hR6 := gm_R_mw hR5 r6 t6
  have f7 : g - 9 + 1 + 7 = g - 1 := by omega
  rw [f7] at c2 c3
  have s1 : aX6_seek g [.ref 20, .ref 3, .int 0, .int 30] (hx z w b) = some (none, hx z1 w1 b) := s1
  have d1 : aX6_seek g [.ref 20, .ref 3, .int 1, .int 4] (hx z1 w1 b) = some (none, hx z4 w4 b) := d1
  have e1 : aX6_seek g [.ref 20, .ref 3, .int 2, .int 30] (hx z4 w4 b) = some (none, hx z5 w5 b) := e1
  have b3 : aX12_bestOf g [.ref 0, .int 4, .int 0] (hm y v3 h3) = _ := b3
  have b4 : aX12_bestOf g [.ref 0, .int 4, .int 1] (hm y (mx_w v3 r3 t3) (31 * h3 + x3.toInt64)) = _ := b4
  refine ⟨z5, w5, mx_w (mx_w v5 r5 t5) r6 t6, 31 * (31 * (31 * (31 * h3 + x3.toInt64) + x4.toInt64) + x5.toInt64) + x6.toInt64, g - 9, by omega, hR6, ?_, ?_⟩
  · rw [show nI 0 = 0 from rfl] at c2
    simp only [rX11_withRows_37, n32_77, if_false, ob_s, ob_n, ar_I, ar_L, ar_V, hx_v0, hx_fr0_0, hx_fr0_1, hx_fr0_2, hx_fr0_3, hx_fr0_4, hx_fi0_5, hx_sv0_5, hx_v1, hx_fr1_0, hx_fi1_1, hx_sv1_1, hx_v3, hx_fr3_0, hx_fr3_1, hx_fi3_2, hx_sv3_2, hx_fi3_3, hx_sv3_3, hx_fi3_4, hx_sv3_4, hx_fi3_5, hx_sv3_5, hx_fi3_6, hx_sv3_6, hx_fr3_7, hx_v5, hx_fi5_0, hx_sv5_0, hx_fr5_1, hx_fr5_2, hx_fr5_3, hx_fr5_4, hx_v11, hx_fi11_0, hx_sv11_0, hx_fr11_1, hx_fr11_2, hx_fr11_3, hx_fr11_4, hx_fi11_5, hx_sv11_5, hx_fi11_6, hx_sv11_6, hx_fi11_7, hx_sv11_7, hx_fi11_8, hx_sv11_8, hx_v15, hx_fi15_0, hx_sv15_0, hx_fr15_1, hx_fr15_2, hx_fr15_3, hx_fr15_4, hx_v20, hx_fi20_0, hx_sv20_0, hx_fi20_1, hx_sv20_1, hx_fi20_2, hx_sv20_2, hx_fi20_3, hx_sv20_3, hx_fr20_4, hx_fr20_5, hx_fr20_6, hx_fr20_7, hx_fi20_8, hx_sv20_8, hx_fi20_9, hx_sv20_9, hx_fi20_10, hx_sv20_10, hx_fi20_11, hx_sv20_11, hx_v25, hx_fi25_0, hx_sv25_0, hx_fi25_1, hx_sv25_1, hx_fl, hx_sl, hx_fr25_3, hx_li2, hx_ai2, hx_si2, hx_li6, hx_ai6, hx_si6, hx_li7, hx_ai7, hx_si7, hx_li8, hx_ai8, hx_si8, hx_li9, hx_ai9, hx_si9, hx_li10, hx_ai10, hx_si10, hx_li12, hx_ai12, hx_si12, hx_li13, hx_ai13, hx_si13, hx_li14, hx_ai14, hx_si14, hx_li16, hx_ai16, hx_si16, hx_li17, hx_ai17, hx_si17, hx_li18, hx_ai18, hx_si18, hx_li19, hx_ai19, hx_si19, hx_li21, hx_ai21, hx_si21, hx_li22, hx_ai22, hx_si22, hx_li24, hx_ai24, hx_si24, hx_li26, hx_ai26, hx_si26, hx_li27, hx_ai27, hx_si27, hx_li28, hx_ai28, hx_si28, hx_li29, hx_ai29, hx_si29, hx_li30, hx_ai30, hx_si30, hx_li31, hx_ai31, hx_si31, hx_li32, hx_ai32, hx_si32, hx_li33, hx_ai33, hx_si33, hx_lr4, hx_lr23, hx_sf0, hx_sf1, hx_ss1, hx_sf2, hx_ss2, hx_sf3, hx_ss3, hx_lkli, hx_lksi, d1, a3, a4, e1, a5, a6, sX11_with h4] at c2
    obtain ⟨f, rfl⟩ : ∃ f, g = f + 1 := ⟨g - 1, by omega⟩
    unfold aX11_withRows
    rw [eX11_withRows]
    rw [Nat.add_sub_cancel] at c2
    simp only [ob_s, ob_n, ar_I, ar_L, ar_V, hx_v0, hx_fr0_0, hx_fr0_1, hx_fr0_2, hx_fr0_3, hx_fr0_4, hx_fi0_5, hx_sv0_5, hx_v1, hx_fr1_0, hx_fi1_1, hx_sv1_1, hx_v3, hx_fr3_0, hx_fr3_1, hx_fi3_2, hx_sv3_2, hx_fi3_3, hx_sv3_3, hx_fi3_4, hx_sv3_4, hx_fi3_5, hx_sv3_5, hx_fi3_6, hx_sv3_6, hx_fr3_7, hx_v5, hx_fi5_0, hx_sv5_0, hx_fr5_1, hx_fr5_2, hx_fr5_3, hx_fr5_4, hx_v11, hx_fi11_0, hx_sv11_0, hx_fr11_1, hx_fr11_2, hx_fr11_3, hx_fr11_4, hx_fi11_5, hx_sv11_5, hx_fi11_6, hx_sv11_6, hx_fi11_7, hx_sv11_7, hx_fi11_8, hx_sv11_8, hx_v15, hx_fi15_0, hx_sv15_0, hx_fr15_1, hx_fr15_2, hx_fr15_3, hx_fr15_4, hx_v20, hx_fi20_0, hx_sv20_0, hx_fi20_1, hx_sv20_1, hx_fi20_2, hx_sv20_2, hx_fi20_3, hx_sv20_3, hx_fr20_4, hx_fr20_5, hx_fr20_6, hx_fr20_7, hx_fi20_8, hx_sv20_8, hx_fi20_9, hx_sv20_9, hx_fi20_10, hx_sv20_10, hx_fi20_11, hx_sv20_11, hx_v25, hx_fi25_0, hx_sv25_0, hx_fi25_1, hx_sv25_1, hx_fl, hx_sl, hx_fr25_3, hx_li2, hx_ai2, hx_si2, hx_li6, hx_ai6, hx_si6, hx_li7, hx_ai7, hx_si7, hx_li8, hx_ai8, hx_si8, hx_li9, hx_ai9, hx_si9, hx_li10, hx_ai10, hx_si10, hx_li12, hx_ai12, hx_si12, hx_li13, hx_ai13, hx_si13, hx_li14, hx_ai14, hx_si14, hx_li16, hx_ai16, hx_si16, hx_li17, hx_ai17, hx_si17, hx_li18, hx_ai18, hx_si18, hx_li19, hx_ai19, hx_si19, hx_li21, hx_ai21, hx_si21, hx_li22, hx_ai22, hx_si22, hx_li24, hx_ai24, hx_si24, hx_li26, hx_ai26, hx_si26, hx_li27, hx_ai27, hx_si27, hx_li28, hx_ai28, hx_si28, hx_li29, hx_ai29, hx_si29, hx_li30, hx_ai30, hx_si30, hx_li31, hx_ai31, hx_si31, hx_li32, hx_ai32, hx_si32, hx_li33, hx_ai33, hx_si33, hx_lr4, hx_lr23, hx_sf0, hx_sf1, hx_ss1, hx_sf2, hx_ss2, hx_sf3, hx_ss3, hx_lkli, hx_lksi, s1, a1, a2, sX11_with h4]
    exact c2
  · rw [show nI (10 + 0) = 10 from rfl] at c3
    simp only [rX12_sayDrawer_23, n32_17, if_false, ob_s, ob_n, ar_I, ar_L, ar_V, hm_vI, hm_fr0, hm_li0, hm_ai0, hm_si0, hm_fi1, hm_sv1, hm_fi2, hm_sv2, hm_fi3, hm_sv3, hm_fi4, hm_sv4, hm_fi5, hm_sv5, hm_fi6, hm_sv6, hm_fi7, hm_sv7, hm_fr8, hm_li8, hm_ai8, hm_si8, hm_fr9, hm_li9, hm_ai9, hm_si9, hm_fr10, hm_li10, hm_ai10, hm_si10, hm_fr11, hm_li11, hm_ai11, hm_si11, hm_fr12, hm_li12, hm_ai12, hm_si12, hm_fr13, hm_li13, hm_ai13, hm_si13, hm_fr14, hm_li14, hm_ai14, hm_si14, hm_fi15, hm_sv15, hm_fr16, hm_li16, hm_ai16, hm_si16, hm_fr17, hm_li17, hm_ai17, hm_si17, hm_fi18, hm_sv18, hm_fi19, hm_sv19, hm_fi20, hm_sv20, hm_fi21, hm_sv21, hm_fi22, hm_sv22, hm_fi23, hm_sv23, hm_fi24, hm_sv24, hm_fr25, hm_li25, hm_ai25, hm_si25, hm_fr26, hm_li26, hm_ai26, hm_si26, hm_fr27, hm_li27, hm_ai27, hm_si27, hm_fr28, hm_li28, hm_ai28, hm_si28, hm_fl, hm_sl, b3, b4, b5, b6, sX12_say h4] at c3
    rw [← c3]
    obtain ⟨f, rfl⟩ : ∃ f, g = f + 1 := ⟨g - 1, by omega⟩
    unfold aX12_sayDrawer
    rw [eX12_sayDrawer]
    rw [Nat.add_sub_cancel]
    simp only [ob_s, ob_n, ar_I, ar_L, ar_V, hm_vI, hm_fr0, hm_li0, hm_ai0, hm_si0, hm_fi1, hm_sv1, hm_fi2, hm_sv2, hm_fi3, hm_sv3, hm_fi4, hm_sv4, hm_fi5, hm_sv5, hm_fi6, hm_sv6, hm_fi7, hm_sv7, hm_fr8, hm_li8, hm_ai8, hm_si8, hm_fr9, hm_li9, hm_ai9, hm_si9, hm_fr10, hm_li10, hm_ai10, hm_si10, hm_fr11, hm_li11, hm_ai11, hm_si11, hm_fr12, hm_li12, hm_ai12, hm_si12, hm_fr13, hm_li13, hm_ai13, hm_si13, hm_fr14, hm_li14, hm_ai14, hm_si14, hm_fi15, hm_sv15, hm_fr16, hm_li16, hm_ai16, hm_si16, hm_fr17, hm_li17, hm_ai17, hm_si17, hm_fi18, hm_sv18, hm_fi19, hm_sv19, hm_fi20, hm_sv20, hm_fi21, hm_sv21, hm_fi22, hm_sv22, hm_fi23, hm_sv23, hm_fi24, hm_sv24, hm_fr25, hm_li25, hm_ai25, hm_si25, hm_fr26, hm_li26, hm_ai26, hm_si26, hm_fr27, hm_li27, hm_ai27, hm_si27, hm_fr28, hm_li28, hm_ai28, hm_si28, hm_fl, hm_sl, b1, b2, sX12_say h4]
end DG1
