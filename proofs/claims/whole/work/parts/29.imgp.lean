/-! pairs: image, restore -/
section PR10
variable {g : Nat}
theorem gp_image (hg : 4000 ≤ g) : gm_Pair (aX11_image g) (aX12_image g) [.ref 0] := by
  intro K n ln sn z w b y v c hR
  have h7 := hR.n7
  have e2 : z 2 = y 2 := hR.zx.trans hR.zm.symm
  by_cases h0 : z 2 = 0
  · refine gm_same hR (-103) ?_ ?_
    · obtain ⟨f, rfl⟩ : ∃ f, g = f + 1 := ⟨g - 1, by omega⟩
      unfold aX11_image
      rw [eX11_image]
      simp only [ob_s, ob_n, ar_I, ar_L, ar_V, hx_v0, hx_fr0_0, hx_fr0_1, hx_fr0_2, hx_fr0_3, hx_fr0_4, hx_fi0_5, hx_sv0_5, hx_v1, hx_fr1_0, hx_fi1_1, hx_sv1_1, hx_v3, hx_fr3_0, hx_fr3_1, hx_fi3_2, hx_sv3_2, hx_fi3_3, hx_sv3_3, hx_fi3_4, hx_sv3_4, hx_fi3_5, hx_sv3_5, hx_fi3_6, hx_sv3_6, hx_fr3_7, hx_v5, hx_fi5_0, hx_sv5_0, hx_fr5_1, hx_fr5_2, hx_fr5_3, hx_fr5_4, hx_v11, hx_fi11_0, hx_sv11_0, hx_fr11_1, hx_fr11_2, hx_fr11_3, hx_fr11_4, hx_fi11_5, hx_sv11_5, hx_fi11_6, hx_sv11_6, hx_fi11_7, hx_sv11_7, hx_fi11_8, hx_sv11_8, hx_v15, hx_fi15_0, hx_sv15_0, hx_fr15_1, hx_fr15_2, hx_fr15_3, hx_fr15_4, hx_v20, hx_fi20_0, hx_sv20_0, hx_fi20_1, hx_sv20_1, hx_fi20_2, hx_sv20_2, hx_fi20_3, hx_sv20_3, hx_fr20_4, hx_fr20_5, hx_fr20_6, hx_fr20_7, hx_fi20_8, hx_sv20_8, hx_fi20_9, hx_sv20_9, hx_fi20_10, hx_sv20_10, hx_fi20_11, hx_sv20_11, hx_v25, hx_fi25_0, hx_sv25_0, hx_fi25_1, hx_sv25_1, hx_fl, hx_sl, hx_fr25_3, hx_li2, hx_ai2, hx_si2, hx_li6, hx_ai6, hx_si6, hx_li7, hx_ai7, hx_si7, hx_li8, hx_ai8, hx_si8, hx_li9, hx_ai9, hx_si9, hx_li10, hx_ai10, hx_si10, hx_li12, hx_ai12, hx_si12, hx_li13, hx_ai13, hx_si13, hx_li14, hx_ai14, hx_si14, hx_li16, hx_ai16, hx_si16, hx_li17, hx_ai17, hx_si17, hx_li18, hx_ai18, hx_si18, hx_li19, hx_ai19, hx_si19, hx_li21, hx_ai21, hx_si21, hx_li22, hx_ai22, hx_si22, hx_li24, hx_ai24, hx_si24, hx_li26, hx_ai26, hx_si26, hx_li27, hx_ai27, hx_si27, hx_li28, hx_ai28, hx_si28, hx_li29, hx_ai29, hx_si29, hx_li30, hx_ai30, hx_si30, hx_li31, hx_ai31, hx_si31, hx_li32, hx_ai32, hx_si32, hx_li33, hx_ai33, hx_si33, hx_lr4, hx_lr23, hx_sf0, hx_sf1, hx_ss1, hx_sf2, hx_ss2, hx_sf3, hx_ss3, hx_lkli, hx_lksi, sX0_isMissing z w b hg, bI_0, h0, n32_00, decide_true, Bool.true_eq_false, if_false]
    · obtain ⟨f, rfl⟩ : ∃ f, g = f + 1 := ⟨g - 1, by omega⟩
      unfold aX12_image
      rw [eX12_image]
      simp only [ob_s, ob_n, ar_I, ar_L, ar_V, hm_vI, hm_fr0, hm_li0, hm_ai0, hm_si0, hm_fi1, hm_sv1, hm_fi2, hm_sv2, hm_fi3, hm_sv3, hm_fi4, hm_sv4, hm_fi5, hm_sv5, hm_fi6, hm_sv6, hm_fi7, hm_sv7, hm_fr8, hm_li8, hm_ai8, hm_si8, hm_fr9, hm_li9, hm_ai9, hm_si9, hm_fr10, hm_li10, hm_ai10, hm_si10, hm_fr11, hm_li11, hm_ai11, hm_si11, hm_fr12, hm_li12, hm_ai12, hm_si12, hm_fr13, hm_li13, hm_ai13, hm_si13, hm_fr14, hm_li14, hm_ai14, hm_si14, hm_fi15, hm_sv15, hm_fr16, hm_li16, hm_ai16, hm_si16, hm_fr17, hm_li17, hm_ai17, hm_si17, hm_fi18, hm_sv18, hm_fi19, hm_sv19, hm_fi20, hm_sv20, hm_fi21, hm_sv21, hm_fi22, hm_sv22, hm_fi23, hm_sv23, hm_fi24, hm_sv24, hm_fr25, hm_li25, hm_ai25, hm_si25, hm_fr26, hm_li26, hm_ai26, hm_si26, hm_fr27, hm_li27, hm_ai27, hm_si27, hm_fr28, hm_li28, hm_ai28, hm_si28, hm_fl, hm_sl, sX12_lacks y v c hg, bI_0, ← e2, h0, n32_00, decide_true, Bool.true_eq_false, if_false]
  · have hS := hR.2.2.1
    have hC := hR.2.2.2.1
    obtain ⟨d, hd, d1, d2, -⟩ := hR.2.2.2.2
    have hk := sX2_keep hg z w b h7 hR.zx hS.1 hS.2.1
    refine ⟨z 3, n, ln, sn, va_up (va_up (va_up (va_up (va_up (va_up z 13 (nI sn)) 9 (z 3)) 10 (z 4)) 11 (z 5)) 12 (z 6)) 8 1, hx_k9 (hx_k6 w n) sn, b, va_up (va_up (va_up (va_up (va_up (va_up y 20 (y 3)) 21 (y 4)) 22 (y 5)) 23 (y 6)) 24 (y 15)) 19 (y 7), va_up (va_up (va_up (va_up v 25 (gm_cpy (v 9) (v 25) 7)) 26 (gm_cpy (v 10) (v 26) 7)) 27 (gm_cpy (v 11) (v 27) 7)) 28 (gm_cpy (v 16) (v 28) 24), c, ?_, ?_, ?_⟩
    rotate_left 1
    · obtain ⟨f, rfl⟩ : ∃ f, g = f + 1 := ⟨g - 1, by omega⟩
      unfold aX12_image
      rw [eX12_image]
      simp only [ob_s, ob_n, ar_I, ar_L, ar_V, hm_vI, hm_fr0, hm_li0, hm_ai0, hm_si0, hm_fi1, hm_sv1, hm_fi2, hm_sv2, hm_fi3, hm_sv3, hm_fi4, hm_sv4, hm_fi5, hm_sv5, hm_fi6, hm_sv6, hm_fi7, hm_sv7, hm_fr8, hm_li8, hm_ai8, hm_si8, hm_fr9, hm_li9, hm_ai9, hm_si9, hm_fr10, hm_li10, hm_ai10, hm_si10, hm_fr11, hm_li11, hm_ai11, hm_si11, hm_fr12, hm_li12, hm_ai12, hm_si12, hm_fr13, hm_li13, hm_ai13, hm_si13, hm_fr14, hm_li14, hm_ai14, hm_si14, hm_fi15, hm_sv15, hm_fr16, hm_li16, hm_ai16, hm_si16, hm_fr17, hm_li17, hm_ai17, hm_si17, hm_fi18, hm_sv18, hm_fi19, hm_sv19, hm_fi20, hm_sv20, hm_fi21, hm_sv21, hm_fi22, hm_sv22, hm_fi23, hm_sv23, hm_fi24, hm_sv24, hm_fr25, hm_li25, hm_ai25, hm_si25, hm_fr26, hm_li26, hm_ai26, hm_si26, hm_fr27, hm_li27, hm_ai27, hm_si27, hm_fr28, hm_li28, hm_ai28, hm_si28, hm_fl, hm_sl, sX12_lacks y v c hg, bI_0, ← e2, h0, decide_false, if_true, hm_cp9_25 hg, hm_cp10_26 hg, hm_cp11_27 hg, hm_cp16_28 hg, va_l, Nat.reduceEqDiff, reduceIte, hC.1]
    rotate_right 1
    · obtain ⟨f, rfl⟩ : ∃ f, g = f + 1 := ⟨g - 1, by omega⟩
      unfold aX11_image
      rw [eX11_image]
      simp only [ob_s, ob_n, ar_I, ar_L, ar_V, hx_v0, hx_fr0_0, hx_fr0_1, hx_fr0_2, hx_fr0_3, hx_fr0_4, hx_fi0_5, hx_sv0_5, hx_v1, hx_fr1_0, hx_fi1_1, hx_sv1_1, hx_v3, hx_fr3_0, hx_fr3_1, hx_fi3_2, hx_sv3_2, hx_fi3_3, hx_sv3_3, hx_fi3_4, hx_sv3_4, hx_fi3_5, hx_sv3_5, hx_fi3_6, hx_sv3_6, hx_fr3_7, hx_v5, hx_fi5_0, hx_sv5_0, hx_fr5_1, hx_fr5_2, hx_fr5_3, hx_fr5_4, hx_v11, hx_fi11_0, hx_sv11_0, hx_fr11_1, hx_fr11_2, hx_fr11_3, hx_fr11_4, hx_fi11_5, hx_sv11_5, hx_fi11_6, hx_sv11_6, hx_fi11_7, hx_sv11_7, hx_fi11_8, hx_sv11_8, hx_v15, hx_fi15_0, hx_sv15_0, hx_fr15_1, hx_fr15_2, hx_fr15_3, hx_fr15_4, hx_v20, hx_fi20_0, hx_sv20_0, hx_fi20_1, hx_sv20_1, hx_fi20_2, hx_sv20_2, hx_fi20_3, hx_sv20_3, hx_fr20_4, hx_fr20_5, hx_fr20_6, hx_fr20_7, hx_fi20_8, hx_sv20_8, hx_fi20_9, hx_sv20_9, hx_fi20_10, hx_sv20_10, hx_fi20_11, hx_sv20_11, hx_v25, hx_fi25_0, hx_sv25_0, hx_fi25_1, hx_sv25_1, hx_fl, hx_sl, hx_fr25_3, hx_li2, hx_ai2, hx_si2, hx_li6, hx_ai6, hx_si6, hx_li7, hx_ai7, hx_si7, hx_li8, hx_ai8, hx_si8, hx_li9, hx_ai9, hx_si9, hx_li10, hx_ai10, hx_si10, hx_li12, hx_ai12, hx_si12, hx_li13, hx_ai13, hx_si13, hx_li14, hx_ai14, hx_si14, hx_li16, hx_ai16, hx_si16, hx_li17, hx_ai17, hx_si17, hx_li18, hx_ai18, hx_si18, hx_li19, hx_ai19, hx_si19, hx_li21, hx_ai21, hx_si21, hx_li22, hx_ai22, hx_si22, hx_li24, hx_ai24, hx_si24, hx_li26, hx_ai26, hx_si26, hx_li27, hx_ai27, hx_si27, hx_li28, hx_ai28, hx_si28, hx_li29, hx_ai29, hx_si29, hx_li30, hx_ai30, hx_si30, hx_li31, hx_ai31, hx_si31, hx_li32, hx_ai32, hx_si32, hx_li33, hx_ai33, hx_si33, hx_lr4, hx_lr23, hx_sf0, hx_sf1, hx_ss1, hx_sf2, hx_ss2, hx_sf3, hx_ss3, hx_lkli, hx_lksi, sX0_isMissing z w b hg, bI_0, h0, decide_false, if_true, hk, va_l, Nat.reduceEqDiff, reduceIte]
    · refine ⟨hR.1, hR.2.1, hR.2.2.1, hR.2.2.2.1, d, hd, d1, d2, Or.inr ⟨rfl, rfl, hC.1, hC.2.1, hC.2.2.1, hC.2.2.2, ⟨sn, hS.1, rfl, hS.2.2.1, fun i hi => ?_⟩, fun i hi => ?_, ?_⟩⟩
      · obtain ⟨a1, a2, a3, a4, a5⟩ := hS.2.2.2 i hi
        have hs8 := hS.1
        show gm_cpy (w 1) (w 9) sn i = gm_cpy (v 16) (v 28) 24 (3 * i) ∧ gm_cpy (w 2) (w 10) sn i = gm_cpy (v 16) (v 28) 24 (3 * i + 1) ∧ gm_cpy (w 3) (w 11) sn i = gm_cpy (v 16) (v 28) 24 (3 * i + 2) ∧ (∃ j : Nat, j < n ∧ gm_cpy (w 1) (w 9) sn i = nI j) ∧ (∃ j : Nat, j < n ∧ gm_cpy (w 2) (w 10) sn i = nI j)
        rw [gm_cpy_lt hi, gm_cpy_lt hi, gm_cpy_lt hi, gm_cpy_lt (show 3 * i < 24 by omega), gm_cpy_lt (show 3 * i + 1 < 24 by omega), gm_cpy_lt (show 3 * i + 2 < 24 by omega)]
        exact ⟨a1, a2, a3, a4, a5⟩
      · have a := hR.sg hi
        have r := hR.rg i (by omega)
        show gm_cpy (w 19) (w 6) n i = gm_cpy (v 9) (v 25) 7 i ∧ gm_cpy (w 20) (w 7) n i = gm_cpy (v 10) (v 26) 7 i ∧ gm_cpy (w 21) (w 8) n i = gm_cpy (v 11) (v 27) 7 i ∧ (0 ≤ (gm_cpy (w 19) (w 6) n i).toInt ∧ (gm_cpy (w 19) (w 6) n i).toInt ≤ 9) ∧ (0 ≤ (gm_cpy (w 20) (w 7) n i).toInt ∧ (gm_cpy (w 20) (w 7) n i).toInt ≤ 5)
        rw [gm_cpy_lt hi, gm_cpy_lt hi, gm_cpy_lt hi, gm_cpy_lt (show i < 7 by omega), gm_cpy_lt (show i < 7 by omega), gm_cpy_lt (show i < 7 by omega)]
        exact ⟨a.2.2.1, a.2.2.2.1, a.2.2.2.2.1, r, a.2.2.2.2.2.2.2⟩
      · exact gm_Mt_c (m := w 21) (fun i hi => (gm_cpy_lt hi).symm) hR.2.1.2.2.2.2.2
theorem gp_restore (hg : 4000 ≤ g) : gm_Pair (aX11_restore g) (aX12_restore g) [.ref 0] := by
  intro K n ln sn z w b y v c hR
  have h7 := hR.n7
  obtain ⟨d, hd, d1, d2, ⟨h8, hne, -⟩ | ⟨h8, he, i9, i10, i11, i12, ⟨ks, hS⟩, hI, hM⟩⟩ := hR.2.2.2.2
  · refine gm_same hR (-103) ?_ ?_
    · obtain ⟨f, rfl⟩ : ∃ f, g = f + 1 := ⟨g - 1, by omega⟩
      unfold aX11_restore
      rw [eX11_restore]
      simp only [ob_s, ob_n, ar_I, ar_L, ar_V, hx_v0, hx_fr0_0, hx_fr0_1, hx_fr0_2, hx_fr0_3, hx_fr0_4, hx_fi0_5, hx_sv0_5, hx_v1, hx_fr1_0, hx_fi1_1, hx_sv1_1, hx_v3, hx_fr3_0, hx_fr3_1, hx_fi3_2, hx_sv3_2, hx_fi3_3, hx_sv3_3, hx_fi3_4, hx_sv3_4, hx_fi3_5, hx_sv3_5, hx_fi3_6, hx_sv3_6, hx_fr3_7, hx_v5, hx_fi5_0, hx_sv5_0, hx_fr5_1, hx_fr5_2, hx_fr5_3, hx_fr5_4, hx_v11, hx_fi11_0, hx_sv11_0, hx_fr11_1, hx_fr11_2, hx_fr11_3, hx_fr11_4, hx_fi11_5, hx_sv11_5, hx_fi11_6, hx_sv11_6, hx_fi11_7, hx_sv11_7, hx_fi11_8, hx_sv11_8, hx_v15, hx_fi15_0, hx_sv15_0, hx_fr15_1, hx_fr15_2, hx_fr15_3, hx_fr15_4, hx_v20, hx_fi20_0, hx_sv20_0, hx_fi20_1, hx_sv20_1, hx_fi20_2, hx_sv20_2, hx_fi20_3, hx_sv20_3, hx_fr20_4, hx_fr20_5, hx_fr20_6, hx_fr20_7, hx_fi20_8, hx_sv20_8, hx_fi20_9, hx_sv20_9, hx_fi20_10, hx_sv20_10, hx_fi20_11, hx_sv20_11, hx_v25, hx_fi25_0, hx_sv25_0, hx_fi25_1, hx_sv25_1, hx_fl, hx_sl, hx_fr25_3, hx_li2, hx_ai2, hx_si2, hx_li6, hx_ai6, hx_si6, hx_li7, hx_ai7, hx_si7, hx_li8, hx_ai8, hx_si8, hx_li9, hx_ai9, hx_si9, hx_li10, hx_ai10, hx_si10, hx_li12, hx_ai12, hx_si12, hx_li13, hx_ai13, hx_si13, hx_li14, hx_ai14, hx_si14, hx_li16, hx_ai16, hx_si16, hx_li17, hx_ai17, hx_si17, hx_li18, hx_ai18, hx_si18, hx_li19, hx_ai19, hx_si19, hx_li21, hx_ai21, hx_si21, hx_li22, hx_ai22, hx_si22, hx_li24, hx_ai24, hx_si24, hx_li26, hx_ai26, hx_si26, hx_li27, hx_ai27, hx_si27, hx_li28, hx_ai28, hx_si28, hx_li29, hx_ai29, hx_si29, hx_li30, hx_ai30, hx_si30, hx_li31, hx_ai31, hx_si31, hx_li32, hx_ai32, hx_si32, hx_li33, hx_ai33, hx_si33, hx_lr4, hx_lr23, hx_sf0, hx_sf1, hx_ss1, hx_sf2, hx_ss2, hx_sf3, hx_ss3, hx_lkli, hx_lksi, h8, n32_00, if_true]
    · obtain ⟨f, rfl⟩ : ∃ f, g = f + 1 := ⟨g - 1, by omega⟩
      unfold aX12_restore
      rw [eX12_restore]
      simp only [ob_s, ob_n, ar_I, ar_L, ar_V, hm_vI, hm_fr0, hm_li0, hm_ai0, hm_si0, hm_fi1, hm_sv1, hm_fi2, hm_sv2, hm_fi3, hm_sv3, hm_fi4, hm_sv4, hm_fi5, hm_sv5, hm_fi6, hm_sv6, hm_fi7, hm_sv7, hm_fr8, hm_li8, hm_ai8, hm_si8, hm_fr9, hm_li9, hm_ai9, hm_si9, hm_fr10, hm_li10, hm_ai10, hm_si10, hm_fr11, hm_li11, hm_ai11, hm_si11, hm_fr12, hm_li12, hm_ai12, hm_si12, hm_fr13, hm_li13, hm_ai13, hm_si13, hm_fr14, hm_li14, hm_ai14, hm_si14, hm_fi15, hm_sv15, hm_fr16, hm_li16, hm_ai16, hm_si16, hm_fr17, hm_li17, hm_ai17, hm_si17, hm_fi18, hm_sv18, hm_fi19, hm_sv19, hm_fi20, hm_sv20, hm_fi21, hm_sv21, hm_fi22, hm_sv22, hm_fi23, hm_sv23, hm_fi24, hm_sv24, hm_fr25, hm_li25, hm_ai25, hm_si25, hm_fr26, hm_li26, hm_ai26, hm_si26, hm_fr27, hm_li27, hm_ai27, hm_si27, hm_fr28, hm_li28, hm_ai28, hm_si28, hm_fl, hm_sl, hne, if_false]
  · have hk := sX2_giveBack hg z w b h7 hR.zx hS.1 hS.2.1
    refine ⟨z 9, n, ln, ks, va_up (va_up (va_up (va_up (va_up z 7 (nI ks)) 3 (z 9)) 4 (z 10)) 5 (z 11)) 6 (z 12), hx_g1 (hx_g19 w n) ks, b, va_up (va_up (va_up (va_up (va_up y 3 (y 20)) 4 (y 21)) 5 (y 22)) 6 (y 23)) 15 (y 24), va_up (va_up (va_up (va_up v 9 (gm_cpy (v 25) (v 9) 7)) 10 (gm_cpy (v 26) (v 10) 7)) 11 (gm_cpy (v 27) (v 11) 7)) 16 (gm_cpy (v 28) (v 16) 24), c, ?_, ?_, ?_⟩
    rotate_left 1
    · obtain ⟨f, rfl⟩ : ∃ f, g = f + 1 := ⟨g - 1, by omega⟩
      unfold aX12_restore
      rw [eX12_restore]
      simp only [ob_s, ob_n, ar_I, ar_L, ar_V, hm_vI, hm_fr0, hm_li0, hm_ai0, hm_si0, hm_fi1, hm_sv1, hm_fi2, hm_sv2, hm_fi3, hm_sv3, hm_fi4, hm_sv4, hm_fi5, hm_sv5, hm_fi6, hm_sv6, hm_fi7, hm_sv7, hm_fr8, hm_li8, hm_ai8, hm_si8, hm_fr9, hm_li9, hm_ai9, hm_si9, hm_fr10, hm_li10, hm_ai10, hm_si10, hm_fr11, hm_li11, hm_ai11, hm_si11, hm_fr12, hm_li12, hm_ai12, hm_si12, hm_fr13, hm_li13, hm_ai13, hm_si13, hm_fr14, hm_li14, hm_ai14, hm_si14, hm_fi15, hm_sv15, hm_fr16, hm_li16, hm_ai16, hm_si16, hm_fr17, hm_li17, hm_ai17, hm_si17, hm_fi18, hm_sv18, hm_fi19, hm_sv19, hm_fi20, hm_sv20, hm_fi21, hm_sv21, hm_fi22, hm_sv22, hm_fi23, hm_sv23, hm_fi24, hm_sv24, hm_fr25, hm_li25, hm_ai25, hm_si25, hm_fr26, hm_li26, hm_ai26, hm_si26, hm_fr27, hm_li27, hm_ai27, hm_si27, hm_fr28, hm_li28, hm_ai28, hm_si28, hm_fl, hm_sl, he, if_true, hm_cp25_9 hg, hm_cp26_10 hg, hm_cp27_11 hg, hm_cp28_16 hg, va_l, Nat.reduceEqDiff, reduceIte, i9]
    rotate_right 1
    · obtain ⟨f, rfl⟩ : ∃ f, g = f + 1 := ⟨g - 1, by omega⟩
      unfold aX11_restore
      rw [eX11_restore]
      simp only [ob_s, ob_n, ar_I, ar_L, ar_V, hx_v0, hx_fr0_0, hx_fr0_1, hx_fr0_2, hx_fr0_3, hx_fr0_4, hx_fi0_5, hx_sv0_5, hx_v1, hx_fr1_0, hx_fi1_1, hx_sv1_1, hx_v3, hx_fr3_0, hx_fr3_1, hx_fi3_2, hx_sv3_2, hx_fi3_3, hx_sv3_3, hx_fi3_4, hx_sv3_4, hx_fi3_5, hx_sv3_5, hx_fi3_6, hx_sv3_6, hx_fr3_7, hx_v5, hx_fi5_0, hx_sv5_0, hx_fr5_1, hx_fr5_2, hx_fr5_3, hx_fr5_4, hx_v11, hx_fi11_0, hx_sv11_0, hx_fr11_1, hx_fr11_2, hx_fr11_3, hx_fr11_4, hx_fi11_5, hx_sv11_5, hx_fi11_6, hx_sv11_6, hx_fi11_7, hx_sv11_7, hx_fi11_8, hx_sv11_8, hx_v15, hx_fi15_0, hx_sv15_0, hx_fr15_1, hx_fr15_2, hx_fr15_3, hx_fr15_4, hx_v20, hx_fi20_0, hx_sv20_0, hx_fi20_1, hx_sv20_1, hx_fi20_2, hx_sv20_2, hx_fi20_3, hx_sv20_3, hx_fr20_4, hx_fr20_5, hx_fr20_6, hx_fr20_7, hx_fi20_8, hx_sv20_8, hx_fi20_9, hx_sv20_9, hx_fi20_10, hx_sv20_10, hx_fi20_11, hx_sv20_11, hx_v25, hx_fi25_0, hx_sv25_0, hx_fi25_1, hx_sv25_1, hx_fl, hx_sl, hx_fr25_3, hx_li2, hx_ai2, hx_si2, hx_li6, hx_ai6, hx_si6, hx_li7, hx_ai7, hx_si7, hx_li8, hx_ai8, hx_si8, hx_li9, hx_ai9, hx_si9, hx_li10, hx_ai10, hx_si10, hx_li12, hx_ai12, hx_si12, hx_li13, hx_ai13, hx_si13, hx_li14, hx_ai14, hx_si14, hx_li16, hx_ai16, hx_si16, hx_li17, hx_ai17, hx_si17, hx_li18, hx_ai18, hx_si18, hx_li19, hx_ai19, hx_si19, hx_li21, hx_ai21, hx_si21, hx_li22, hx_ai22, hx_si22, hx_li24, hx_ai24, hx_si24, hx_li26, hx_ai26, hx_si26, hx_li27, hx_ai27, hx_si27, hx_li28, hx_ai28, hx_si28, hx_li29, hx_ai29, hx_si29, hx_li30, hx_ai30, hx_si30, hx_li31, hx_ai31, hx_si31, hx_li32, hx_ai32, hx_si32, hx_li33, hx_ai33, hx_si33, hx_lr4, hx_lr23, hx_sf0, hx_sf1, hx_ss1, hx_sf2, hx_ss2, hx_sf3, hx_ss3, hx_lkli, hx_lksi, h8, n32_10, if_false, hk, va_l, Nat.reduceEqDiff, reduceIte]
    · refine ⟨hR.1, ⟨h7, hR.zx, hR.zm, fun i hi => ?_, fun i hi => ?_, ?_⟩, ⟨hS.1, rfl, hS.2.2.1, fun i hi => ?_⟩, ⟨i9, i10, i11, i12⟩, d, hd, d1, d2, Or.inr ⟨h8, he, i9, i10, i11, i12, ⟨ks, hS⟩, hI, hM⟩⟩
      · show 0 ≤ (gm_cpy (w 6) (w 19) n i).toInt ∧ (gm_cpy (w 6) (w 19) n i).toInt ≤ 9
        by_cases hin : i < n
        · rw [gm_cpy_lt hin]
          exact (hI i hin).2.2.2.1
        · rw [gm_cpy_ge hin]
          exact hR.rg i hi
      · have a := hR.sg hi
        obtain ⟨q1, q2, q3, q4, q5⟩ := hI i hi
        show w 17 i = mw_k v i ∧ w 18 i = mw_h v i ∧ gm_cpy (w 6) (w 19) n i = gm_cpy (v 25) (v 9) 7 i ∧ gm_cpy (w 7) (w 20) n i = gm_cpy (v 26) (v 10) 7 i ∧ gm_cpy (w 8) (w 21) n i = gm_cpy (v 27) (v 11) 7 i ∧ (0 ≤ (w 17 i).toInt ∧ (w 17 i).toInt ≤ 4) ∧ (w 18 i = 0 ∨ w 18 i = 1) ∧ (0 ≤ (gm_cpy (w 7) (w 20) n i).toInt ∧ (gm_cpy (w 7) (w 20) n i).toInt ≤ 5)
        rw [gm_cpy_lt hi, gm_cpy_lt hi, gm_cpy_lt hi, gm_cpy_lt (show i < 7 by omega), gm_cpy_lt (show i < 7 by omega), gm_cpy_lt (show i < 7 by omega)]
        exact ⟨a.1, a.2.1, q1, q2, q3, a.2.2.2.2.2.1, a.2.2.2.2.2.2.1, q5⟩
      · exact gm_Mt_c (m := w 8) (fun i hi => (gm_cpy_lt hi).symm) hM
      · obtain ⟨a1, a2, a3, a4, a5⟩ := hS.2.2.2 i hi
        have hs8 := hS.1
        show gm_cpy (w 9) (w 1) ks i = gm_cpy (v 28) (v 16) 24 (3 * i) ∧ gm_cpy (w 10) (w 2) ks i = gm_cpy (v 28) (v 16) 24 (3 * i + 1) ∧ gm_cpy (w 11) (w 3) ks i = gm_cpy (v 28) (v 16) 24 (3 * i + 2) ∧ (∃ j : Nat, j < n ∧ gm_cpy (w 9) (w 1) ks i = nI j) ∧ (∃ j : Nat, j < n ∧ gm_cpy (w 10) (w 2) ks i = nI j)
        rw [gm_cpy_lt hi, gm_cpy_lt hi, gm_cpy_lt hi, gm_cpy_lt (show 3 * i < 24 by omega), gm_cpy_lt (show 3 * i + 1 < 24 by omega), gm_cpy_lt (show 3 * i + 2 < 24 by omega)]
        exact ⟨a1, a2, a3, a4, a5⟩
end PR10
