section WINP
variable {g : Nat}
theorem gm_lt1 (p : Int32) : (p < 1) = (p.toInt < 1) := by rw [i32_lt]; rfl
theorem gm_gt60 (p : Int32) : ((60 : Int32) < p) = (60 < p.toInt) := by rw [i32_lt]; rfl
theorem gm_lt0 (p : Int32) : (p < 0) = (p.toInt < 0) := by rw [i32_lt]; rfl
theorem gm_gt2 (p : Int32) : ((2 : Int32) < p) = (2 < p.toInt) := by rw [i32_lt]; rfl
theorem gp_winters (hg : 4000 ≤ g) (p q r : Int32) : gm_Pair (aX11_winters g) (aX12_winters g) [.ref 0, .int p, .int q, .int r] := by
  intro K n ln sn z w b y v c hR
  have h7 := hR.n7
  have e2 : z 2 = y 2 := hR.zx.trans hR.zm.symm
  have hin1 : aX12_in g [.long p.toInt64, .long 1, .long 60] (hm y v c) = some (some (.int (bI (decide (1 ≤ p.toInt ∧ p.toInt ≤ 60)))), hm y v c) := sX12_in2 hg p 1 60 (hm y v c)
  have hin2 : aX12_in g [.long r.toInt64, .long 0, .long 2] (hm y v c) = some (some (.int (bI (decide (0 ≤ r.toInt ∧ r.toInt ≤ 2)))), hm y v c) := sX12_in2 hg r 0 2 (hm y v c)
  by_cases hp : 1 ≤ p.toInt ∧ p.toInt ≤ 60
  · by_cases hq : q.toInt < 0
    · refine gm_same hR (-102) ?_ ?_
      · obtain ⟨f, rfl⟩ : ∃ f, g = f + 1 := ⟨g - 1, by omega⟩
        unfold aX11_winters
        rw [eX11_winters]
        rw [if_neg (by rw [gm_lt1]; omega), if_neg (by rw [gm_gt60]; omega), if_pos (by rw [gm_lt0]; omega)]
      · obtain ⟨f, rfl⟩ : ∃ f, g = f + 1 := ⟨g - 1, by omega⟩
        unfold aX12_winters
        rw [eX12_winters]
        simp only [ob_s, ob_n, ar_I, ar_L, ar_V, hin1, hp, and_self, decide_true, bI_t, n32_10, if_false, gm_lt0, hq, if_true]
    · by_cases hr : 0 ≤ r.toInt ∧ r.toInt ≤ 2
      · by_cases h0 : z 2 = 0
        · refine gm_same hR (-103) ?_ ?_
          · obtain ⟨f, rfl⟩ : ∃ f, g = f + 1 := ⟨g - 1, by omega⟩
            unfold aX11_winters
            rw [eX11_winters]
            rw [if_neg (by rw [gm_lt1]; omega), if_neg (by rw [gm_gt60]; omega), if_neg (by rw [gm_lt0]; omega), if_neg (by rw [gm_lt0]; omega), if_neg (by rw [gm_gt2]; omega)]
            simp only [ob_s, ob_n, ar_I, ar_L, ar_V, hx_v0, hx_fr0_0, hx_fr0_1, hx_fr0_2, hx_fr0_3, hx_fr0_4, hx_fi0_5, hx_sv0_5, hx_v1, hx_fr1_0, hx_fi1_1, hx_sv1_1, hx_v3, hx_fr3_0, hx_fr3_1, hx_fi3_2, hx_sv3_2, hx_fi3_3, hx_sv3_3, hx_fi3_4, hx_sv3_4, hx_fi3_5, hx_sv3_5, hx_fi3_6, hx_sv3_6, hx_fr3_7, hx_v5, hx_fi5_0, hx_sv5_0, hx_fr5_1, hx_fr5_2, hx_fr5_3, hx_fr5_4, hx_v11, hx_fi11_0, hx_sv11_0, hx_fr11_1, hx_fr11_2, hx_fr11_3, hx_fr11_4, hx_fi11_5, hx_sv11_5, hx_fi11_6, hx_sv11_6, hx_fi11_7, hx_sv11_7, hx_fi11_8, hx_sv11_8, hx_v15, hx_fi15_0, hx_sv15_0, hx_fr15_1, hx_fr15_2, hx_fr15_3, hx_fr15_4, hx_v20, hx_fi20_0, hx_sv20_0, hx_fi20_1, hx_sv20_1, hx_fi20_2, hx_sv20_2, hx_fi20_3, hx_sv20_3, hx_fr20_4, hx_fr20_5, hx_fr20_6, hx_fr20_7, hx_fi20_8, hx_sv20_8, hx_fi20_9, hx_sv20_9, hx_fi20_10, hx_sv20_10, hx_fi20_11, hx_sv20_11, hx_v25, hx_fi25_0, hx_sv25_0, hx_fi25_1, hx_sv25_1, hx_fl, hx_sl, hx_fr25_3, hx_li2, hx_ai2, hx_si2, hx_li6, hx_ai6, hx_si6, hx_li7, hx_ai7, hx_si7, hx_li8, hx_ai8, hx_si8, hx_li9, hx_ai9, hx_si9, hx_li10, hx_ai10, hx_si10, hx_li12, hx_ai12, hx_si12, hx_li13, hx_ai13, hx_si13, hx_li14, hx_ai14, hx_si14, hx_li16, hx_ai16, hx_si16, hx_li17, hx_ai17, hx_si17, hx_li18, hx_ai18, hx_si18, hx_li19, hx_ai19, hx_si19, hx_li21, hx_ai21, hx_si21, hx_li22, hx_ai22, hx_si22, hx_li24, hx_ai24, hx_si24, hx_li26, hx_ai26, hx_si26, hx_li27, hx_ai27, hx_si27, hx_li28, hx_ai28, hx_si28, hx_li29, hx_ai29, hx_si29, hx_li30, hx_ai30, hx_si30, hx_li31, hx_ai31, hx_si31, hx_li32, hx_ai32, hx_si32, hx_li33, hx_ai33, hx_si33, hx_lr4, hx_lr23, hx_sf0, hx_sf1, hx_ss1, hx_sf2, hx_ss2, hx_sf3, hx_ss3, hx_lkli, hx_lksi, sX0_isMissing z w b hg, bI_0, h0, n32_00, decide_true, Bool.true_eq_false, if_false]
          · obtain ⟨f, rfl⟩ : ∃ f, g = f + 1 := ⟨g - 1, by omega⟩
            unfold aX12_winters
            rw [eX12_winters]
            simp only [ob_s, ob_n, ar_I, ar_L, ar_V, hm_vI, hm_fr0, hm_li0, hm_ai0, hm_si0, hm_fi1, hm_sv1, hm_fi2, hm_sv2, hm_fi3, hm_sv3, hm_fi4, hm_sv4, hm_fi5, hm_sv5, hm_fi6, hm_sv6, hm_fi7, hm_sv7, hm_fr8, hm_li8, hm_ai8, hm_si8, hm_fr9, hm_li9, hm_ai9, hm_si9, hm_fr10, hm_li10, hm_ai10, hm_si10, hm_fr11, hm_li11, hm_ai11, hm_si11, hm_fr12, hm_li12, hm_ai12, hm_si12, hm_fr13, hm_li13, hm_ai13, hm_si13, hm_fr14, hm_li14, hm_ai14, hm_si14, hm_fi15, hm_sv15, hm_fr16, hm_li16, hm_ai16, hm_si16, hm_fr17, hm_li17, hm_ai17, hm_si17, hm_fi18, hm_sv18, hm_fi19, hm_sv19, hm_fi20, hm_sv20, hm_fi21, hm_sv21, hm_fi22, hm_sv22, hm_fi23, hm_sv23, hm_fi24, hm_sv24, hm_fr25, hm_li25, hm_ai25, hm_si25, hm_fr26, hm_li26, hm_ai26, hm_si26, hm_fr27, hm_li27, hm_ai27, hm_si27, hm_fr28, hm_li28, hm_ai28, hm_si28, hm_fl, hm_sl, hin1, hp, and_self, decide_true, bI_t, n32_10, if_false, gm_lt0, hq, hin2, hr, sX12_lacks y v c hg, bI_0, ← e2, h0, n32_00, Bool.true_eq_false]
        · have hn0 : 0 < n := by
            rcases Nat.eq_zero_or_pos n with e | e
            · exact absurd (by rw [hR.zx, e]; rfl) h0
            · exact e
          obtain ⟨T, hT, rfl⟩ : ∃ T : Nat, T ≤ 60 ∧ p = nI T := ⟨p.toInt.toNat, by omega, i32_nI (by omega)⟩
          have hqb := Int32.toInt_lt q
          obtain ⟨S, hS, rfl⟩ : ∃ S : Nat, S < 2147483648 ∧ q = nI S := ⟨q.toInt.toNat, by omega, i32_nI (by omega)⟩
          generalize hx1 : gm_lp (gm_wst (xw_mb w) (xw_lk w) n) T 0 (S, fun i => !decide (w 21 i = -1), 0, 0) = x
          have hx2 : gm_lp (gm_wst (mw_mb v) (mw_lk v) n) T 0 (S, fun i => !decide (w 21 i = -1), 0, 0) = x := by
            rw [← hx1]
            refine gm_lp_c (fun a j _ _ => ?_)
            unfold gm_wst
            rw [hR.mb (Nat.mod_lt _ hn0) (Nat.mod_lt _ hn0), hR.lk (Nat.mod_lt _ hn0) (Nat.mod_lt _ hn0)]
          obtain ⟨t, ht⟩ := sX10_pass hg z w b hR.rg h7 hR.zx hR.mo hn0 hS hT x hx1
          obtain ⟨t2, ht2⟩ := sX12_wl hg y v c h7 hR.zm hn0 hT r T 0 (g - 1) (gm_cpy (v 11) (v 12) 7) (S, fun i => !decide (w 21 i = -1), 0, 0) (by omega) (by omega) hS (fun k hk => by
            rw [gm_cpy_lt (show k < 7 by omega), ← hR.mt hk, Bool.not_not])
          rw [hx2] at ht2
          refine ⟨if r = 0 then x.2.2.1 else if r = 1 then x.2.2.2 else nI x.1, n, ln, sn, va_up (va_up z 22 x.2.2.1) 23 x.2.2.2, va_up w 16 t, lN x.1, va_up y 18 (nI x.1), va_up v 12 t2, c, ?_, ?_, hR.1, hR.2.1, hR.2.2.1, hR.2.2.2.1, hR.2.2.2.2⟩
          · obtain ⟨f, rfl⟩ : ∃ f, g = f + 1 := ⟨g - 1, by omega⟩
            unfold aX11_winters
            rw [eX11_winters]
            rw [if_neg (by rw [gm_lt1]; omega), if_neg (by rw [gm_gt60]; omega), if_neg (by rw [gm_lt0]; omega), if_neg (by rw [gm_lt0]; omega), if_neg (by rw [gm_gt2]; omega)]
            simp only [ob_s, ob_n, ar_I, ar_L, ar_V, hx_v0, hx_fr0_0, hx_fr0_1, hx_fr0_2, hx_fr0_3, hx_fr0_4, hx_fi0_5, hx_sv0_5, hx_v1, hx_fr1_0, hx_fi1_1, hx_sv1_1, hx_v3, hx_fr3_0, hx_fr3_1, hx_fi3_2, hx_sv3_2, hx_fi3_3, hx_sv3_3, hx_fi3_4, hx_sv3_4, hx_fi3_5, hx_sv3_5, hx_fi3_6, hx_sv3_6, hx_fr3_7, hx_v5, hx_fi5_0, hx_sv5_0, hx_fr5_1, hx_fr5_2, hx_fr5_3, hx_fr5_4, hx_v11, hx_fi11_0, hx_sv11_0, hx_fr11_1, hx_fr11_2, hx_fr11_3, hx_fr11_4, hx_fi11_5, hx_sv11_5, hx_fi11_6, hx_sv11_6, hx_fi11_7, hx_sv11_7, hx_fi11_8, hx_sv11_8, hx_v15, hx_fi15_0, hx_sv15_0, hx_fr15_1, hx_fr15_2, hx_fr15_3, hx_fr15_4, hx_v20, hx_fi20_0, hx_sv20_0, hx_fi20_1, hx_sv20_1, hx_fi20_2, hx_sv20_2, hx_fi20_3, hx_sv20_3, hx_fr20_4, hx_fr20_5, hx_fr20_6, hx_fr20_7, hx_fi20_8, hx_sv20_8, hx_fi20_9, hx_sv20_9, hx_fi20_10, hx_sv20_10, hx_fi20_11, hx_sv20_11, hx_v25, hx_fi25_0, hx_sv25_0, hx_fi25_1, hx_sv25_1, hx_fl, hx_sl, hx_fr25_3, hx_li2, hx_ai2, hx_si2, hx_li6, hx_ai6, hx_si6, hx_li7, hx_ai7, hx_si7, hx_li8, hx_ai8, hx_si8, hx_li9, hx_ai9, hx_si9, hx_li10, hx_ai10, hx_si10, hx_li12, hx_ai12, hx_si12, hx_li13, hx_ai13, hx_si13, hx_li14, hx_ai14, hx_si14, hx_li16, hx_ai16, hx_si16, hx_li17, hx_ai17, hx_si17, hx_li18, hx_ai18, hx_si18, hx_li19, hx_ai19, hx_si19, hx_li21, hx_ai21, hx_si21, hx_li22, hx_ai22, hx_si22, hx_li24, hx_ai24, hx_si24, hx_li26, hx_ai26, hx_si26, hx_li27, hx_ai27, hx_si27, hx_li28, hx_ai28, hx_si28, hx_li29, hx_ai29, hx_si29, hx_li30, hx_ai30, hx_si30, hx_li31, hx_ai31, hx_si31, hx_li32, hx_ai32, hx_si32, hx_li33, hx_ai33, hx_si33, hx_lr4, hx_lr23, hx_sf0, hx_sf1, hx_ss1, hx_sf2, hx_ss2, hx_sf3, hx_ss3, hx_lkli, hx_lksi, sX0_isMissing z w b hg, bI_0, h0, decide_false, if_true, ht, va_l, Nat.reduceEqDiff, reduceIte, lN_i]
            by_cases c0 : r = 0
            · rw [if_pos c0, if_pos c0]
            · rw [if_neg c0, if_neg c0]
              by_cases c1 : r = 1
              · rw [if_pos c1, if_pos c1]
              · rw [if_neg c1, if_neg c1]
          · obtain ⟨f, rfl⟩ : ∃ f, g = f + 1 := ⟨g - 1, by omega⟩
            unfold aX12_winters
            rw [eX12_winters]
            simp only [ob_s, ob_n, ar_I, ar_L, ar_V, hm_vI, hm_fr0, hm_li0, hm_ai0, hm_si0, hm_fi1, hm_sv1, hm_fi2, hm_sv2, hm_fi3, hm_sv3, hm_fi4, hm_sv4, hm_fi5, hm_sv5, hm_fi6, hm_sv6, hm_fi7, hm_sv7, hm_fr8, hm_li8, hm_ai8, hm_si8, hm_fr9, hm_li9, hm_ai9, hm_si9, hm_fr10, hm_li10, hm_ai10, hm_si10, hm_fr11, hm_li11, hm_ai11, hm_si11, hm_fr12, hm_li12, hm_ai12, hm_si12, hm_fr13, hm_li13, hm_ai13, hm_si13, hm_fr14, hm_li14, hm_ai14, hm_si14, hm_fi15, hm_sv15, hm_fr16, hm_li16, hm_ai16, hm_si16, hm_fr17, hm_li17, hm_ai17, hm_si17, hm_fi18, hm_sv18, hm_fi19, hm_sv19, hm_fi20, hm_sv20, hm_fi21, hm_sv21, hm_fi22, hm_sv22, hm_fi23, hm_sv23, hm_fi24, hm_sv24, hm_fr25, hm_li25, hm_ai25, hm_si25, hm_fr26, hm_li26, hm_ai26, hm_si26, hm_fr27, hm_li27, hm_ai27, hm_si27, hm_fr28, hm_li28, hm_ai28, hm_si28, hm_fl, hm_sl, hin1, hp, and_self, decide_true, bI_t, n32_10, if_false, gm_lt0, hq, hin2, hr, sX12_lacks y v c hg, bI_0, ← e2, h0, decide_false, if_true, hm_cp11_12 hg]
            rw [show f + 1 - 1 = f by omega, show nI 0 = 0 from rfl] at ht2
            exact ht2
      · refine gm_same hR (-102) ?_ ?_
        · obtain ⟨f, rfl⟩ : ∃ f, g = f + 1 := ⟨g - 1, by omega⟩
          unfold aX11_winters
          rw [eX11_winters]
          rw [if_neg (by rw [gm_lt1]; omega), if_neg (by rw [gm_gt60]; omega), if_neg (by rw [gm_lt0]; omega)]
          by_cases hr1 : r.toInt < 0
          · rw [if_pos (by rw [gm_lt0]; omega)]
          · rw [if_neg (by rw [gm_lt0]; omega), if_pos (by rw [gm_gt2]; omega)]
        · obtain ⟨f, rfl⟩ : ∃ f, g = f + 1 := ⟨g - 1, by omega⟩
          unfold aX12_winters
          rw [eX12_winters]
          simp only [ob_s, ob_n, ar_I, ar_L, ar_V, hin1, hp, and_self, decide_true, bI_t, n32_10, if_false, gm_lt0, hq, hin2, hr, decide_false, bI_f, n32_00, if_true]
  · refine gm_same hR (-102) ?_ ?_
    · obtain ⟨f, rfl⟩ : ∃ f, g = f + 1 := ⟨g - 1, by omega⟩
      unfold aX11_winters
      rw [eX11_winters]
      by_cases hp1 : p.toInt < 1
      · rw [if_pos (by rw [gm_lt1]; omega)]
      · rw [if_neg (by rw [gm_lt1]; omega), if_pos (by rw [gm_gt60]; omega)]
    · obtain ⟨f, rfl⟩ : ∃ f, g = f + 1 := ⟨g - 1, by omega⟩
      unfold aX12_winters
      rw [eX12_winters]
      simp only [ob_s, ob_n, ar_I, ar_L, ar_V, hin1, hp, decide_false, bI_f, n32_00, if_true]
end WINP
