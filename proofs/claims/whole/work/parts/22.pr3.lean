/-! pairs: shrink, carry, part, bring, as, see -/
section RD
variable {n : Nat} {zx zm : Int32} {kd hd sz st mt kd2 hd2 sz2 st2 mt2 : Nat → Int32}
theorem gm_Rd_sz (h : gm_Rd n zx zm kd hd sz st mt kd2 hd2 sz2 st2 mt2) (i : Nat) {p : Int32} (hp : 0 ≤ p.toInt ∧ p.toInt ≤ 9) : gm_Rd n zx zm kd hd (upd sz i p) st mt kd2 hd2 (upd sz2 i p) st2 mt2 := by
  obtain ⟨h1, h2, h3, h4, h5, h6⟩ := h
  refine ⟨h1, h2, h3, fun j hj => ?_, fun j hj => ?_, h6⟩
  · by_cases e : j = i
    · rw [e, upd_self]; exact hp
    · rw [upd_ne _ _ e]; exact h4 j hj
  · obtain ⟨a1, a2, a3, a4⟩ := h5 j hj
    refine ⟨a1, a2, ?_, a4⟩
    by_cases e : j = i
    · rw [e, upd_self, upd_self]
    · rw [upd_ne _ _ e, upd_ne _ _ e]; exact a3
theorem gm_Rd_st (h : gm_Rd n zx zm kd hd sz st mt kd2 hd2 sz2 st2 mt2) (i : Nat) {p : Int32} (hp : 0 ≤ p.toInt ∧ p.toInt ≤ 5) : gm_Rd n zx zm kd hd sz (upd st i p) mt kd2 hd2 sz2 (upd st2 i p) mt2 := by
  obtain ⟨h1, h2, h3, h4, h5, h6⟩ := h
  refine ⟨h1, h2, h3, h4, fun j hj => ?_, h6⟩
  obtain ⟨a1, a2, a3, a4, a5, a6, a7, a8⟩ := h5 j hj
  refine ⟨a1, a2, a3, ?_, a5, a6, a7, ?_⟩
  · by_cases e : j = i
    · rw [e, upd_self, upd_self]
    · rw [upd_ne _ _ e, upd_ne _ _ e]; exact a4
  · by_cases e : j = i
    · rw [e, upd_self]; exact hp
    · rw [upd_ne _ _ e]; exact a8
theorem gm_Rd_mt (h : gm_Rd n zx zm kd hd sz st mt kd2 hd2 sz2 st2 mt2) {m m2 : Nat → Int32} (e : ∀ i, i < n → m i = m2 i) (hM : gm_Mt n m) : gm_Rd n zx zm kd hd sz st m kd2 hd2 sz2 st2 m2 := by
  obtain ⟨h1, h2, h3, h4, h5, -⟩ := h
  refine ⟨h1, h2, h3, h4, fun j hj => ?_, hM⟩
  obtain ⟨a1, a2, a3, a4, a5, a6⟩ := h5 j hj
  exact ⟨a1, a2, a3, a4, e j hj, a6⟩
theorem gm_nI_m1 {j : Nat} (hj : j < 1000) : ¬ nI j = -1 := by rw [gm_ok_ne hj]; exact fun z => z
theorem gm_Mt_pair (h : gm_Mt n mt) (hn : n ≤ 7) {i j : Nat} (hi : i < n) (hj : j < n) (hij : ¬ i = j) (h1 : mt i = -1) (h2 : mt j = -1) : gm_Mt n (upd (upd mt i (nI j)) j (nI i)) := by
  intro k hk
  by_cases e1 : k = j
  · subst e1
    exact Or.inr ⟨i, hi, hij, upd_self _ _ _, by rw [upd_ne _ _ hij, upd_self]⟩
  · rw [upd_ne _ _ e1]
    by_cases e2 : k = i
    · subst e2
      exact Or.inr ⟨j, hj, fun z => e1 z.symm, upd_self _ _ _, upd_self _ _ _⟩
    · rw [upd_ne _ _ e2]
      rcases h k hk with q | ⟨l, l1, l2, l3, l4⟩
      · exact Or.inl q
      · refine Or.inr ⟨l, l1, l2, l3, ?_⟩
        have n1 : ¬ l = j := fun z => by rw [z, h2] at l4; exact gm_nI_m1 (by omega) l4.symm
        have n2 : ¬ l = i := fun z => by rw [z, h1] at l4; exact gm_nI_m1 (by omega) l4.symm
        rw [upd_ne _ _ n1, upd_ne _ _ n2]
        exact l4
theorem gm_Mt_part (h : gm_Mt n mt) (hn : n ≤ 7) {i j : Nat} (hi : i < n) (hj : j < n) (h1 : mt i = nI j) (h2 : mt j = nI i) : gm_Mt n (upd (upd mt j (-1)) i (-1)) := by
  intro k hk
  by_cases e1 : k = i
  · rw [e1, upd_self]; exact Or.inl rfl
  · rw [upd_ne _ _ e1]
    by_cases e2 : k = j
    · rw [e2, upd_self]; exact Or.inl rfl
    · rw [upd_ne _ _ e2]
      rcases h k hk with q | ⟨l, l1, l2, l3, l4⟩
      · exact Or.inl q
      · refine Or.inr ⟨l, l1, l2, l3, ?_⟩
        have n1 : ¬ l = i := fun z => by
          rw [z, h1, nI_eqi (by omega) (by omega)] at l4; exact e2 l4.symm
        have n2 : ¬ l = j := fun z => by
          rw [z, h2, nI_eqi (by omega) (by omega)] at l4; exact e1 l4.symm
        rw [upd_ne _ _ n1, upd_ne _ _ n2]
        exact l4
end RD
section PR3
variable {g : Nat}
theorem gp_shrink (hg : 4000 ≤ g) (p q : Int32) : gm_Pair (aX11_shrink g) (aX12_shrink g) [.ref 0, .int p, .int q] := by
  intro K n ln sn z w b y v c hR
  have h7 := hR.n7
  have hin : aX12_in g [.long q.toInt64, .long 0, .long 9] (hm y v c) = some (some (.int (bI (decide (0 ≤ q.toInt ∧ q.toInt ≤ 9)))), hm y v c) := sX12_in2 hg q 0 9 (hm y v c)
  have s0 : (q < 0) = (q.toInt < 0) := propext (i32_lt q 0)
  have s10 : (q < 10) = (q.toInt < 10) := propext (i32_lt q 10)
  cases e : gm_is n p with
  | false =>
    refine gm_same hR (-101) ?_ ?_
    · obtain ⟨f, rfl⟩ : ∃ f, g = f + 1 := ⟨g - 1, by omega⟩
      unfold aX11_shrink
      rw [eX11_shrink]
      simp only [Option.bind_some, Option.bind_none, ah_rI_s, ah_rL_s, ah_rV_s, hx_v0, hx_fr0_0, hx_fr0_1, hx_fr0_2, hx_fr0_3, hx_fr0_4, hx_fi0_5, hx_sv0_5, hx_v1, hx_fr1_0, hx_fi1_1, hx_sv1_1, hx_v3, hx_fr3_0, hx_fr3_1, hx_fi3_2, hx_sv3_2, hx_fi3_3, hx_sv3_3, hx_fi3_4, hx_sv3_4, hx_fi3_5, hx_sv3_5, hx_fi3_6, hx_sv3_6, hx_fr3_7, hx_v5, hx_fi5_0, hx_sv5_0, hx_fr5_1, hx_fr5_2, hx_fr5_3, hx_fr5_4, hx_v11, hx_fi11_0, hx_sv11_0, hx_fr11_1, hx_fr11_2, hx_fr11_3, hx_fr11_4, hx_fi11_5, hx_sv11_5, hx_fi11_6, hx_sv11_6, hx_fi11_7, hx_sv11_7, hx_fi11_8, hx_sv11_8, hx_v15, hx_fi15_0, hx_sv15_0, hx_fr15_1, hx_fr15_2, hx_fr15_3, hx_fr15_4, hx_v20, hx_fi20_0, hx_sv20_0, hx_fi20_1, hx_sv20_1, hx_fi20_2, hx_sv20_2, hx_fi20_3, hx_sv20_3, hx_fr20_4, hx_fr20_5, hx_fr20_6, hx_fr20_7, hx_fi20_8, hx_sv20_8, hx_fi20_9, hx_sv20_9, hx_fi20_10, hx_sv20_10, hx_fi20_11, hx_sv20_11, hx_v25, hx_fi25_0, hx_sv25_0, hx_fi25_1, hx_sv25_1, hx_fl, hx_sl, hx_fr25_3, hx_li2, hx_ai2, hx_si2, hx_li6, hx_ai6, hx_si6, hx_li7, hx_ai7, hx_si7, hx_li8, hx_ai8, hx_si8, hx_li9, hx_ai9, hx_si9, hx_li10, hx_ai10, hx_si10, hx_li12, hx_ai12, hx_si12, hx_li13, hx_ai13, hx_si13, hx_li14, hx_ai14, hx_si14, hx_li16, hx_ai16, hx_si16, hx_li17, hx_ai17, hx_si17, hx_li18, hx_ai18, hx_si18, hx_li19, hx_ai19, hx_si19, hx_li21, hx_ai21, hx_si21, hx_li22, hx_ai22, hx_si22, hx_li24, hx_ai24, hx_si24, hx_li26, hx_ai26, hx_si26, hx_li27, hx_ai27, hx_si27, hx_li28, hx_ai28, hx_si28, hx_li29, hx_ai29, hx_si29, hx_li30, hx_ai30, hx_si30, hx_li31, hx_ai31, hx_si31, hx_li32, hx_ai32, hx_si32, hx_li33, hx_ai33, hx_si33, hx_lr4, hx_lr23, hx_sf0, hx_sf1, hx_ss1, hx_sf2, hx_ss2, hx_sf3, hx_ss3, hx_lkli, hx_lksi, sX0_has z w b hg h7 hR.zx, bI_0, e, if_true]
    · obtain ⟨f, rfl⟩ : ∃ f, g = f + 1 := ⟨g - 1, by omega⟩
      unfold aX12_shrink
      rw [eX12_shrink]
      simp only [Option.bind_some, Option.bind_none, ah_rI_s, ah_rL_s, ah_rV_s, hm_vI, hm_fr0, hm_li0, hm_ai0, hm_si0, hm_fi1, hm_sv1, hm_fi2, hm_sv2, hm_fi3, hm_sv3, hm_fi4, hm_sv4, hm_fi5, hm_sv5, hm_fi6, hm_sv6, hm_fi7, hm_sv7, hm_fr8, hm_li8, hm_ai8, hm_si8, hm_fr9, hm_li9, hm_ai9, hm_si9, hm_fr10, hm_li10, hm_ai10, hm_si10, hm_fr11, hm_li11, hm_ai11, hm_si11, hm_fr12, hm_li12, hm_ai12, hm_si12, hm_fr13, hm_li13, hm_ai13, hm_si13, hm_fr14, hm_li14, hm_ai14, hm_si14, hm_fi15, hm_sv15, hm_fr16, hm_li16, hm_ai16, hm_si16, hm_fr17, hm_li17, hm_ai17, hm_si17, hm_fi18, hm_sv18, hm_fi19, hm_sv19, hm_fi20, hm_sv20, hm_fi21, hm_sv21, hm_fi22, hm_sv22, hm_fi23, hm_sv23, hm_fi24, hm_sv24, hm_fr25, hm_li25, hm_ai25, hm_si25, hm_fr26, hm_li26, hm_ai26, hm_si26, hm_fr27, hm_li27, hm_ai27, hm_si27, hm_fr28, hm_li28, hm_ai28, hm_si28, hm_fl, hm_sl, sX12_isSingle y v c hg h7 hR.zm, bI_0, e, if_true]
  | true =>
    obtain ⟨i, hi, rfl⟩ := gm_is_i e
    have i7 : i < 7 := by omega
    have m1 : ah_rd (v 11) 7 (nI i) = some (v 11 i) := ah_rdN i7 (by decide)
    have m2 : ah_rd (v 9) 7 (nI i) = some (v 9 i) := ah_rdN i7 (by decide)
    by_cases hq : 0 ≤ q.toInt ∧ q.toInt ≤ 9
    · by_cases hp : w 21 i = -1
      · refine ⟨w 19 i, n, ln, sn, z, va_up w 19 (upd (w 19) i q), b, y, va_up v 9 (upd (v 9) i q), c, ?_, ?_, hR.1, gm_Rd_sz hR.2.1 i hq, hR.2.2.1, hR.2.2.2.1, hR.2.2.2.2⟩
        · obtain ⟨f, rfl⟩ : ∃ f, g = f + 1 := ⟨g - 1, by omega⟩
          unfold aX11_shrink
          rw [eX11_shrink]
          simp only [Option.bind_some, Option.bind_none, ah_rI_s, ah_rL_s, ah_rV_s, hx_v0, hx_fr0_0, hx_fr0_1, hx_fr0_2, hx_fr0_3, hx_fr0_4, hx_fi0_5, hx_sv0_5, hx_v1, hx_fr1_0, hx_fi1_1, hx_sv1_1, hx_v3, hx_fr3_0, hx_fr3_1, hx_fi3_2, hx_sv3_2, hx_fi3_3, hx_sv3_3, hx_fi3_4, hx_sv3_4, hx_fi3_5, hx_sv3_5, hx_fi3_6, hx_sv3_6, hx_fr3_7, hx_v5, hx_fi5_0, hx_sv5_0, hx_fr5_1, hx_fr5_2, hx_fr5_3, hx_fr5_4, hx_v11, hx_fi11_0, hx_sv11_0, hx_fr11_1, hx_fr11_2, hx_fr11_3, hx_fr11_4, hx_fi11_5, hx_sv11_5, hx_fi11_6, hx_sv11_6, hx_fi11_7, hx_sv11_7, hx_fi11_8, hx_sv11_8, hx_v15, hx_fi15_0, hx_sv15_0, hx_fr15_1, hx_fr15_2, hx_fr15_3, hx_fr15_4, hx_v20, hx_fi20_0, hx_sv20_0, hx_fi20_1, hx_sv20_1, hx_fi20_2, hx_sv20_2, hx_fi20_3, hx_sv20_3, hx_fr20_4, hx_fr20_5, hx_fr20_6, hx_fr20_7, hx_fi20_8, hx_sv20_8, hx_fi20_9, hx_sv20_9, hx_fi20_10, hx_sv20_10, hx_fi20_11, hx_sv20_11, hx_v25, hx_fi25_0, hx_sv25_0, hx_fi25_1, hx_sv25_1, hx_fl, hx_sl, hx_fr25_3, hx_li2, hx_ai2, hx_si2, hx_li6, hx_ai6, hx_si6, hx_li7, hx_ai7, hx_si7, hx_li8, hx_ai8, hx_si8, hx_li9, hx_ai9, hx_si9, hx_li10, hx_ai10, hx_si10, hx_li12, hx_ai12, hx_si12, hx_li13, hx_ai13, hx_si13, hx_li14, hx_ai14, hx_si14, hx_li16, hx_ai16, hx_si16, hx_li17, hx_ai17, hx_si17, hx_li18, hx_ai18, hx_si18, hx_li19, hx_ai19, hx_si19, hx_li21, hx_ai21, hx_si21, hx_li22, hx_ai22, hx_si22, hx_li24, hx_ai24, hx_si24, hx_li26, hx_ai26, hx_si26, hx_li27, hx_ai27, hx_si27, hx_li28, hx_ai28, hx_si28, hx_li29, hx_ai29, hx_si29, hx_li30, hx_ai30, hx_si30, hx_li31, hx_ai31, hx_si31, hx_li32, hx_ai32, hx_si32, hx_li33, hx_ai33, hx_si33, hx_lr4, hx_lr23, hx_sf0, hx_sf1, hx_ss1, hx_sf2, hx_ss2, hx_sf3, hx_ss3, hx_lkli, hx_lksi, i7, sX0_has z w b hg h7 hR.zx, bI_0, e, Bool.true_eq_false, if_false, s0, s10]
          rw [if_neg (by omega), if_pos (by omega)]
          simp only [Option.bind_some, Option.bind_none, ah_rI_s, ah_rL_s, ah_rV_s, hx_v0, hx_fr0_0, hx_fr0_1, hx_fr0_2, hx_fr0_3, hx_fr0_4, hx_fi0_5, hx_sv0_5, hx_v1, hx_fr1_0, hx_fi1_1, hx_sv1_1, hx_v3, hx_fr3_0, hx_fr3_1, hx_fi3_2, hx_sv3_2, hx_fi3_3, hx_sv3_3, hx_fi3_4, hx_sv3_4, hx_fi3_5, hx_sv3_5, hx_fi3_6, hx_sv3_6, hx_fr3_7, hx_v5, hx_fi5_0, hx_sv5_0, hx_fr5_1, hx_fr5_2, hx_fr5_3, hx_fr5_4, hx_v11, hx_fi11_0, hx_sv11_0, hx_fr11_1, hx_fr11_2, hx_fr11_3, hx_fr11_4, hx_fi11_5, hx_sv11_5, hx_fi11_6, hx_sv11_6, hx_fi11_7, hx_sv11_7, hx_fi11_8, hx_sv11_8, hx_v15, hx_fi15_0, hx_sv15_0, hx_fr15_1, hx_fr15_2, hx_fr15_3, hx_fr15_4, hx_v20, hx_fi20_0, hx_sv20_0, hx_fi20_1, hx_sv20_1, hx_fi20_2, hx_sv20_2, hx_fi20_3, hx_sv20_3, hx_fr20_4, hx_fr20_5, hx_fr20_6, hx_fr20_7, hx_fi20_8, hx_sv20_8, hx_fi20_9, hx_sv20_9, hx_fi20_10, hx_sv20_10, hx_fi20_11, hx_sv20_11, hx_v25, hx_fi25_0, hx_sv25_0, hx_fi25_1, hx_sv25_1, hx_fl, hx_sl, hx_fr25_3, hx_li2, hx_ai2, hx_si2, hx_li6, hx_ai6, hx_si6, hx_li7, hx_ai7, hx_si7, hx_li8, hx_ai8, hx_si8, hx_li9, hx_ai9, hx_si9, hx_li10, hx_ai10, hx_si10, hx_li12, hx_ai12, hx_si12, hx_li13, hx_ai13, hx_si13, hx_li14, hx_ai14, hx_si14, hx_li16, hx_ai16, hx_si16, hx_li17, hx_ai17, hx_si17, hx_li18, hx_ai18, hx_si18, hx_li19, hx_ai19, hx_si19, hx_li21, hx_ai21, hx_si21, hx_li22, hx_ai22, hx_si22, hx_li24, hx_ai24, hx_si24, hx_li26, hx_ai26, hx_si26, hx_li27, hx_ai27, hx_si27, hx_li28, hx_ai28, hx_si28, hx_li29, hx_ai29, hx_si29, hx_li30, hx_ai30, hx_si30, hx_li31, hx_ai31, hx_si31, hx_li32, hx_ai32, hx_si32, hx_li33, hx_ai33, hx_si33, hx_lr4, hx_lr23, hx_sf0, hx_sf1, hx_ss1, hx_sf2, hx_ss2, hx_sf3, hx_ss3, hx_lkli, hx_lksi, i7, sX0_isPaired z w b hg h7 hR.zx hR.mo i hi, bI_0, hp, decide_true, Bool.not_true, if_true]
        · rw [(hR.sg hi).2.2.1]
          obtain ⟨f, rfl⟩ : ∃ f, g = f + 1 := ⟨g - 1, by omega⟩
          unfold aX12_shrink
          rw [eX12_shrink]
          simp only [Option.bind_some, Option.bind_none, ah_rI_s, ah_rL_s, ah_rV_s, hm_vI, hm_fr0, hm_li0, hm_ai0, hm_si0, hm_fi1, hm_sv1, hm_fi2, hm_sv2, hm_fi3, hm_sv3, hm_fi4, hm_sv4, hm_fi5, hm_sv5, hm_fi6, hm_sv6, hm_fi7, hm_sv7, hm_fr8, hm_li8, hm_ai8, hm_si8, hm_fr9, hm_li9, hm_ai9, hm_si9, hm_fr10, hm_li10, hm_ai10, hm_si10, hm_fr11, hm_li11, hm_ai11, hm_si11, hm_fr12, hm_li12, hm_ai12, hm_si12, hm_fr13, hm_li13, hm_ai13, hm_si13, hm_fr14, hm_li14, hm_ai14, hm_si14, hm_fi15, hm_sv15, hm_fr16, hm_li16, hm_ai16, hm_si16, hm_fr17, hm_li17, hm_ai17, hm_si17, hm_fi18, hm_sv18, hm_fi19, hm_sv19, hm_fi20, hm_sv20, hm_fi21, hm_sv21, hm_fi22, hm_sv22, hm_fi23, hm_sv23, hm_fi24, hm_sv24, hm_fr25, hm_li25, hm_ai25, hm_si25, hm_fr26, hm_li26, hm_ai26, hm_si26, hm_fr27, hm_li27, hm_ai27, hm_si27, hm_fr28, hm_li28, hm_ai28, hm_si28, hm_fl, hm_sl, i7, sX12_isSingle y v c hg h7 hR.zm, bI_0, e, Bool.true_eq_false, if_false, hin, hq, and_self, decide_true, m1, m2, ← hR.mt hi, hp, if_true]
      · refine gm_same hR (-103) ?_ ?_
        · obtain ⟨f, rfl⟩ : ∃ f, g = f + 1 := ⟨g - 1, by omega⟩
          unfold aX11_shrink
          rw [eX11_shrink]
          simp only [Option.bind_some, Option.bind_none, ah_rI_s, ah_rL_s, ah_rV_s, hx_v0, hx_fr0_0, hx_fr0_1, hx_fr0_2, hx_fr0_3, hx_fr0_4, hx_fi0_5, hx_sv0_5, hx_v1, hx_fr1_0, hx_fi1_1, hx_sv1_1, hx_v3, hx_fr3_0, hx_fr3_1, hx_fi3_2, hx_sv3_2, hx_fi3_3, hx_sv3_3, hx_fi3_4, hx_sv3_4, hx_fi3_5, hx_sv3_5, hx_fi3_6, hx_sv3_6, hx_fr3_7, hx_v5, hx_fi5_0, hx_sv5_0, hx_fr5_1, hx_fr5_2, hx_fr5_3, hx_fr5_4, hx_v11, hx_fi11_0, hx_sv11_0, hx_fr11_1, hx_fr11_2, hx_fr11_3, hx_fr11_4, hx_fi11_5, hx_sv11_5, hx_fi11_6, hx_sv11_6, hx_fi11_7, hx_sv11_7, hx_fi11_8, hx_sv11_8, hx_v15, hx_fi15_0, hx_sv15_0, hx_fr15_1, hx_fr15_2, hx_fr15_3, hx_fr15_4, hx_v20, hx_fi20_0, hx_sv20_0, hx_fi20_1, hx_sv20_1, hx_fi20_2, hx_sv20_2, hx_fi20_3, hx_sv20_3, hx_fr20_4, hx_fr20_5, hx_fr20_6, hx_fr20_7, hx_fi20_8, hx_sv20_8, hx_fi20_9, hx_sv20_9, hx_fi20_10, hx_sv20_10, hx_fi20_11, hx_sv20_11, hx_v25, hx_fi25_0, hx_sv25_0, hx_fi25_1, hx_sv25_1, hx_fl, hx_sl, hx_fr25_3, hx_li2, hx_ai2, hx_si2, hx_li6, hx_ai6, hx_si6, hx_li7, hx_ai7, hx_si7, hx_li8, hx_ai8, hx_si8, hx_li9, hx_ai9, hx_si9, hx_li10, hx_ai10, hx_si10, hx_li12, hx_ai12, hx_si12, hx_li13, hx_ai13, hx_si13, hx_li14, hx_ai14, hx_si14, hx_li16, hx_ai16, hx_si16, hx_li17, hx_ai17, hx_si17, hx_li18, hx_ai18, hx_si18, hx_li19, hx_ai19, hx_si19, hx_li21, hx_ai21, hx_si21, hx_li22, hx_ai22, hx_si22, hx_li24, hx_ai24, hx_si24, hx_li26, hx_ai26, hx_si26, hx_li27, hx_ai27, hx_si27, hx_li28, hx_ai28, hx_si28, hx_li29, hx_ai29, hx_si29, hx_li30, hx_ai30, hx_si30, hx_li31, hx_ai31, hx_si31, hx_li32, hx_ai32, hx_si32, hx_li33, hx_ai33, hx_si33, hx_lr4, hx_lr23, hx_sf0, hx_sf1, hx_ss1, hx_sf2, hx_ss2, hx_sf3, hx_ss3, hx_lkli, hx_lksi, i7, sX0_has z w b hg h7 hR.zx, bI_0, e, Bool.true_eq_false, if_false, s0, s10]
          rw [if_neg (by omega), if_pos (by omega)]
          simp only [Option.bind_some, Option.bind_none, ah_rI_s, ah_rL_s, ah_rV_s, hx_v0, hx_fr0_0, hx_fr0_1, hx_fr0_2, hx_fr0_3, hx_fr0_4, hx_fi0_5, hx_sv0_5, hx_v1, hx_fr1_0, hx_fi1_1, hx_sv1_1, hx_v3, hx_fr3_0, hx_fr3_1, hx_fi3_2, hx_sv3_2, hx_fi3_3, hx_sv3_3, hx_fi3_4, hx_sv3_4, hx_fi3_5, hx_sv3_5, hx_fi3_6, hx_sv3_6, hx_fr3_7, hx_v5, hx_fi5_0, hx_sv5_0, hx_fr5_1, hx_fr5_2, hx_fr5_3, hx_fr5_4, hx_v11, hx_fi11_0, hx_sv11_0, hx_fr11_1, hx_fr11_2, hx_fr11_3, hx_fr11_4, hx_fi11_5, hx_sv11_5, hx_fi11_6, hx_sv11_6, hx_fi11_7, hx_sv11_7, hx_fi11_8, hx_sv11_8, hx_v15, hx_fi15_0, hx_sv15_0, hx_fr15_1, hx_fr15_2, hx_fr15_3, hx_fr15_4, hx_v20, hx_fi20_0, hx_sv20_0, hx_fi20_1, hx_sv20_1, hx_fi20_2, hx_sv20_2, hx_fi20_3, hx_sv20_3, hx_fr20_4, hx_fr20_5, hx_fr20_6, hx_fr20_7, hx_fi20_8, hx_sv20_8, hx_fi20_9, hx_sv20_9, hx_fi20_10, hx_sv20_10, hx_fi20_11, hx_sv20_11, hx_v25, hx_fi25_0, hx_sv25_0, hx_fi25_1, hx_sv25_1, hx_fl, hx_sl, hx_fr25_3, hx_li2, hx_ai2, hx_si2, hx_li6, hx_ai6, hx_si6, hx_li7, hx_ai7, hx_si7, hx_li8, hx_ai8, hx_si8, hx_li9, hx_ai9, hx_si9, hx_li10, hx_ai10, hx_si10, hx_li12, hx_ai12, hx_si12, hx_li13, hx_ai13, hx_si13, hx_li14, hx_ai14, hx_si14, hx_li16, hx_ai16, hx_si16, hx_li17, hx_ai17, hx_si17, hx_li18, hx_ai18, hx_si18, hx_li19, hx_ai19, hx_si19, hx_li21, hx_ai21, hx_si21, hx_li22, hx_ai22, hx_si22, hx_li24, hx_ai24, hx_si24, hx_li26, hx_ai26, hx_si26, hx_li27, hx_ai27, hx_si27, hx_li28, hx_ai28, hx_si28, hx_li29, hx_ai29, hx_si29, hx_li30, hx_ai30, hx_si30, hx_li31, hx_ai31, hx_si31, hx_li32, hx_ai32, hx_si32, hx_li33, hx_ai33, hx_si33, hx_lr4, hx_lr23, hx_sf0, hx_sf1, hx_ss1, hx_sf2, hx_ss2, hx_sf3, hx_ss3, hx_lkli, hx_lksi, sX0_isPaired z w b hg h7 hR.zx hR.mo i hi, bI_0, hp, decide_false, Bool.not_false, Bool.true_eq_false, if_false]
        · obtain ⟨f, rfl⟩ : ∃ f, g = f + 1 := ⟨g - 1, by omega⟩
          unfold aX12_shrink
          rw [eX12_shrink]
          simp only [Option.bind_some, Option.bind_none, ah_rI_s, ah_rL_s, ah_rV_s, hm_vI, hm_fr0, hm_li0, hm_ai0, hm_si0, hm_fi1, hm_sv1, hm_fi2, hm_sv2, hm_fi3, hm_sv3, hm_fi4, hm_sv4, hm_fi5, hm_sv5, hm_fi6, hm_sv6, hm_fi7, hm_sv7, hm_fr8, hm_li8, hm_ai8, hm_si8, hm_fr9, hm_li9, hm_ai9, hm_si9, hm_fr10, hm_li10, hm_ai10, hm_si10, hm_fr11, hm_li11, hm_ai11, hm_si11, hm_fr12, hm_li12, hm_ai12, hm_si12, hm_fr13, hm_li13, hm_ai13, hm_si13, hm_fr14, hm_li14, hm_ai14, hm_si14, hm_fi15, hm_sv15, hm_fr16, hm_li16, hm_ai16, hm_si16, hm_fr17, hm_li17, hm_ai17, hm_si17, hm_fi18, hm_sv18, hm_fi19, hm_sv19, hm_fi20, hm_sv20, hm_fi21, hm_sv21, hm_fi22, hm_sv22, hm_fi23, hm_sv23, hm_fi24, hm_sv24, hm_fr25, hm_li25, hm_ai25, hm_si25, hm_fr26, hm_li26, hm_ai26, hm_si26, hm_fr27, hm_li27, hm_ai27, hm_si27, hm_fr28, hm_li28, hm_ai28, hm_si28, hm_fl, hm_sl, sX12_isSingle y v c hg h7 hR.zm, bI_0, e, Bool.true_eq_false, if_false, hin, hq, and_self, decide_true, m1, ← hR.mt hi, hp]
    · refine gm_same hR (-102) ?_ ?_
      · obtain ⟨f, rfl⟩ : ∃ f, g = f + 1 := ⟨g - 1, by omega⟩
        unfold aX11_shrink
        rw [eX11_shrink]
        simp only [Option.bind_some, Option.bind_none, ah_rI_s, ah_rL_s, ah_rV_s, hx_v0, hx_fr0_0, hx_fr0_1, hx_fr0_2, hx_fr0_3, hx_fr0_4, hx_fi0_5, hx_sv0_5, hx_v1, hx_fr1_0, hx_fi1_1, hx_sv1_1, hx_v3, hx_fr3_0, hx_fr3_1, hx_fi3_2, hx_sv3_2, hx_fi3_3, hx_sv3_3, hx_fi3_4, hx_sv3_4, hx_fi3_5, hx_sv3_5, hx_fi3_6, hx_sv3_6, hx_fr3_7, hx_v5, hx_fi5_0, hx_sv5_0, hx_fr5_1, hx_fr5_2, hx_fr5_3, hx_fr5_4, hx_v11, hx_fi11_0, hx_sv11_0, hx_fr11_1, hx_fr11_2, hx_fr11_3, hx_fr11_4, hx_fi11_5, hx_sv11_5, hx_fi11_6, hx_sv11_6, hx_fi11_7, hx_sv11_7, hx_fi11_8, hx_sv11_8, hx_v15, hx_fi15_0, hx_sv15_0, hx_fr15_1, hx_fr15_2, hx_fr15_3, hx_fr15_4, hx_v20, hx_fi20_0, hx_sv20_0, hx_fi20_1, hx_sv20_1, hx_fi20_2, hx_sv20_2, hx_fi20_3, hx_sv20_3, hx_fr20_4, hx_fr20_5, hx_fr20_6, hx_fr20_7, hx_fi20_8, hx_sv20_8, hx_fi20_9, hx_sv20_9, hx_fi20_10, hx_sv20_10, hx_fi20_11, hx_sv20_11, hx_v25, hx_fi25_0, hx_sv25_0, hx_fi25_1, hx_sv25_1, hx_fl, hx_sl, hx_fr25_3, hx_li2, hx_ai2, hx_si2, hx_li6, hx_ai6, hx_si6, hx_li7, hx_ai7, hx_si7, hx_li8, hx_ai8, hx_si8, hx_li9, hx_ai9, hx_si9, hx_li10, hx_ai10, hx_si10, hx_li12, hx_ai12, hx_si12, hx_li13, hx_ai13, hx_si13, hx_li14, hx_ai14, hx_si14, hx_li16, hx_ai16, hx_si16, hx_li17, hx_ai17, hx_si17, hx_li18, hx_ai18, hx_si18, hx_li19, hx_ai19, hx_si19, hx_li21, hx_ai21, hx_si21, hx_li22, hx_ai22, hx_si22, hx_li24, hx_ai24, hx_si24, hx_li26, hx_ai26, hx_si26, hx_li27, hx_ai27, hx_si27, hx_li28, hx_ai28, hx_si28, hx_li29, hx_ai29, hx_si29, hx_li30, hx_ai30, hx_si30, hx_li31, hx_ai31, hx_si31, hx_li32, hx_ai32, hx_si32, hx_li33, hx_ai33, hx_si33, hx_lr4, hx_lr23, hx_sf0, hx_sf1, hx_ss1, hx_sf2, hx_ss2, hx_sf3, hx_ss3, hx_lkli, hx_lksi, sX0_has z w b hg h7 hR.zx, bI_0, e, Bool.true_eq_false, if_false, s0, s10]
        by_cases d : q.toInt < 0
        · rw [if_pos d]
        · rw [if_neg d, if_neg (by omega)]
      · obtain ⟨f, rfl⟩ : ∃ f, g = f + 1 := ⟨g - 1, by omega⟩
        unfold aX12_shrink
        rw [eX12_shrink]
        simp only [Option.bind_some, Option.bind_none, ah_rI_s, ah_rL_s, ah_rV_s, hm_vI, hm_fr0, hm_li0, hm_ai0, hm_si0, hm_fi1, hm_sv1, hm_fi2, hm_sv2, hm_fi3, hm_sv3, hm_fi4, hm_sv4, hm_fi5, hm_sv5, hm_fi6, hm_sv6, hm_fi7, hm_sv7, hm_fr8, hm_li8, hm_ai8, hm_si8, hm_fr9, hm_li9, hm_ai9, hm_si9, hm_fr10, hm_li10, hm_ai10, hm_si10, hm_fr11, hm_li11, hm_ai11, hm_si11, hm_fr12, hm_li12, hm_ai12, hm_si12, hm_fr13, hm_li13, hm_ai13, hm_si13, hm_fr14, hm_li14, hm_ai14, hm_si14, hm_fi15, hm_sv15, hm_fr16, hm_li16, hm_ai16, hm_si16, hm_fr17, hm_li17, hm_ai17, hm_si17, hm_fi18, hm_sv18, hm_fi19, hm_sv19, hm_fi20, hm_sv20, hm_fi21, hm_sv21, hm_fi22, hm_sv22, hm_fi23, hm_sv23, hm_fi24, hm_sv24, hm_fr25, hm_li25, hm_ai25, hm_si25, hm_fr26, hm_li26, hm_ai26, hm_si26, hm_fr27, hm_li27, hm_ai27, hm_si27, hm_fr28, hm_li28, hm_ai28, hm_si28, hm_fl, hm_sl, sX12_isSingle y v c hg h7 hR.zm, bI_0, e, Bool.true_eq_false, if_false, hin, hq, decide_false, if_true]
theorem sX11_isStation (hg : 4000 ≤ g) (q : Int32) (h : ah_H) : aX11_isStation g [.int q] h = some (some (.int (bI (decide (0 ≤ q.toInt ∧ q.toInt ≤ 5)))), h) := by
  have s0 : (q < 0) = (q.toInt < 0) := propext (i32_lt q 0)
  have s6 : (q < 6) = (q.toInt < 6) := propext (i32_lt q 6)
  obtain ⟨f, rfl⟩ : ∃ f, g = f + 1 := ⟨g - 1, by omega⟩
  unfold aX11_isStation
  rw [eX11_isStation]
  simp only [s0, s6]
  by_cases d1 : q.toInt < 0
  · rw [if_pos d1, decide_eq_false (by omega)]; rfl
  · by_cases d2 : q.toInt < 6
    · rw [if_neg d1, if_pos d2, decide_eq_true (by omega)]; rfl
    · rw [if_neg d1, if_neg d2, decide_eq_false (by omega)]; rfl
theorem gp_carry (hg : 4000 ≤ g) (p q : Int32) : gm_Pair (aX11_carry g) (aX12_carry g) [.ref 0, .int p, .int q] := by
  intro K n ln sn z w b y v c hR
  have h7 := hR.n7
  have hin : aX12_in g [.long q.toInt64, .long 0, .long 5] (hm y v c) = some (some (.int (bI (decide (0 ≤ q.toInt ∧ q.toInt ≤ 5)))), hm y v c) := sX12_in2 hg q 0 5 (hm y v c)
  cases e : gm_is n p with
  | false =>
    refine gm_same hR (-101) ?_ ?_
    · obtain ⟨f, rfl⟩ : ∃ f, g = f + 1 := ⟨g - 1, by omega⟩
      unfold aX11_carry
      rw [eX11_carry]
      simp only [Option.bind_some, Option.bind_none, ah_rI_s, ah_rL_s, ah_rV_s, hx_v0, hx_fr0_0, hx_fr0_1, hx_fr0_2, hx_fr0_3, hx_fr0_4, hx_fi0_5, hx_sv0_5, hx_v1, hx_fr1_0, hx_fi1_1, hx_sv1_1, hx_v3, hx_fr3_0, hx_fr3_1, hx_fi3_2, hx_sv3_2, hx_fi3_3, hx_sv3_3, hx_fi3_4, hx_sv3_4, hx_fi3_5, hx_sv3_5, hx_fi3_6, hx_sv3_6, hx_fr3_7, hx_v5, hx_fi5_0, hx_sv5_0, hx_fr5_1, hx_fr5_2, hx_fr5_3, hx_fr5_4, hx_v11, hx_fi11_0, hx_sv11_0, hx_fr11_1, hx_fr11_2, hx_fr11_3, hx_fr11_4, hx_fi11_5, hx_sv11_5, hx_fi11_6, hx_sv11_6, hx_fi11_7, hx_sv11_7, hx_fi11_8, hx_sv11_8, hx_v15, hx_fi15_0, hx_sv15_0, hx_fr15_1, hx_fr15_2, hx_fr15_3, hx_fr15_4, hx_v20, hx_fi20_0, hx_sv20_0, hx_fi20_1, hx_sv20_1, hx_fi20_2, hx_sv20_2, hx_fi20_3, hx_sv20_3, hx_fr20_4, hx_fr20_5, hx_fr20_6, hx_fr20_7, hx_fi20_8, hx_sv20_8, hx_fi20_9, hx_sv20_9, hx_fi20_10, hx_sv20_10, hx_fi20_11, hx_sv20_11, hx_v25, hx_fi25_0, hx_sv25_0, hx_fi25_1, hx_sv25_1, hx_fl, hx_sl, hx_fr25_3, hx_li2, hx_ai2, hx_si2, hx_li6, hx_ai6, hx_si6, hx_li7, hx_ai7, hx_si7, hx_li8, hx_ai8, hx_si8, hx_li9, hx_ai9, hx_si9, hx_li10, hx_ai10, hx_si10, hx_li12, hx_ai12, hx_si12, hx_li13, hx_ai13, hx_si13, hx_li14, hx_ai14, hx_si14, hx_li16, hx_ai16, hx_si16, hx_li17, hx_ai17, hx_si17, hx_li18, hx_ai18, hx_si18, hx_li19, hx_ai19, hx_si19, hx_li21, hx_ai21, hx_si21, hx_li22, hx_ai22, hx_si22, hx_li24, hx_ai24, hx_si24, hx_li26, hx_ai26, hx_si26, hx_li27, hx_ai27, hx_si27, hx_li28, hx_ai28, hx_si28, hx_li29, hx_ai29, hx_si29, hx_li30, hx_ai30, hx_si30, hx_li31, hx_ai31, hx_si31, hx_li32, hx_ai32, hx_si32, hx_li33, hx_ai33, hx_si33, hx_lr4, hx_lr23, hx_sf0, hx_sf1, hx_ss1, hx_sf2, hx_ss2, hx_sf3, hx_ss3, hx_lkli, hx_lksi, sX0_has z w b hg h7 hR.zx, bI_0, e, if_true]
    · obtain ⟨f, rfl⟩ : ∃ f, g = f + 1 := ⟨g - 1, by omega⟩
      unfold aX12_carry
      rw [eX12_carry]
      simp only [Option.bind_some, Option.bind_none, ah_rI_s, ah_rL_s, ah_rV_s, hm_vI, hm_fr0, hm_li0, hm_ai0, hm_si0, hm_fi1, hm_sv1, hm_fi2, hm_sv2, hm_fi3, hm_sv3, hm_fi4, hm_sv4, hm_fi5, hm_sv5, hm_fi6, hm_sv6, hm_fi7, hm_sv7, hm_fr8, hm_li8, hm_ai8, hm_si8, hm_fr9, hm_li9, hm_ai9, hm_si9, hm_fr10, hm_li10, hm_ai10, hm_si10, hm_fr11, hm_li11, hm_ai11, hm_si11, hm_fr12, hm_li12, hm_ai12, hm_si12, hm_fr13, hm_li13, hm_ai13, hm_si13, hm_fr14, hm_li14, hm_ai14, hm_si14, hm_fi15, hm_sv15, hm_fr16, hm_li16, hm_ai16, hm_si16, hm_fr17, hm_li17, hm_ai17, hm_si17, hm_fi18, hm_sv18, hm_fi19, hm_sv19, hm_fi20, hm_sv20, hm_fi21, hm_sv21, hm_fi22, hm_sv22, hm_fi23, hm_sv23, hm_fi24, hm_sv24, hm_fr25, hm_li25, hm_ai25, hm_si25, hm_fr26, hm_li26, hm_ai26, hm_si26, hm_fr27, hm_li27, hm_ai27, hm_si27, hm_fr28, hm_li28, hm_ai28, hm_si28, hm_fl, hm_sl, sX12_isSingle y v c hg h7 hR.zm, bI_0, e, if_true]
  | true =>
    obtain ⟨i, hi, rfl⟩ := gm_is_i e
    have i7 : i < 7 := by omega
    have m1 : ah_rd (v 11) 7 (nI i) = some (v 11 i) := ah_rdN i7 (by decide)
    have m2 : ah_rd (v 10) 7 (nI i) = some (v 10 i) := ah_rdN i7 (by decide)
    by_cases hq : 0 ≤ q.toInt ∧ q.toInt ≤ 5
    · by_cases hp : w 21 i = -1
      · have hs := (hR.sg hi).2.2.2.2.2.2.2
        refine ⟨gm_far (w 20 i) q, n, ln, sn, va_up z 3 (z 3 + gm_far (w 20 i) q), va_up w 20 (upd (w 20) i q), b, va_up y 3 (y 3 + gm_far (w 20 i) q), va_up v 10 (upd (v 10) i q), c, ?_, ?_, hR.1, gm_Rd_st hR.2.1 i hq, hR.2.2.1, ⟨?_, hR.2.2.2.1.2⟩, hR.2.2.2.2⟩
        · have ec : aX0_carryTo g [.ref 3, .int (nI i), .int q] (hx z w b) = some (some (.int (gm_far (w 20 i) q)), hx (va_up z 3 (z 3 + gm_far (w 20 i) q)) (va_up w 20 (upd (w 20) i q)) b) := by
            obtain ⟨f, rfl⟩ : ∃ f, g = f + 1 := ⟨g - 1, by omega⟩
            unfold aX0_carryTo
            rw [eX0_carryTo]
            simp only [Option.bind_some, Option.bind_none, ah_rI_s, ah_rL_s, ah_rV_s, hx_v0, hx_fr0_0, hx_fr0_1, hx_fr0_2, hx_fr0_3, hx_fr0_4, hx_fi0_5, hx_sv0_5, hx_v1, hx_fr1_0, hx_fi1_1, hx_sv1_1, hx_v3, hx_fr3_0, hx_fr3_1, hx_fi3_2, hx_sv3_2, hx_fi3_3, hx_sv3_3, hx_fi3_4, hx_sv3_4, hx_fi3_5, hx_sv3_5, hx_fi3_6, hx_sv3_6, hx_fr3_7, hx_v5, hx_fi5_0, hx_sv5_0, hx_fr5_1, hx_fr5_2, hx_fr5_3, hx_fr5_4, hx_v11, hx_fi11_0, hx_sv11_0, hx_fr11_1, hx_fr11_2, hx_fr11_3, hx_fr11_4, hx_fi11_5, hx_sv11_5, hx_fi11_6, hx_sv11_6, hx_fi11_7, hx_sv11_7, hx_fi11_8, hx_sv11_8, hx_v15, hx_fi15_0, hx_sv15_0, hx_fr15_1, hx_fr15_2, hx_fr15_3, hx_fr15_4, hx_v20, hx_fi20_0, hx_sv20_0, hx_fi20_1, hx_sv20_1, hx_fi20_2, hx_sv20_2, hx_fi20_3, hx_sv20_3, hx_fr20_4, hx_fr20_5, hx_fr20_6, hx_fr20_7, hx_fi20_8, hx_sv20_8, hx_fi20_9, hx_sv20_9, hx_fi20_10, hx_sv20_10, hx_fi20_11, hx_sv20_11, hx_v25, hx_fi25_0, hx_sv25_0, hx_fi25_1, hx_sv25_1, hx_fl, hx_sl, hx_fr25_3, hx_li2, hx_ai2, hx_si2, hx_li6, hx_ai6, hx_si6, hx_li7, hx_ai7, hx_si7, hx_li8, hx_ai8, hx_si8, hx_li9, hx_ai9, hx_si9, hx_li10, hx_ai10, hx_si10, hx_li12, hx_ai12, hx_si12, hx_li13, hx_ai13, hx_si13, hx_li14, hx_ai14, hx_si14, hx_li16, hx_ai16, hx_si16, hx_li17, hx_ai17, hx_si17, hx_li18, hx_ai18, hx_si18, hx_li19, hx_ai19, hx_si19, hx_li21, hx_ai21, hx_si21, hx_li22, hx_ai22, hx_si22, hx_li24, hx_ai24, hx_si24, hx_li26, hx_ai26, hx_si26, hx_li27, hx_ai27, hx_si27, hx_li28, hx_ai28, hx_si28, hx_li29, hx_ai29, hx_si29, hx_li30, hx_ai30, hx_si30, hx_li31, hx_ai31, hx_si31, hx_li32, hx_ai32, hx_si32, hx_li33, hx_ai33, hx_si33, hx_lr4, hx_lr23, hx_sf0, hx_sf1, hx_ss1, hx_sf2, hx_ss2, hx_sf3, hx_ss3, hx_lkli, hx_lksi, i7, gm_abs (x := w 20 i) (y := q) (by omega) (by omega)]
          obtain ⟨f, rfl⟩ : ∃ f, g = f + 1 := ⟨g - 1, by omega⟩
          unfold aX11_carry
          rw [eX11_carry]
          simp only [Option.bind_some, Option.bind_none, ah_rI_s, ah_rL_s, ah_rV_s, hx_v0, hx_fr0_0, hx_fr0_1, hx_fr0_2, hx_fr0_3, hx_fr0_4, hx_fi0_5, hx_sv0_5, hx_v1, hx_fr1_0, hx_fi1_1, hx_sv1_1, hx_v3, hx_fr3_0, hx_fr3_1, hx_fi3_2, hx_sv3_2, hx_fi3_3, hx_sv3_3, hx_fi3_4, hx_sv3_4, hx_fi3_5, hx_sv3_5, hx_fi3_6, hx_sv3_6, hx_fr3_7, hx_v5, hx_fi5_0, hx_sv5_0, hx_fr5_1, hx_fr5_2, hx_fr5_3, hx_fr5_4, hx_v11, hx_fi11_0, hx_sv11_0, hx_fr11_1, hx_fr11_2, hx_fr11_3, hx_fr11_4, hx_fi11_5, hx_sv11_5, hx_fi11_6, hx_sv11_6, hx_fi11_7, hx_sv11_7, hx_fi11_8, hx_sv11_8, hx_v15, hx_fi15_0, hx_sv15_0, hx_fr15_1, hx_fr15_2, hx_fr15_3, hx_fr15_4, hx_v20, hx_fi20_0, hx_sv20_0, hx_fi20_1, hx_sv20_1, hx_fi20_2, hx_sv20_2, hx_fi20_3, hx_sv20_3, hx_fr20_4, hx_fr20_5, hx_fr20_6, hx_fr20_7, hx_fi20_8, hx_sv20_8, hx_fi20_9, hx_sv20_9, hx_fi20_10, hx_sv20_10, hx_fi20_11, hx_sv20_11, hx_v25, hx_fi25_0, hx_sv25_0, hx_fi25_1, hx_sv25_1, hx_fl, hx_sl, hx_fr25_3, hx_li2, hx_ai2, hx_si2, hx_li6, hx_ai6, hx_si6, hx_li7, hx_ai7, hx_si7, hx_li8, hx_ai8, hx_si8, hx_li9, hx_ai9, hx_si9, hx_li10, hx_ai10, hx_si10, hx_li12, hx_ai12, hx_si12, hx_li13, hx_ai13, hx_si13, hx_li14, hx_ai14, hx_si14, hx_li16, hx_ai16, hx_si16, hx_li17, hx_ai17, hx_si17, hx_li18, hx_ai18, hx_si18, hx_li19, hx_ai19, hx_si19, hx_li21, hx_ai21, hx_si21, hx_li22, hx_ai22, hx_si22, hx_li24, hx_ai24, hx_si24, hx_li26, hx_ai26, hx_si26, hx_li27, hx_ai27, hx_si27, hx_li28, hx_ai28, hx_si28, hx_li29, hx_ai29, hx_si29, hx_li30, hx_ai30, hx_si30, hx_li31, hx_ai31, hx_si31, hx_li32, hx_ai32, hx_si32, hx_li33, hx_ai33, hx_si33, hx_lr4, hx_lr23, hx_sf0, hx_sf1, hx_ss1, hx_sf2, hx_ss2, hx_sf3, hx_ss3, hx_lkli, hx_lksi, i7, sX0_has z w b hg h7 hR.zx, bI_0, e, Bool.true_eq_false, if_false, sX11_isStation hg, hq, and_self, decide_true, sX0_isPaired z w b hg h7 hR.zx hR.mo i hi, hp, Bool.not_true, if_true, ec]
        · rw [(hR.sg hi).2.2.2.1]
          obtain ⟨f, rfl⟩ : ∃ f, g = f + 1 := ⟨g - 1, by omega⟩
          unfold aX12_carry
          rw [eX12_carry]
          simp only [Option.bind_some, Option.bind_none, ah_rI_s, ah_rL_s, ah_rV_s, hm_vI, hm_fr0, hm_li0, hm_ai0, hm_si0, hm_fi1, hm_sv1, hm_fi2, hm_sv2, hm_fi3, hm_sv3, hm_fi4, hm_sv4, hm_fi5, hm_sv5, hm_fi6, hm_sv6, hm_fi7, hm_sv7, hm_fr8, hm_li8, hm_ai8, hm_si8, hm_fr9, hm_li9, hm_ai9, hm_si9, hm_fr10, hm_li10, hm_ai10, hm_si10, hm_fr11, hm_li11, hm_ai11, hm_si11, hm_fr12, hm_li12, hm_ai12, hm_si12, hm_fr13, hm_li13, hm_ai13, hm_si13, hm_fr14, hm_li14, hm_ai14, hm_si14, hm_fi15, hm_sv15, hm_fr16, hm_li16, hm_ai16, hm_si16, hm_fr17, hm_li17, hm_ai17, hm_si17, hm_fi18, hm_sv18, hm_fi19, hm_sv19, hm_fi20, hm_sv20, hm_fi21, hm_sv21, hm_fi22, hm_sv22, hm_fi23, hm_sv23, hm_fi24, hm_sv24, hm_fr25, hm_li25, hm_ai25, hm_si25, hm_fr26, hm_li26, hm_ai26, hm_si26, hm_fr27, hm_li27, hm_ai27, hm_si27, hm_fr28, hm_li28, hm_ai28, hm_si28, hm_fl, hm_sl, i7, sX12_isSingle y v c hg h7 hR.zm, bI_0, e, Bool.true_eq_false, if_false, hin, hq, and_self, decide_true, m1, m2, ← hR.mt hi, hp, if_true, sX12_far hg]
        · show z 3 + gm_far (w 20 i) q = y 3 + gm_far (w 20 i) q
          rw [hR.2.2.2.1.1]
      · refine gm_same hR (-103) ?_ ?_
        · obtain ⟨f, rfl⟩ : ∃ f, g = f + 1 := ⟨g - 1, by omega⟩
          unfold aX11_carry
          rw [eX11_carry]
          simp only [Option.bind_some, Option.bind_none, ah_rI_s, ah_rL_s, ah_rV_s, hx_v0, hx_fr0_0, hx_fr0_1, hx_fr0_2, hx_fr0_3, hx_fr0_4, hx_fi0_5, hx_sv0_5, hx_v1, hx_fr1_0, hx_fi1_1, hx_sv1_1, hx_v3, hx_fr3_0, hx_fr3_1, hx_fi3_2, hx_sv3_2, hx_fi3_3, hx_sv3_3, hx_fi3_4, hx_sv3_4, hx_fi3_5, hx_sv3_5, hx_fi3_6, hx_sv3_6, hx_fr3_7, hx_v5, hx_fi5_0, hx_sv5_0, hx_fr5_1, hx_fr5_2, hx_fr5_3, hx_fr5_4, hx_v11, hx_fi11_0, hx_sv11_0, hx_fr11_1, hx_fr11_2, hx_fr11_3, hx_fr11_4, hx_fi11_5, hx_sv11_5, hx_fi11_6, hx_sv11_6, hx_fi11_7, hx_sv11_7, hx_fi11_8, hx_sv11_8, hx_v15, hx_fi15_0, hx_sv15_0, hx_fr15_1, hx_fr15_2, hx_fr15_3, hx_fr15_4, hx_v20, hx_fi20_0, hx_sv20_0, hx_fi20_1, hx_sv20_1, hx_fi20_2, hx_sv20_2, hx_fi20_3, hx_sv20_3, hx_fr20_4, hx_fr20_5, hx_fr20_6, hx_fr20_7, hx_fi20_8, hx_sv20_8, hx_fi20_9, hx_sv20_9, hx_fi20_10, hx_sv20_10, hx_fi20_11, hx_sv20_11, hx_v25, hx_fi25_0, hx_sv25_0, hx_fi25_1, hx_sv25_1, hx_fl, hx_sl, hx_fr25_3, hx_li2, hx_ai2, hx_si2, hx_li6, hx_ai6, hx_si6, hx_li7, hx_ai7, hx_si7, hx_li8, hx_ai8, hx_si8, hx_li9, hx_ai9, hx_si9, hx_li10, hx_ai10, hx_si10, hx_li12, hx_ai12, hx_si12, hx_li13, hx_ai13, hx_si13, hx_li14, hx_ai14, hx_si14, hx_li16, hx_ai16, hx_si16, hx_li17, hx_ai17, hx_si17, hx_li18, hx_ai18, hx_si18, hx_li19, hx_ai19, hx_si19, hx_li21, hx_ai21, hx_si21, hx_li22, hx_ai22, hx_si22, hx_li24, hx_ai24, hx_si24, hx_li26, hx_ai26, hx_si26, hx_li27, hx_ai27, hx_si27, hx_li28, hx_ai28, hx_si28, hx_li29, hx_ai29, hx_si29, hx_li30, hx_ai30, hx_si30, hx_li31, hx_ai31, hx_si31, hx_li32, hx_ai32, hx_si32, hx_li33, hx_ai33, hx_si33, hx_lr4, hx_lr23, hx_sf0, hx_sf1, hx_ss1, hx_sf2, hx_ss2, hx_sf3, hx_ss3, hx_lkli, hx_lksi, sX0_has z w b hg h7 hR.zx, bI_0, e, Bool.true_eq_false, if_false, sX11_isStation hg, hq, and_self, decide_true, sX0_isPaired z w b hg h7 hR.zx hR.mo i hi, hp, decide_false, Bool.not_false]
        · obtain ⟨f, rfl⟩ : ∃ f, g = f + 1 := ⟨g - 1, by omega⟩
          unfold aX12_carry
          rw [eX12_carry]
          simp only [Option.bind_some, Option.bind_none, ah_rI_s, ah_rL_s, ah_rV_s, hm_vI, hm_fr0, hm_li0, hm_ai0, hm_si0, hm_fi1, hm_sv1, hm_fi2, hm_sv2, hm_fi3, hm_sv3, hm_fi4, hm_sv4, hm_fi5, hm_sv5, hm_fi6, hm_sv6, hm_fi7, hm_sv7, hm_fr8, hm_li8, hm_ai8, hm_si8, hm_fr9, hm_li9, hm_ai9, hm_si9, hm_fr10, hm_li10, hm_ai10, hm_si10, hm_fr11, hm_li11, hm_ai11, hm_si11, hm_fr12, hm_li12, hm_ai12, hm_si12, hm_fr13, hm_li13, hm_ai13, hm_si13, hm_fr14, hm_li14, hm_ai14, hm_si14, hm_fi15, hm_sv15, hm_fr16, hm_li16, hm_ai16, hm_si16, hm_fr17, hm_li17, hm_ai17, hm_si17, hm_fi18, hm_sv18, hm_fi19, hm_sv19, hm_fi20, hm_sv20, hm_fi21, hm_sv21, hm_fi22, hm_sv22, hm_fi23, hm_sv23, hm_fi24, hm_sv24, hm_fr25, hm_li25, hm_ai25, hm_si25, hm_fr26, hm_li26, hm_ai26, hm_si26, hm_fr27, hm_li27, hm_ai27, hm_si27, hm_fr28, hm_li28, hm_ai28, hm_si28, hm_fl, hm_sl, sX12_isSingle y v c hg h7 hR.zm, bI_0, e, Bool.true_eq_false, if_false, hin, hq, and_self, decide_true, m1, ← hR.mt hi, hp]
    · refine gm_same hR (-101) ?_ ?_
      · obtain ⟨f, rfl⟩ : ∃ f, g = f + 1 := ⟨g - 1, by omega⟩
        unfold aX11_carry
        rw [eX11_carry]
        simp only [Option.bind_some, Option.bind_none, ah_rI_s, ah_rL_s, ah_rV_s, hx_v0, hx_fr0_0, hx_fr0_1, hx_fr0_2, hx_fr0_3, hx_fr0_4, hx_fi0_5, hx_sv0_5, hx_v1, hx_fr1_0, hx_fi1_1, hx_sv1_1, hx_v3, hx_fr3_0, hx_fr3_1, hx_fi3_2, hx_sv3_2, hx_fi3_3, hx_sv3_3, hx_fi3_4, hx_sv3_4, hx_fi3_5, hx_sv3_5, hx_fi3_6, hx_sv3_6, hx_fr3_7, hx_v5, hx_fi5_0, hx_sv5_0, hx_fr5_1, hx_fr5_2, hx_fr5_3, hx_fr5_4, hx_v11, hx_fi11_0, hx_sv11_0, hx_fr11_1, hx_fr11_2, hx_fr11_3, hx_fr11_4, hx_fi11_5, hx_sv11_5, hx_fi11_6, hx_sv11_6, hx_fi11_7, hx_sv11_7, hx_fi11_8, hx_sv11_8, hx_v15, hx_fi15_0, hx_sv15_0, hx_fr15_1, hx_fr15_2, hx_fr15_3, hx_fr15_4, hx_v20, hx_fi20_0, hx_sv20_0, hx_fi20_1, hx_sv20_1, hx_fi20_2, hx_sv20_2, hx_fi20_3, hx_sv20_3, hx_fr20_4, hx_fr20_5, hx_fr20_6, hx_fr20_7, hx_fi20_8, hx_sv20_8, hx_fi20_9, hx_sv20_9, hx_fi20_10, hx_sv20_10, hx_fi20_11, hx_sv20_11, hx_v25, hx_fi25_0, hx_sv25_0, hx_fi25_1, hx_sv25_1, hx_fl, hx_sl, hx_fr25_3, hx_li2, hx_ai2, hx_si2, hx_li6, hx_ai6, hx_si6, hx_li7, hx_ai7, hx_si7, hx_li8, hx_ai8, hx_si8, hx_li9, hx_ai9, hx_si9, hx_li10, hx_ai10, hx_si10, hx_li12, hx_ai12, hx_si12, hx_li13, hx_ai13, hx_si13, hx_li14, hx_ai14, hx_si14, hx_li16, hx_ai16, hx_si16, hx_li17, hx_ai17, hx_si17, hx_li18, hx_ai18, hx_si18, hx_li19, hx_ai19, hx_si19, hx_li21, hx_ai21, hx_si21, hx_li22, hx_ai22, hx_si22, hx_li24, hx_ai24, hx_si24, hx_li26, hx_ai26, hx_si26, hx_li27, hx_ai27, hx_si27, hx_li28, hx_ai28, hx_si28, hx_li29, hx_ai29, hx_si29, hx_li30, hx_ai30, hx_si30, hx_li31, hx_ai31, hx_si31, hx_li32, hx_ai32, hx_si32, hx_li33, hx_ai33, hx_si33, hx_lr4, hx_lr23, hx_sf0, hx_sf1, hx_ss1, hx_sf2, hx_ss2, hx_sf3, hx_ss3, hx_lkli, hx_lksi, sX0_has z w b hg h7 hR.zx, bI_0, e, Bool.true_eq_false, if_false, sX11_isStation hg, hq, decide_false, if_true]
      · obtain ⟨f, rfl⟩ : ∃ f, g = f + 1 := ⟨g - 1, by omega⟩
        unfold aX12_carry
        rw [eX12_carry]
        simp only [Option.bind_some, Option.bind_none, ah_rI_s, ah_rL_s, ah_rV_s, hm_vI, hm_fr0, hm_li0, hm_ai0, hm_si0, hm_fi1, hm_sv1, hm_fi2, hm_sv2, hm_fi3, hm_sv3, hm_fi4, hm_sv4, hm_fi5, hm_sv5, hm_fi6, hm_sv6, hm_fi7, hm_sv7, hm_fr8, hm_li8, hm_ai8, hm_si8, hm_fr9, hm_li9, hm_ai9, hm_si9, hm_fr10, hm_li10, hm_ai10, hm_si10, hm_fr11, hm_li11, hm_ai11, hm_si11, hm_fr12, hm_li12, hm_ai12, hm_si12, hm_fr13, hm_li13, hm_ai13, hm_si13, hm_fr14, hm_li14, hm_ai14, hm_si14, hm_fi15, hm_sv15, hm_fr16, hm_li16, hm_ai16, hm_si16, hm_fr17, hm_li17, hm_ai17, hm_si17, hm_fi18, hm_sv18, hm_fi19, hm_sv19, hm_fi20, hm_sv20, hm_fi21, hm_sv21, hm_fi22, hm_sv22, hm_fi23, hm_sv23, hm_fi24, hm_sv24, hm_fr25, hm_li25, hm_ai25, hm_si25, hm_fr26, hm_li26, hm_ai26, hm_si26, hm_fr27, hm_li27, hm_ai27, hm_si27, hm_fr28, hm_li28, hm_ai28, hm_si28, hm_fl, hm_sl, sX12_isSingle y v c hg h7 hR.zm, bI_0, e, Bool.true_eq_false, if_false, hin, hq, decide_false, if_true]
theorem gp_part (hg : 4000 ≤ g) (p : Int32) : gm_Pair (aX11_part g) (aX12_part g) [.ref 0, .int p] := by
  intro K n ln sn z w b y v c hR
  have h7 := hR.n7
  cases e : gm_is n p with
  | false =>
    refine gm_same hR (-101) ?_ ?_
    · obtain ⟨f, rfl⟩ : ∃ f, g = f + 1 := ⟨g - 1, by omega⟩
      unfold aX11_part
      rw [eX11_part]
      simp only [Option.bind_some, Option.bind_none, ah_rI_s, ah_rL_s, ah_rV_s, hx_v0, hx_fr0_0, hx_fr0_1, hx_fr0_2, hx_fr0_3, hx_fr0_4, hx_fi0_5, hx_sv0_5, hx_v1, hx_fr1_0, hx_fi1_1, hx_sv1_1, hx_v3, hx_fr3_0, hx_fr3_1, hx_fi3_2, hx_sv3_2, hx_fi3_3, hx_sv3_3, hx_fi3_4, hx_sv3_4, hx_fi3_5, hx_sv3_5, hx_fi3_6, hx_sv3_6, hx_fr3_7, hx_v5, hx_fi5_0, hx_sv5_0, hx_fr5_1, hx_fr5_2, hx_fr5_3, hx_fr5_4, hx_v11, hx_fi11_0, hx_sv11_0, hx_fr11_1, hx_fr11_2, hx_fr11_3, hx_fr11_4, hx_fi11_5, hx_sv11_5, hx_fi11_6, hx_sv11_6, hx_fi11_7, hx_sv11_7, hx_fi11_8, hx_sv11_8, hx_v15, hx_fi15_0, hx_sv15_0, hx_fr15_1, hx_fr15_2, hx_fr15_3, hx_fr15_4, hx_v20, hx_fi20_0, hx_sv20_0, hx_fi20_1, hx_sv20_1, hx_fi20_2, hx_sv20_2, hx_fi20_3, hx_sv20_3, hx_fr20_4, hx_fr20_5, hx_fr20_6, hx_fr20_7, hx_fi20_8, hx_sv20_8, hx_fi20_9, hx_sv20_9, hx_fi20_10, hx_sv20_10, hx_fi20_11, hx_sv20_11, hx_v25, hx_fi25_0, hx_sv25_0, hx_fi25_1, hx_sv25_1, hx_fl, hx_sl, hx_fr25_3, hx_li2, hx_ai2, hx_si2, hx_li6, hx_ai6, hx_si6, hx_li7, hx_ai7, hx_si7, hx_li8, hx_ai8, hx_si8, hx_li9, hx_ai9, hx_si9, hx_li10, hx_ai10, hx_si10, hx_li12, hx_ai12, hx_si12, hx_li13, hx_ai13, hx_si13, hx_li14, hx_ai14, hx_si14, hx_li16, hx_ai16, hx_si16, hx_li17, hx_ai17, hx_si17, hx_li18, hx_ai18, hx_si18, hx_li19, hx_ai19, hx_si19, hx_li21, hx_ai21, hx_si21, hx_li22, hx_ai22, hx_si22, hx_li24, hx_ai24, hx_si24, hx_li26, hx_ai26, hx_si26, hx_li27, hx_ai27, hx_si27, hx_li28, hx_ai28, hx_si28, hx_li29, hx_ai29, hx_si29, hx_li30, hx_ai30, hx_si30, hx_li31, hx_ai31, hx_si31, hx_li32, hx_ai32, hx_si32, hx_li33, hx_ai33, hx_si33, hx_lr4, hx_lr23, hx_sf0, hx_sf1, hx_ss1, hx_sf2, hx_ss2, hx_sf3, hx_ss3, hx_lkli, hx_lksi, sX0_has z w b hg h7 hR.zx, bI_0, e, if_true]
    · obtain ⟨f, rfl⟩ : ∃ f, g = f + 1 := ⟨g - 1, by omega⟩
      unfold aX12_part
      rw [eX12_part]
      simp only [Option.bind_some, Option.bind_none, ah_rI_s, ah_rL_s, ah_rV_s, hm_vI, hm_fr0, hm_li0, hm_ai0, hm_si0, hm_fi1, hm_sv1, hm_fi2, hm_sv2, hm_fi3, hm_sv3, hm_fi4, hm_sv4, hm_fi5, hm_sv5, hm_fi6, hm_sv6, hm_fi7, hm_sv7, hm_fr8, hm_li8, hm_ai8, hm_si8, hm_fr9, hm_li9, hm_ai9, hm_si9, hm_fr10, hm_li10, hm_ai10, hm_si10, hm_fr11, hm_li11, hm_ai11, hm_si11, hm_fr12, hm_li12, hm_ai12, hm_si12, hm_fr13, hm_li13, hm_ai13, hm_si13, hm_fr14, hm_li14, hm_ai14, hm_si14, hm_fi15, hm_sv15, hm_fr16, hm_li16, hm_ai16, hm_si16, hm_fr17, hm_li17, hm_ai17, hm_si17, hm_fi18, hm_sv18, hm_fi19, hm_sv19, hm_fi20, hm_sv20, hm_fi21, hm_sv21, hm_fi22, hm_sv22, hm_fi23, hm_sv23, hm_fi24, hm_sv24, hm_fr25, hm_li25, hm_ai25, hm_si25, hm_fr26, hm_li26, hm_ai26, hm_si26, hm_fr27, hm_li27, hm_ai27, hm_si27, hm_fr28, hm_li28, hm_ai28, hm_si28, hm_fl, hm_sl, sX12_isSingle y v c hg h7 hR.zm, bI_0, e, if_true]
  | true =>
    obtain ⟨i, hi, rfl⟩ := gm_is_i e
    have i7 : i < 7 := by omega
    have m1 : ah_rd (v 11) 7 (nI i) = some (v 11 i) := ah_rdN i7 (by decide)
    rcases hR.2.1.2.2.2.2.2 i hi with hp | ⟨j, hj, hji, hp, hpj⟩
    · refine gm_same hR (-103) ?_ ?_
      · obtain ⟨f, rfl⟩ : ∃ f, g = f + 1 := ⟨g - 1, by omega⟩
        unfold aX11_part
        rw [eX11_part]
        simp only [Option.bind_some, Option.bind_none, ah_rI_s, ah_rL_s, ah_rV_s, hx_v0, hx_fr0_0, hx_fr0_1, hx_fr0_2, hx_fr0_3, hx_fr0_4, hx_fi0_5, hx_sv0_5, hx_v1, hx_fr1_0, hx_fi1_1, hx_sv1_1, hx_v3, hx_fr3_0, hx_fr3_1, hx_fi3_2, hx_sv3_2, hx_fi3_3, hx_sv3_3, hx_fi3_4, hx_sv3_4, hx_fi3_5, hx_sv3_5, hx_fi3_6, hx_sv3_6, hx_fr3_7, hx_v5, hx_fi5_0, hx_sv5_0, hx_fr5_1, hx_fr5_2, hx_fr5_3, hx_fr5_4, hx_v11, hx_fi11_0, hx_sv11_0, hx_fr11_1, hx_fr11_2, hx_fr11_3, hx_fr11_4, hx_fi11_5, hx_sv11_5, hx_fi11_6, hx_sv11_6, hx_fi11_7, hx_sv11_7, hx_fi11_8, hx_sv11_8, hx_v15, hx_fi15_0, hx_sv15_0, hx_fr15_1, hx_fr15_2, hx_fr15_3, hx_fr15_4, hx_v20, hx_fi20_0, hx_sv20_0, hx_fi20_1, hx_sv20_1, hx_fi20_2, hx_sv20_2, hx_fi20_3, hx_sv20_3, hx_fr20_4, hx_fr20_5, hx_fr20_6, hx_fr20_7, hx_fi20_8, hx_sv20_8, hx_fi20_9, hx_sv20_9, hx_fi20_10, hx_sv20_10, hx_fi20_11, hx_sv20_11, hx_v25, hx_fi25_0, hx_sv25_0, hx_fi25_1, hx_sv25_1, hx_fl, hx_sl, hx_fr25_3, hx_li2, hx_ai2, hx_si2, hx_li6, hx_ai6, hx_si6, hx_li7, hx_ai7, hx_si7, hx_li8, hx_ai8, hx_si8, hx_li9, hx_ai9, hx_si9, hx_li10, hx_ai10, hx_si10, hx_li12, hx_ai12, hx_si12, hx_li13, hx_ai13, hx_si13, hx_li14, hx_ai14, hx_si14, hx_li16, hx_ai16, hx_si16, hx_li17, hx_ai17, hx_si17, hx_li18, hx_ai18, hx_si18, hx_li19, hx_ai19, hx_si19, hx_li21, hx_ai21, hx_si21, hx_li22, hx_ai22, hx_si22, hx_li24, hx_ai24, hx_si24, hx_li26, hx_ai26, hx_si26, hx_li27, hx_ai27, hx_si27, hx_li28, hx_ai28, hx_si28, hx_li29, hx_ai29, hx_si29, hx_li30, hx_ai30, hx_si30, hx_li31, hx_ai31, hx_si31, hx_li32, hx_ai32, hx_si32, hx_li33, hx_ai33, hx_si33, hx_lr4, hx_lr23, hx_sf0, hx_sf1, hx_ss1, hx_sf2, hx_ss2, hx_sf3, hx_ss3, hx_lkli, hx_lksi, sX0_has z w b hg h7 hR.zx, bI_0, e, Bool.true_eq_false, if_false, sX0_isPaired z w b hg h7 hR.zx hR.mo i hi, hp, n32_mm, decide_true, Bool.not_true, if_true]
      · obtain ⟨f, rfl⟩ : ∃ f, g = f + 1 := ⟨g - 1, by omega⟩
        unfold aX12_part
        rw [eX12_part]
        simp only [Option.bind_some, Option.bind_none, ah_rI_s, ah_rL_s, ah_rV_s, hm_vI, hm_fr0, hm_li0, hm_ai0, hm_si0, hm_fi1, hm_sv1, hm_fi2, hm_sv2, hm_fi3, hm_sv3, hm_fi4, hm_sv4, hm_fi5, hm_sv5, hm_fi6, hm_sv6, hm_fi7, hm_sv7, hm_fr8, hm_li8, hm_ai8, hm_si8, hm_fr9, hm_li9, hm_ai9, hm_si9, hm_fr10, hm_li10, hm_ai10, hm_si10, hm_fr11, hm_li11, hm_ai11, hm_si11, hm_fr12, hm_li12, hm_ai12, hm_si12, hm_fr13, hm_li13, hm_ai13, hm_si13, hm_fr14, hm_li14, hm_ai14, hm_si14, hm_fi15, hm_sv15, hm_fr16, hm_li16, hm_ai16, hm_si16, hm_fr17, hm_li17, hm_ai17, hm_si17, hm_fi18, hm_sv18, hm_fi19, hm_sv19, hm_fi20, hm_sv20, hm_fi21, hm_sv21, hm_fi22, hm_sv22, hm_fi23, hm_sv23, hm_fi24, hm_sv24, hm_fr25, hm_li25, hm_ai25, hm_si25, hm_fr26, hm_li26, hm_ai26, hm_si26, hm_fr27, hm_li27, hm_ai27, hm_si27, hm_fr28, hm_li28, hm_ai28, hm_si28, hm_fl, hm_sl, sX12_isSingle y v c hg h7 hR.zm, bI_0, e, Bool.true_eq_false, if_false, m1, ← hR.mt hi, hp, n32_mm, if_true]
    · have j7 : j < 7 := by omega
      have hne := gm_ok_ne (show j < 1000 by omega)
      refine ⟨nI j, n, ln, sn, va_up z 5 (z 5 + 1), va_up w 21 (upd (upd (w 21) j (-1)) i (-1)), b, va_up y 5 (y 5 + 1), va_up v 11 (upd (upd (v 11) i (-1)) j (-1)), c, ?_, ?_, hR.1, gm_Rd_mt hR.2.1 (fun k hk => ?_) (gm_Mt_part hR.2.1.2.2.2.2.2 h7 hi hj hp hpj), hR.2.2.1, ⟨hR.2.2.2.1.1, hR.2.2.2.1.2.1, ?_, hR.2.2.2.1.2.2.2⟩, hR.2.2.2.2⟩
      · have ec : aX0_separate g [.ref 3, .int (nI i)] (hx z w b) = some (none, hx z (va_up w 21 (upd (upd (w 21) j (-1)) i (-1))) b) := by
          obtain ⟨f, rfl⟩ : ∃ f, g = f + 1 := ⟨g - 1, by omega⟩
          unfold aX0_separate
          rw [eX0_separate]
          simp only [Option.bind_some, Option.bind_none, ah_rI_s, ah_rL_s, ah_rV_s, hx_v0, hx_fr0_0, hx_fr0_1, hx_fr0_2, hx_fr0_3, hx_fr0_4, hx_fi0_5, hx_sv0_5, hx_v1, hx_fr1_0, hx_fi1_1, hx_sv1_1, hx_v3, hx_fr3_0, hx_fr3_1, hx_fi3_2, hx_sv3_2, hx_fi3_3, hx_sv3_3, hx_fi3_4, hx_sv3_4, hx_fi3_5, hx_sv3_5, hx_fi3_6, hx_sv3_6, hx_fr3_7, hx_v5, hx_fi5_0, hx_sv5_0, hx_fr5_1, hx_fr5_2, hx_fr5_3, hx_fr5_4, hx_v11, hx_fi11_0, hx_sv11_0, hx_fr11_1, hx_fr11_2, hx_fr11_3, hx_fr11_4, hx_fi11_5, hx_sv11_5, hx_fi11_6, hx_sv11_6, hx_fi11_7, hx_sv11_7, hx_fi11_8, hx_sv11_8, hx_v15, hx_fi15_0, hx_sv15_0, hx_fr15_1, hx_fr15_2, hx_fr15_3, hx_fr15_4, hx_v20, hx_fi20_0, hx_sv20_0, hx_fi20_1, hx_sv20_1, hx_fi20_2, hx_sv20_2, hx_fi20_3, hx_sv20_3, hx_fr20_4, hx_fr20_5, hx_fr20_6, hx_fr20_7, hx_fi20_8, hx_sv20_8, hx_fi20_9, hx_sv20_9, hx_fi20_10, hx_sv20_10, hx_fi20_11, hx_sv20_11, hx_v25, hx_fi25_0, hx_sv25_0, hx_fi25_1, hx_sv25_1, hx_fl, hx_sl, hx_fr25_3, hx_li2, hx_ai2, hx_si2, hx_li6, hx_ai6, hx_si6, hx_li7, hx_ai7, hx_si7, hx_li8, hx_ai8, hx_si8, hx_li9, hx_ai9, hx_si9, hx_li10, hx_ai10, hx_si10, hx_li12, hx_ai12, hx_si12, hx_li13, hx_ai13, hx_si13, hx_li14, hx_ai14, hx_si14, hx_li16, hx_ai16, hx_si16, hx_li17, hx_ai17, hx_si17, hx_li18, hx_ai18, hx_si18, hx_li19, hx_ai19, hx_si19, hx_li21, hx_ai21, hx_si21, hx_li22, hx_ai22, hx_si22, hx_li24, hx_ai24, hx_si24, hx_li26, hx_ai26, hx_si26, hx_li27, hx_ai27, hx_si27, hx_li28, hx_ai28, hx_si28, hx_li29, hx_ai29, hx_si29, hx_li30, hx_ai30, hx_si30, hx_li31, hx_ai31, hx_si31, hx_li32, hx_ai32, hx_si32, hx_li33, hx_ai33, hx_si33, hx_lr4, hx_lr23, hx_sf0, hx_sf1, hx_ss1, hx_sf2, hx_ss2, hx_sf3, hx_ss3, hx_lkli, hx_lksi, i7, j7, hp, sX0_has z w b hg h7 hR.zx, gm_is_n hj (show n ≤ 40 by omega), bI_0, Bool.true_eq_false, if_false, bx_uu]
          rfl
        obtain ⟨f, rfl⟩ : ∃ f, g = f + 1 := ⟨g - 1, by omega⟩
        unfold aX11_part
        rw [eX11_part]
        simp only [Option.bind_some, Option.bind_none, ah_rI_s, ah_rL_s, ah_rV_s, hx_v0, hx_fr0_0, hx_fr0_1, hx_fr0_2, hx_fr0_3, hx_fr0_4, hx_fi0_5, hx_sv0_5, hx_v1, hx_fr1_0, hx_fi1_1, hx_sv1_1, hx_v3, hx_fr3_0, hx_fr3_1, hx_fi3_2, hx_sv3_2, hx_fi3_3, hx_sv3_3, hx_fi3_4, hx_sv3_4, hx_fi3_5, hx_sv3_5, hx_fi3_6, hx_sv3_6, hx_fr3_7, hx_v5, hx_fi5_0, hx_sv5_0, hx_fr5_1, hx_fr5_2, hx_fr5_3, hx_fr5_4, hx_v11, hx_fi11_0, hx_sv11_0, hx_fr11_1, hx_fr11_2, hx_fr11_3, hx_fr11_4, hx_fi11_5, hx_sv11_5, hx_fi11_6, hx_sv11_6, hx_fi11_7, hx_sv11_7, hx_fi11_8, hx_sv11_8, hx_v15, hx_fi15_0, hx_sv15_0, hx_fr15_1, hx_fr15_2, hx_fr15_3, hx_fr15_4, hx_v20, hx_fi20_0, hx_sv20_0, hx_fi20_1, hx_sv20_1, hx_fi20_2, hx_sv20_2, hx_fi20_3, hx_sv20_3, hx_fr20_4, hx_fr20_5, hx_fr20_6, hx_fr20_7, hx_fi20_8, hx_sv20_8, hx_fi20_9, hx_sv20_9, hx_fi20_10, hx_sv20_10, hx_fi20_11, hx_sv20_11, hx_v25, hx_fi25_0, hx_sv25_0, hx_fi25_1, hx_sv25_1, hx_fl, hx_sl, hx_fr25_3, hx_li2, hx_ai2, hx_si2, hx_li6, hx_ai6, hx_si6, hx_li7, hx_ai7, hx_si7, hx_li8, hx_ai8, hx_si8, hx_li9, hx_ai9, hx_si9, hx_li10, hx_ai10, hx_si10, hx_li12, hx_ai12, hx_si12, hx_li13, hx_ai13, hx_si13, hx_li14, hx_ai14, hx_si14, hx_li16, hx_ai16, hx_si16, hx_li17, hx_ai17, hx_si17, hx_li18, hx_ai18, hx_si18, hx_li19, hx_ai19, hx_si19, hx_li21, hx_ai21, hx_si21, hx_li22, hx_ai22, hx_si22, hx_li24, hx_ai24, hx_si24, hx_li26, hx_ai26, hx_si26, hx_li27, hx_ai27, hx_si27, hx_li28, hx_ai28, hx_si28, hx_li29, hx_ai29, hx_si29, hx_li30, hx_ai30, hx_si30, hx_li31, hx_ai31, hx_si31, hx_li32, hx_ai32, hx_si32, hx_li33, hx_ai33, hx_si33, hx_lr4, hx_lr23, hx_sf0, hx_sf1, hx_ss1, hx_sf2, hx_ss2, hx_sf3, hx_ss3, hx_lkli, hx_lksi, i7, sX0_has z w b hg h7 hR.zx, bI_0, e, Bool.true_eq_false, if_false, sX0_isPaired z w b hg h7 hR.zx hR.mo i hi, hp, hne, decide_false, Bool.not_false, ec]
      · obtain ⟨f, rfl⟩ : ∃ f, g = f + 1 := ⟨g - 1, by omega⟩
        unfold aX12_part
        rw [eX12_part]
        simp only [Option.bind_some, Option.bind_none, ah_rI_s, ah_rL_s, ah_rV_s, hm_vI, hm_fr0, hm_li0, hm_ai0, hm_si0, hm_fi1, hm_sv1, hm_fi2, hm_sv2, hm_fi3, hm_sv3, hm_fi4, hm_sv4, hm_fi5, hm_sv5, hm_fi6, hm_sv6, hm_fi7, hm_sv7, hm_fr8, hm_li8, hm_ai8, hm_si8, hm_fr9, hm_li9, hm_ai9, hm_si9, hm_fr10, hm_li10, hm_ai10, hm_si10, hm_fr11, hm_li11, hm_ai11, hm_si11, hm_fr12, hm_li12, hm_ai12, hm_si12, hm_fr13, hm_li13, hm_ai13, hm_si13, hm_fr14, hm_li14, hm_ai14, hm_si14, hm_fi15, hm_sv15, hm_fr16, hm_li16, hm_ai16, hm_si16, hm_fr17, hm_li17, hm_ai17, hm_si17, hm_fi18, hm_sv18, hm_fi19, hm_sv19, hm_fi20, hm_sv20, hm_fi21, hm_sv21, hm_fi22, hm_sv22, hm_fi23, hm_sv23, hm_fi24, hm_sv24, hm_fr25, hm_li25, hm_ai25, hm_si25, hm_fr26, hm_li26, hm_ai26, hm_si26, hm_fr27, hm_li27, hm_ai27, hm_si27, hm_fr28, hm_li28, hm_ai28, hm_si28, hm_fl, hm_sl, i7, j7, sX12_isSingle y v c hg h7 hR.zm, bI_0, e, Bool.true_eq_false, if_false, m1, ← hR.mt hi, hp, hne, bx_uu]
        rfl
      · show upd (upd (w 21) j (-1)) i (-1) k = upd (upd (v 11) i (-1)) j (-1) k
        by_cases q1 : k = i
        · rw [q1, upd_self]
          by_cases q2 : i = j
          · rw [q2, upd_self]
          · rw [upd_ne _ _ q2, upd_self]
        · rw [upd_ne _ _ q1]
          by_cases q2 : k = j
          · rw [q2, upd_self, upd_self]
          · rw [upd_ne _ _ q2, upd_ne _ _ q2, upd_ne _ _ q1]; exact hR.mt hk
      · show z 5 + 1 = y 5 + 1
        rw [hR.2.2.2.1.2.2.1]
end PR3
