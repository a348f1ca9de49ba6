/-! class and reference beside each other -/
/-- the page -/
def gm_Rp (ln : Nat) (zx zm : Int32) (p q : Nat → Int32) : Prop := ln ≤ 36 ∧ zx = nI ln ∧ zm = nI ln ∧ ∀ i, i < ln → p i = q i ∧ 1 ≤ (p i).toInt ∧ (p i).toInt ≤ 126
/-- mates: none, or each other's -/
def gm_Mt (n : Nat) (mt : Nat → Int32) : Prop := ∀ i, i < n → mt i = -1 ∨ ∃ j : Nat, j < n ∧ ¬ j = i ∧ mt i = nI j ∧ mt j = nI i
/-- the drawer -/
def gm_Rd (n : Nat) (zx zm : Int32) (kd hd sz st mt kd2 hd2 sz2 st2 mt2 : Nat → Int32) : Prop := n ≤ 7 ∧ zx = nI n ∧ zm = nI n ∧ (∀ i, i < 7 → 0 ≤ (sz i).toInt ∧ (sz i).toInt ≤ 9) ∧ (∀ i, i < n → kd i = kd2 i ∧ hd i = hd2 i ∧ sz i = sz2 i ∧ st i = st2 i ∧ mt i = mt2 i ∧ (0 ≤ (kd i).toInt ∧ (kd i).toInt ≤ 4) ∧ (hd i = 0 ∨ hd i = 1) ∧ (0 ≤ (st i).toInt ∧ (st i).toInt ≤ 5)) ∧ gm_Mt n mt
/-- what is seen: the class has three rows, the reference one of threes -/
def gm_Rs (n sn : Nat) (zx zm : Int32) (p q r u : Nat → Int32) : Prop := sn ≤ 8 ∧ zx = nI sn ∧ zm = nI sn ∧ ∀ i, i < sn → p i = u (3 * i) ∧ q i = u (3 * i + 1) ∧ r i = u (3 * i + 2) ∧ (∃ j : Nat, j < n ∧ p i = nI j) ∧ (∃ j : Nat, j < n ∧ q i = nI j)
/-- the counters -/
def gm_Rc (z y : Nat → Int32) : Prop := z 3 = y 3 ∧ z 4 = y 4 ∧ z 5 = y 5 ∧ z 6 = y 6
/-- the image -/
def gm_Ri (K n : Nat) (z y : Nat → Int32) (w v : Nat → Nat → Int32) : Prop := ∃ c : Nat, (c ≤ K ∧ K ≤ 1000) ∧ z 0 = nI c ∧ y 7 = nI c ∧ ((z 8 = 0 ∧ ¬ y 19 = y 7 ∧ (y 19 = -1 ∨ ∃ d : Nat, d < c ∧ y 19 = nI d)) ∨ (z 8 = 1 ∧ y 19 = y 7 ∧ z 9 = y 20 ∧ z 10 = y 21 ∧ z 11 = y 22 ∧ z 12 = y 23 ∧ (∃ ks, gm_Rs n ks (z 13) (y 24) (w 9) (w 10) (w 11) (v 28)) ∧ (∀ i, i < n → w 6 i = v 25 i ∧ w 7 i = v 26 i ∧ w 8 i = v 27 i ∧ (0 ≤ (w 6 i).toInt ∧ (w 6 i).toInt ≤ 9) ∧ (0 ≤ (w 7 i).toInt ∧ (w 7 i).toInt ≤ 5)) ∧ gm_Mt n (w 8)))
def gm_R (K n ln sn : Nat) (z : Nat → Int32) (w : Nat → Nat → Int32) (y : Nat → Int32) (v : Nat → Nat → Int32) : Prop :=
  gm_Rp ln (z 1) (y 1) (w 0) (v 0) ∧ gm_Rd n (z 2) (y 2) (w 17) (w 18) (w 19) (w 20) (w 21) (mw_k v) (mw_h v) (v 9) (v 10) (v 11) ∧ gm_Rs n sn (z 7) (y 15) (w 1) (w 2) (w 3) (v 16) ∧ gm_Rc z y ∧ gm_Ri K n z y w v
/-- both answer alike, and stay beside each other -/
def gm_Pair (X M : ah_F) (as : List Value) : Prop := ∀ (K n ln sn : Nat) (z : Nat → Int32) (w : Nat → Nat → Int32) (b : Int64) (y : Nat → Int32) (v : Nat → Nat → Int32) (c : Int64), gm_R K n ln sn z w y v → ∃ (r : Int32) (n2 ln2 sn2 : Nat) (z2 : Nat → Int32) (w2 : Nat → Nat → Int32) (b2 : Int64) (y2 : Nat → Int32) (v2 : Nat → Nat → Int32) (c2 : Int64), X as (hx z w b) = some (some (.int r), hx z2 w2 b2) ∧ M as (hm y v c) = some (some (.int r), hm y2 v2 c2) ∧ gm_R K n2 ln2 sn2 z2 w2 y2 v2
theorem gm_same {X M : ah_F} {as : List Value} {K n ln sn : Nat} {z : Nat → Int32} {w : Nat → Nat → Int32} {b : Int64} {y : Nat → Int32} {v : Nat → Nat → Int32} {c : Int64} (hR : gm_R K n ln sn z w y v) (r : Int32) (h1 : X as (hx z w b) = some (some (.int r), hx z w b)) (h2 : M as (hm y v c) = some (some (.int r), hm y v c)) : ∃ (r : Int32) (n2 ln2 sn2 : Nat) (z2 : Nat → Int32) (w2 : Nat → Nat → Int32) (b2 : Int64) (y2 : Nat → Int32) (v2 : Nat → Nat → Int32) (c2 : Int64), X as (hx z w b) = some (some (.int r), hx z2 w2 b2) ∧ M as (hm y v c) = some (some (.int r), hm y2 v2 c2) ∧ gm_R K n2 ln2 sn2 z2 w2 y2 v2 := ⟨r, n, ln, sn, z, w, b, y, v, c, h1, h2, hR⟩
/-- two drawers alike on n answer alike -/
theorem gm_tk_c {kd hd sz kd2 hd2 sz2 : Nat → Int32} {i j : Nat} (h1 : kd i = kd2 i ∧ hd i = hd2 i ∧ sz i = sz2 i) (h2 : kd j = kd2 j ∧ hd j = hd2 j ∧ sz j = sz2 j) : gm_tk kd hd sz i j = gm_tk kd2 hd2 sz2 i j := by
  unfold gm_tk
  rw [h1.1, h1.2.1, h1.2.2, h2.1, h2.2.1, h2.2.2]
theorem gm_mb_c {kd hd sz kd2 hd2 sz2 : Nat → Int32} {i j : Nat} (h1 : kd i = kd2 i ∧ hd i = hd2 i ∧ sz i = sz2 i) (h2 : kd j = kd2 j ∧ hd j = hd2 j ∧ sz j = sz2 j) : gm_mb kd hd sz i j = gm_mb kd2 hd2 sz2 i j := by
  unfold gm_mb
  rw [gm_tk_c h1 h2, gm_tk_c h2 h1]
theorem gm_ap_c {kd hd sz kd2 hd2 sz2 : Nat → Int32} {i j : Nat} (h1 : kd i = kd2 i ∧ hd i = hd2 i ∧ sz i = sz2 i) (h2 : kd j = kd2 j ∧ hd j = hd2 j ∧ sz j = sz2 j) : gm_ap kd sz i j = gm_ap kd2 sz2 i j := by
  unfold gm_ap
  rw [h1.1, h1.2.2, h2.2.2]
theorem gm_lk_c {kd hd sz kd2 hd2 sz2 : Nat → Int32} {i j : Nat} (h1 : kd i = kd2 i ∧ hd i = hd2 i ∧ sz i = sz2 i) (h2 : kd j = kd2 j ∧ hd j = hd2 j ∧ sz j = sz2 j) : gm_lk kd hd sz i j = gm_lk kd2 hd2 sz2 i j := by
  unfold gm_lk
  rw [gm_mb_c h1 h2, gm_ap_c h1 h2, gm_ap_c h2 h1]
section RL
variable {K n ln sn : Nat} {z : Nat → Int32} {w : Nat → Nat → Int32} {y : Nat → Int32} {v : Nat → Nat → Int32}
theorem gm_R.n7 (h : gm_R K n ln sn z w y v) : n ≤ 7 := h.2.1.1
theorem gm_R.zx (h : gm_R K n ln sn z w y v) : z 2 = nI n := h.2.1.2.1
theorem gm_R.zm (h : gm_R K n ln sn z w y v) : y 2 = nI n := h.2.1.2.2.1
theorem gm_R.rg (h : gm_R K n ln sn z w y v) : hx_rg w := h.2.1.2.2.2.1
theorem gm_R.sg (h : gm_R K n ln sn z w y v) {i : Nat} (hi : i < n) : w 17 i = mw_k v i ∧ w 18 i = mw_h v i ∧ w 19 i = v 9 i ∧ w 20 i = v 10 i ∧ w 21 i = v 11 i ∧ (0 ≤ (w 17 i).toInt ∧ (w 17 i).toInt ≤ 4) ∧ (w 18 i = 0 ∨ w 18 i = 1) ∧ (0 ≤ (w 20 i).toInt ∧ (w 20 i).toInt ≤ 5) := h.2.1.2.2.2.2.1 i hi
theorem gm_R.mo (h : gm_R K n ln sn z w y v) : hx_mo w n := fun i hi => by
  rcases h.2.1.2.2.2.2.2 i hi with e | ⟨j, h1, -, h2, -⟩
  · exact Or.inl e
  · exact Or.inr ⟨j, h1, h2⟩
theorem gm_R.st9 (h : gm_R K n ln sn z w y v) : ∀ i, i < n → 0 ≤ (w 20 i).toInt ∧ (w 20 i).toInt ≤ 9 := fun i hi => by
  have := (h.sg hi).2.2.2.2.2.2.2
  omega
theorem gm_R.a3 (h : gm_R K n ln sn z w y v) {i : Nat} (hi : i < n) : w 17 i = mw_k v i ∧ w 18 i = mw_h v i ∧ w 19 i = v 9 i := ⟨(h.sg hi).1, (h.sg hi).2.1, (h.sg hi).2.2.1⟩
theorem gm_R.lk (h : gm_R K n ln sn z w y v) {i j : Nat} (hi : i < n) (hj : j < n) : xw_lk w i j = mw_lk v i j := gm_lk_c (h.a3 hi) (h.a3 hj)
theorem gm_R.mb (h : gm_R K n ln sn z w y v) {i j : Nat} (hi : i < n) (hj : j < n) : xw_mb w i j = mw_mb v i j := gm_mb_c (h.a3 hi) (h.a3 hj)
theorem gm_R.ap (h : gm_R K n ln sn z w y v) {i j : Nat} (hi : i < n) (hj : j < n) : gm_ap (w 17) (w 19) i j = gm_ap (mw_k v) (v 9) i j := gm_ap_c (h.a3 hi) (h.a3 hj)
theorem gm_R.mt (h : gm_R K n ln sn z w y v) {i : Nat} (hi : i < n) : w 21 i = v 11 i := (h.sg hi).2.2.2.2.1
theorem gm_R.st (h : gm_R K n ln sn z w y v) {i : Nat} (hi : i < n) : w 20 i = v 10 i := (h.sg hi).2.2.2.1
end RL
section PR1
variable {g : Nat}
theorem gp_likeness (hg : 4000 ≤ g) (p q : Int32) : gm_Pair (aX11_likeness g) (aX12_likeness g) [.ref 0, .int p, .int q] := by
  intro K n ln sn z w b y v c hR
  refine gm_same hR (if (gm_is n p && (gm_is n q && decide (¬ p = q))) = true then xw_lk w p.toNatClampNeg q.toNatClampNeg else -101) ?_ ?_
  · obtain ⟨f, rfl⟩ : ∃ f, g = f + 1 := ⟨g - 1, by omega⟩
    unfold aX11_likeness
    rw [eX11_likeness]
    simp only [Option.bind_some, Option.bind_none, ah_rI_s, ah_rL_s, ah_rV_s, hx_v0, hx_fr0_0, hx_fr0_1, hx_fr0_2, hx_fr0_3, hx_fr0_4, hx_fi0_5, hx_sv0_5, hx_v1, hx_fr1_0, hx_fi1_1, hx_sv1_1, hx_v3, hx_fr3_0, hx_fr3_1, hx_fi3_2, hx_sv3_2, hx_fi3_3, hx_sv3_3, hx_fi3_4, hx_sv3_4, hx_fi3_5, hx_sv3_5, hx_fi3_6, hx_sv3_6, hx_fr3_7, hx_v5, hx_fi5_0, hx_sv5_0, hx_fr5_1, hx_fr5_2, hx_fr5_3, hx_fr5_4, hx_v11, hx_fi11_0, hx_sv11_0, hx_fr11_1, hx_fr11_2, hx_fr11_3, hx_fr11_4, hx_fi11_5, hx_sv11_5, hx_fi11_6, hx_sv11_6, hx_fi11_7, hx_sv11_7, hx_fi11_8, hx_sv11_8, hx_v15, hx_fi15_0, hx_sv15_0, hx_fr15_1, hx_fr15_2, hx_fr15_3, hx_fr15_4, hx_v20, hx_fi20_0, hx_sv20_0, hx_fi20_1, hx_sv20_1, hx_fi20_2, hx_sv20_2, hx_fi20_3, hx_sv20_3, hx_fr20_4, hx_fr20_5, hx_fr20_6, hx_fr20_7, hx_fi20_8, hx_sv20_8, hx_fi20_9, hx_sv20_9, hx_fi20_10, hx_sv20_10, hx_fi20_11, hx_sv20_11, hx_v25, hx_fi25_0, hx_sv25_0, hx_fi25_1, hx_sv25_1, hx_fl, hx_sl, hx_fr25_3, hx_li2, hx_ai2, hx_si2, hx_li6, hx_ai6, hx_si6, hx_li7, hx_ai7, hx_si7, hx_li8, hx_ai8, hx_si8, hx_li9, hx_ai9, hx_si9, hx_li10, hx_ai10, hx_si10, hx_li12, hx_ai12, hx_si12, hx_li13, hx_ai13, hx_si13, hx_li14, hx_ai14, hx_si14, hx_li16, hx_ai16, hx_si16, hx_li17, hx_ai17, hx_si17, hx_li18, hx_ai18, hx_si18, hx_li19, hx_ai19, hx_si19, hx_li21, hx_ai21, hx_si21, hx_li22, hx_ai22, hx_si22, hx_li24, hx_ai24, hx_si24, hx_li26, hx_ai26, hx_si26, hx_li27, hx_ai27, hx_si27, hx_li28, hx_ai28, hx_si28, hx_li29, hx_ai29, hx_si29, hx_li30, hx_ai30, hx_si30, hx_li31, hx_ai31, hx_si31, hx_li32, hx_ai32, hx_si32, hx_li33, hx_ai33, hx_si33, hx_lr4, hx_lr23, hx_sf0, hx_sf1, hx_ss1, hx_sf2, hx_ss2, hx_sf3, hx_ss3, hx_lkli, hx_lksi, sX0_hasTwo z w b hg hR.n7 hR.zx, bI_0]
    cases e : gm_is n p && (gm_is n q && decide (¬ p = q))
    · simp
    · rw [Bool.and_eq_true, Bool.and_eq_true] at e
      obtain ⟨i, hi, rfl⟩ := gm_is_i e.1
      obtain ⟨j, hj, rfl⟩ := gm_is_i e.2.1
      have h7 := hR.n7
      simp only [Option.bind_some, Option.bind_none, ah_rI_s, ah_rL_s, ah_rV_s, Bool.true_eq_false, if_false, if_true, sX0_likenessOf z w b hg hR.rg i j (by omega) (by omega), nI_clamp (show i < 2 ^ 31 by omega), nI_clamp (show j < 2 ^ 31 by omega)]
  · obtain ⟨f, rfl⟩ : ∃ f, g = f + 1 := ⟨g - 1, by omega⟩
    unfold aX12_likeness
    rw [eX12_likeness]
    simp only [Option.bind_some, Option.bind_none, ah_rI_s, ah_rL_s, ah_rV_s, hm_vI, hm_fr0, hm_li0, hm_ai0, hm_si0, hm_fi1, hm_sv1, hm_fi2, hm_sv2, hm_fi3, hm_sv3, hm_fi4, hm_sv4, hm_fi5, hm_sv5, hm_fi6, hm_sv6, hm_fi7, hm_sv7, hm_fr8, hm_li8, hm_ai8, hm_si8, hm_fr9, hm_li9, hm_ai9, hm_si9, hm_fr10, hm_li10, hm_ai10, hm_si10, hm_fr11, hm_li11, hm_ai11, hm_si11, hm_fr12, hm_li12, hm_ai12, hm_si12, hm_fr13, hm_li13, hm_ai13, hm_si13, hm_fr14, hm_li14, hm_ai14, hm_si14, hm_fi15, hm_sv15, hm_fr16, hm_li16, hm_ai16, hm_si16, hm_fr17, hm_li17, hm_ai17, hm_si17, hm_fi18, hm_sv18, hm_fi19, hm_sv19, hm_fi20, hm_sv20, hm_fi21, hm_sv21, hm_fi22, hm_sv22, hm_fi23, hm_sv23, hm_fi24, hm_sv24, hm_fr25, hm_li25, hm_ai25, hm_si25, hm_fr26, hm_li26, hm_ai26, hm_si26, hm_fr27, hm_li27, hm_ai27, hm_si27, hm_fr28, hm_li28, hm_ai28, hm_si28, hm_fl, hm_sl, sX12_areTwo y v c hg hR.n7 hR.zm, bI_0]
    cases e : gm_is n p && (gm_is n q && decide (¬ p = q))
    · simp
    · rw [Bool.and_eq_true, Bool.and_eq_true] at e
      obtain ⟨i, hi, rfl⟩ := gm_is_i e.1
      obtain ⟨j, hj, rfl⟩ := gm_is_i e.2.1
      have h7 := hR.n7
      simp only [Option.bind_some, Option.bind_none, ah_rI_s, ah_rL_s, ah_rV_s, Bool.true_eq_false, if_false, if_true, sX12_likenessOf y v c hg i j (by omega) (by omega), nI_clamp (show i < 2 ^ 31 by omega), nI_clamp (show j < 2 ^ 31 by omega)]
      rw [hR.lk hi hj]
theorem gp_apart (hg : 4000 ≤ g) (p q : Int32) : gm_Pair (aX11_apart g) (aX12_apart g) [.ref 0, .int p, .int q] := by
  intro K n ln sn z w b y v c hR
  refine gm_same hR (if (gm_is n p && (gm_is n q && decide (¬ p = q))) = true then gm_ap (w 17) (w 19) p.toNatClampNeg q.toNatClampNeg else -101) ?_ ?_
  · have hd := fun i j hi hj => hx_dist z w b hg hR.rg i j hi hj
    obtain ⟨f, rfl⟩ : ∃ f, g = f + 1 := ⟨g - 1, by omega⟩
    unfold aX11_apart
    rw [eX11_apart]
    simp only [Option.bind_some, Option.bind_none, ah_rI_s, ah_rL_s, ah_rV_s, hx_v0, hx_fr0_0, hx_fr0_1, hx_fr0_2, hx_fr0_3, hx_fr0_4, hx_fi0_5, hx_sv0_5, hx_v1, hx_fr1_0, hx_fi1_1, hx_sv1_1, hx_v3, hx_fr3_0, hx_fr3_1, hx_fi3_2, hx_sv3_2, hx_fi3_3, hx_sv3_3, hx_fi3_4, hx_sv3_4, hx_fi3_5, hx_sv3_5, hx_fi3_6, hx_sv3_6, hx_fr3_7, hx_v5, hx_fi5_0, hx_sv5_0, hx_fr5_1, hx_fr5_2, hx_fr5_3, hx_fr5_4, hx_v11, hx_fi11_0, hx_sv11_0, hx_fr11_1, hx_fr11_2, hx_fr11_3, hx_fr11_4, hx_fi11_5, hx_sv11_5, hx_fi11_6, hx_sv11_6, hx_fi11_7, hx_sv11_7, hx_fi11_8, hx_sv11_8, hx_v15, hx_fi15_0, hx_sv15_0, hx_fr15_1, hx_fr15_2, hx_fr15_3, hx_fr15_4, hx_v20, hx_fi20_0, hx_sv20_0, hx_fi20_1, hx_sv20_1, hx_fi20_2, hx_sv20_2, hx_fi20_3, hx_sv20_3, hx_fr20_4, hx_fr20_5, hx_fr20_6, hx_fr20_7, hx_fi20_8, hx_sv20_8, hx_fi20_9, hx_sv20_9, hx_fi20_10, hx_sv20_10, hx_fi20_11, hx_sv20_11, hx_v25, hx_fi25_0, hx_sv25_0, hx_fi25_1, hx_sv25_1, hx_fl, hx_sl, hx_fr25_3, hx_li2, hx_ai2, hx_si2, hx_li6, hx_ai6, hx_si6, hx_li7, hx_ai7, hx_si7, hx_li8, hx_ai8, hx_si8, hx_li9, hx_ai9, hx_si9, hx_li10, hx_ai10, hx_si10, hx_li12, hx_ai12, hx_si12, hx_li13, hx_ai13, hx_si13, hx_li14, hx_ai14, hx_si14, hx_li16, hx_ai16, hx_si16, hx_li17, hx_ai17, hx_si17, hx_li18, hx_ai18, hx_si18, hx_li19, hx_ai19, hx_si19, hx_li21, hx_ai21, hx_si21, hx_li22, hx_ai22, hx_si22, hx_li24, hx_ai24, hx_si24, hx_li26, hx_ai26, hx_si26, hx_li27, hx_ai27, hx_si27, hx_li28, hx_ai28, hx_si28, hx_li29, hx_ai29, hx_si29, hx_li30, hx_ai30, hx_si30, hx_li31, hx_ai31, hx_si31, hx_li32, hx_ai32, hx_si32, hx_li33, hx_ai33, hx_si33, hx_lr4, hx_lr23, hx_sf0, hx_sf1, hx_ss1, hx_sf2, hx_ss2, hx_sf3, hx_ss3, hx_lkli, hx_lksi, sX0_hasTwo z w b hg hR.n7 hR.zx, bI_0]
    cases e : gm_is n p && (gm_is n q && decide (¬ p = q))
    · simp
    · rw [Bool.and_eq_true, Bool.and_eq_true] at e
      obtain ⟨i, hi, rfl⟩ := gm_is_i e.1
      obtain ⟨j, hj, rfl⟩ := gm_is_i e.2.1
      have h7 := hR.n7
      have i7 : i < 7 := by omega
      have j7 : j < 7 := by omega
      obtain ⟨F, a1, a2⟩ := hd i j i7 j7
      simp only [Option.bind_some, Option.bind_none, ah_rI_s, ah_rL_s, ah_rV_s, hx_v0, hx_fr0_0, hx_fr0_1, hx_fr0_2, hx_fr0_3, hx_fr0_4, hx_fi0_5, hx_sv0_5, hx_v1, hx_fr1_0, hx_fi1_1, hx_sv1_1, hx_v3, hx_fr3_0, hx_fr3_1, hx_fi3_2, hx_sv3_2, hx_fi3_3, hx_sv3_3, hx_fi3_4, hx_sv3_4, hx_fi3_5, hx_sv3_5, hx_fi3_6, hx_sv3_6, hx_fr3_7, hx_v5, hx_fi5_0, hx_sv5_0, hx_fr5_1, hx_fr5_2, hx_fr5_3, hx_fr5_4, hx_v11, hx_fi11_0, hx_sv11_0, hx_fr11_1, hx_fr11_2, hx_fr11_3, hx_fr11_4, hx_fi11_5, hx_sv11_5, hx_fi11_6, hx_sv11_6, hx_fi11_7, hx_sv11_7, hx_fi11_8, hx_sv11_8, hx_v15, hx_fi15_0, hx_sv15_0, hx_fr15_1, hx_fr15_2, hx_fr15_3, hx_fr15_4, hx_v20, hx_fi20_0, hx_sv20_0, hx_fi20_1, hx_sv20_1, hx_fi20_2, hx_sv20_2, hx_fi20_3, hx_sv20_3, hx_fr20_4, hx_fr20_5, hx_fr20_6, hx_fr20_7, hx_fi20_8, hx_sv20_8, hx_fi20_9, hx_sv20_9, hx_fi20_10, hx_sv20_10, hx_fi20_11, hx_sv20_11, hx_v25, hx_fi25_0, hx_sv25_0, hx_fi25_1, hx_sv25_1, hx_fl, hx_sl, hx_fr25_3, hx_li2, hx_ai2, hx_si2, hx_li6, hx_ai6, hx_si6, hx_li7, hx_ai7, hx_si7, hx_li8, hx_ai8, hx_si8, hx_li9, hx_ai9, hx_si9, hx_li10, hx_ai10, hx_si10, hx_li12, hx_ai12, hx_si12, hx_li13, hx_ai13, hx_si13, hx_li14, hx_ai14, hx_si14, hx_li16, hx_ai16, hx_si16, hx_li17, hx_ai17, hx_si17, hx_li18, hx_ai18, hx_si18, hx_li19, hx_ai19, hx_si19, hx_li21, hx_ai21, hx_si21, hx_li22, hx_ai22, hx_si22, hx_li24, hx_ai24, hx_si24, hx_li26, hx_ai26, hx_si26, hx_li27, hx_ai27, hx_si27, hx_li28, hx_ai28, hx_si28, hx_li29, hx_ai29, hx_si29, hx_li30, hx_ai30, hx_si30, hx_li31, hx_ai31, hx_si31, hx_li32, hx_ai32, hx_si32, hx_li33, hx_ai33, hx_si33, hx_lr4, hx_lr23, hx_sf0, hx_sf1, hx_ss1, hx_sf2, hx_ss2, hx_sf3, hx_ss3, hx_lkli, hx_lksi, i7, j7, Bool.true_eq_false, if_false, if_true, a1, a2, nI_clamp (show i < 2 ^ 31 by omega), nI_clamp (show j < 2 ^ 31 by omega)]
  · obtain ⟨f, rfl⟩ : ∃ f, g = f + 1 := ⟨g - 1, by omega⟩
    unfold aX12_apart
    rw [eX12_apart]
    simp only [Option.bind_some, Option.bind_none, ah_rI_s, ah_rL_s, ah_rV_s, hm_vI, hm_fr0, hm_li0, hm_ai0, hm_si0, hm_fi1, hm_sv1, hm_fi2, hm_sv2, hm_fi3, hm_sv3, hm_fi4, hm_sv4, hm_fi5, hm_sv5, hm_fi6, hm_sv6, hm_fi7, hm_sv7, hm_fr8, hm_li8, hm_ai8, hm_si8, hm_fr9, hm_li9, hm_ai9, hm_si9, hm_fr10, hm_li10, hm_ai10, hm_si10, hm_fr11, hm_li11, hm_ai11, hm_si11, hm_fr12, hm_li12, hm_ai12, hm_si12, hm_fr13, hm_li13, hm_ai13, hm_si13, hm_fr14, hm_li14, hm_ai14, hm_si14, hm_fi15, hm_sv15, hm_fr16, hm_li16, hm_ai16, hm_si16, hm_fr17, hm_li17, hm_ai17, hm_si17, hm_fi18, hm_sv18, hm_fi19, hm_sv19, hm_fi20, hm_sv20, hm_fi21, hm_sv21, hm_fi22, hm_sv22, hm_fi23, hm_sv23, hm_fi24, hm_sv24, hm_fr25, hm_li25, hm_ai25, hm_si25, hm_fr26, hm_li26, hm_ai26, hm_si26, hm_fr27, hm_li27, hm_ai27, hm_si27, hm_fr28, hm_li28, hm_ai28, hm_si28, hm_fl, hm_sl, sX12_areTwo y v c hg hR.n7 hR.zm, bI_0]
    cases e : gm_is n p && (gm_is n q && decide (¬ p = q))
    · simp
    · rw [Bool.and_eq_true, Bool.and_eq_true] at e
      obtain ⟨i, hi, rfl⟩ := gm_is_i e.1
      obtain ⟨j, hj, rfl⟩ := gm_is_i e.2.1
      have h7 := hR.n7
      simp only [Option.bind_some, Option.bind_none, ah_rI_s, ah_rL_s, ah_rV_s, Bool.true_eq_false, if_false, if_true, sX12_apartOf y v c hg i j (by omega) (by omega), nI_clamp (show i < 2 ^ 31 by omega), nI_clamp (show j < 2 ^ 31 by omega)]
      rw [hR.ap hi hj]
end PR1
