/-! pair: winters -/
theorem lL_div {a d : Nat} (ha : a < 2 ^ 63) (hd : d < 2 ^ 63) : lN a / lN d = lN (a / d) := (Int64.ofNat_div ha hd).symm
theorem lL_rem {a d : Nat} (ha : a < 2 ^ 63) (hd : d < 2 ^ 63) : lN a - lN a / lN d * lN d = lN (a % d) := by
  have h := Nat.div_add_mod a d
  have h2 : d * (a / d) = a / d * d := Nat.mul_comm _ _
  rw [lL_div ha hd, lN_mul, lN_sub (by omega)]
  exact congrArg lN (by omega)
theorem lL_mask {a : Nat} (ha : a < 2 ^ 63) : lN a &&& 2147483647 = lN (a % 2147483648) := by
  apply Int64.toBitVec_inj.mp
  rw [Int64.toBitVec_and]
  apply BitVec.eq_of_toNat_eq
  rw [BitVec.toNat_and]
  show (BitVec.ofNat 64 a).toNat &&& (2147483647#64).toNat = (BitVec.ofNat 64 (a % 2147483648)).toNat
  rw [BitVec.toNat_ofNat, BitVec.toNat_ofNat, BitVec.toNat_ofNat, Nat.mod_eq_of_lt (show a < 2 ^ 64 by omega), Nat.mod_eq_of_lt (show a % 2147483648 < 2 ^ 64 by omega), Nat.mod_eq_of_lt (show 2147483647 < 2 ^ 64 by decide)]
  exact Nat.and_two_pow_sub_one_eq_mod a 31
def gm_nx (S : Nat) : Nat := (1103515245 * S + 12345) % 2147483648
theorem gm_nx_lt (S : Nat) : gm_nx S < 2147483648 := Nat.mod_lt _ (by decide)
theorem lL_sd (S : Nat) : (1103515245 * lN S + 12345 : Int64) = lN (1103515245 * S + 12345) := by
  rw [show (1103515245 : Int64) = lN 1103515245 from rfl, show (12345 : Int64) = lN 12345 from rfl, lN_mul, lN_add]
theorem lL_dX {S : Nat} (hS : S < 2147483648) : (((1103515245 * lN S) + 12345) : Int64) - ((1103515245 * lN S) + 12345) / 2147483648 * 2147483648 = lN (gm_nx S) := by
  rw [lL_sd, show (2147483648 : Int64) = lN 2147483648 from rfl]
  exact lL_rem (by omega) (by decide)
theorem lL_dM {S : Nat} (hS : S < 2147483648) : (((1103515245 * ((nI S : Int32).toInt64)) + 12345) &&& 2147483647 : Int64).toInt32 = nI (gm_nx S) := by
  rw [nI_l (by omega), lL_sd, lL_mask (by omega), lN_i]
  rfl
abbrev gm_ws : Type := Nat × (Nat → Bool) × Int32 × Int32
def gm_wst (mb : Nat → Nat → Bool) (lk : Nat → Nat → Int32) (n : Nat) (x : gm_ws) (_ : Nat) : gm_ws :=
  if (!x.2.1 (gm_nx x.1 / 65536 % n) && (!x.2.1 (gm_nx (gm_nx x.1) / 65536 % n) && mb (gm_nx x.1 / 65536 % n) (gm_nx (gm_nx x.1) / 65536 % n))) = true then
    (gm_nx (gm_nx x.1), fun i => if i = gm_nx x.1 / 65536 % n ∨ i = gm_nx (gm_nx x.1) / 65536 % n then true else x.2.1 i, x.2.2.1 + 1, x.2.2.2 + lk (gm_nx x.1 / 65536 % n) (gm_nx (gm_nx x.1) / 65536 % n))
  else (gm_nx (gm_nx x.1), x.2)
section WIN
variable {g : Nat}
theorem n64_a : ((2147483648 : Int64) = 0) = False := eq_false (by decide)
theorem n64_b : ((65536 : Int64) = 0) = False := eq_false (by decide)
theorem n32_b : ((65536 : Int32) = 0) = False := eq_false (by decide)
theorem sX10_draw (hg : 4000 ≤ g) (z : Nat → Int32) (w : Nat → Nat → Int32) {S n : Nat} (hS : S < 2147483648) (hn : n ≤ 7) (h0 : 0 < n) : aX10_draw g [.ref 25, .int (nI n)] (hx z w (lN S)) = some (some (.int (nI (gm_nx S / 65536 % n))), hx z w (lN (gm_nx S))) := by
  have hx := gm_nx_lt S
  have e1 : (nI n).toInt64 = lN n := nI_l (by omega)
  have e2 : (lN n = 0) = False := eq_false (fun e => by
    have := (lN_eq (a := n) (b := 0) (by omega) (by omega)).mp e
    omega)
  have e3 : ((0 : Int32) < nI n) = True := by
    rw [nI_gt0 (by omega)]
    exact eq_true h0
  have e4 : lN (gm_nx S) / 65536 = lN (gm_nx S / 65536) := lL_div (d := 65536) (by omega) (by decide)
  have e5 : lN (gm_nx S / 65536) - lN (gm_nx S / 65536) / lN n * lN n = lN (gm_nx S / 65536 % n) := lL_rem (by omega) (by omega)
  obtain ⟨f, rfl⟩ : ∃ f, g = f + 1 := ⟨g - 1, by omega⟩
  unfold aX10_draw
  rw [eX10_draw]
  simp only [ob_s, ob_n, ar_I, ar_L, ar_V, hx_v0, hx_fr0_0, hx_fr0_1, hx_fr0_2, hx_fr0_3, hx_fr0_4, hx_fi0_5, hx_sv0_5, hx_v1, hx_fr1_0, hx_fi1_1, hx_sv1_1, hx_v3, hx_fr3_0, hx_fr3_1, hx_fi3_2, hx_sv3_2, hx_fi3_3, hx_sv3_3, hx_fi3_4, hx_sv3_4, hx_fi3_5, hx_sv3_5, hx_fi3_6, hx_sv3_6, hx_fr3_7, hx_v5, hx_fi5_0, hx_sv5_0, hx_fr5_1, hx_fr5_2, hx_fr5_3, hx_fr5_4, hx_v11, hx_fi11_0, hx_sv11_0, hx_fr11_1, hx_fr11_2, hx_fr11_3, hx_fr11_4, hx_fi11_5, hx_sv11_5, hx_fi11_6, hx_sv11_6, hx_fi11_7, hx_sv11_7, hx_fi11_8, hx_sv11_8, hx_v15, hx_fi15_0, hx_sv15_0, hx_fr15_1, hx_fr15_2, hx_fr15_3, hx_fr15_4, hx_v20, hx_fi20_0, hx_sv20_0, hx_fi20_1, hx_sv20_1, hx_fi20_2, hx_sv20_2, hx_fi20_3, hx_sv20_3, hx_fr20_4, hx_fr20_5, hx_fr20_6, hx_fr20_7, hx_fi20_8, hx_sv20_8, hx_fi20_9, hx_sv20_9, hx_fi20_10, hx_sv20_10, hx_fi20_11, hx_sv20_11, hx_v25, hx_fi25_0, hx_sv25_0, hx_fi25_1, hx_sv25_1, hx_fl, hx_sl, hx_fr25_3, hx_li2, hx_ai2, hx_si2, hx_li6, hx_ai6, hx_si6, hx_li7, hx_ai7, hx_si7, hx_li8, hx_ai8, hx_si8, hx_li9, hx_ai9, hx_si9, hx_li10, hx_ai10, hx_si10, hx_li12, hx_ai12, hx_si12, hx_li13, hx_ai13, hx_si13, hx_li14, hx_ai14, hx_si14, hx_li16, hx_ai16, hx_si16, hx_li17, hx_ai17, hx_si17, hx_li18, hx_ai18, hx_si18, hx_li19, hx_ai19, hx_si19, hx_li21, hx_ai21, hx_si21, hx_li22, hx_ai22, hx_si22, hx_li24, hx_ai24, hx_si24, hx_li26, hx_ai26, hx_si26, hx_li27, hx_ai27, hx_si27, hx_li28, hx_ai28, hx_si28, hx_li29, hx_ai29, hx_si29, hx_li30, hx_ai30, hx_si30, hx_li31, hx_ai31, hx_si31, hx_li32, hx_ai32, hx_si32, hx_li33, hx_ai33, hx_si33, hx_lr4, hx_lr23, hx_sf0, hx_sf1, hx_ss1, hx_sf2, hx_ss2, hx_sf3, hx_ss3, hx_lkli, hx_lksi, n64_a, n64_b, if_false, lL_dX hS, e1, e2, e3, if_true, e4, e5, lN_i]
theorem sX12_draw (hg : 4000 ≤ g) (y : Nat → Int32) (v : Nat → Nat → Int32) (c : Int64) {S n : Nat} (hS : S < 2147483648) (hy : y 18 = nI S) (hn : n ≤ 7) (h0 : 0 < n) : aX12_draw g [.ref 0, .int (nI n)] (hm y v c) = some (some (.int (nI (gm_nx S / 65536 % n))), hm (va_up y 18 (nI (gm_nx S))) v c) := by
  have hx := gm_nx_lt S
  have e2 : (nI n = 0) = False := eq_false (nI_ne0 h0 (by omega))
  have e4 : nI (gm_nx S) / 65536 = nI (gm_nx S / 65536) := pk_div (d := 65536) (by omega) (by decide) (by decide)
  have e5 : nI (gm_nx S / 65536) - nI (gm_nx S / 65536) / nI n * nI n = nI (gm_nx S / 65536 % n) := pk_rem (by omega) h0 (by omega)
  obtain ⟨f, rfl⟩ : ∃ f, g = f + 1 := ⟨g - 1, by omega⟩
  unfold aX12_draw
  rw [eX12_draw]
  simp only [ob_s, ob_n, ar_I, ar_L, ar_V, hm_vI, hm_fr0, hm_li0, hm_ai0, hm_si0, hm_fi1, hm_sv1, hm_fi2, hm_sv2, hm_fi3, hm_sv3, hm_fi4, hm_sv4, hm_fi5, hm_sv5, hm_fi6, hm_sv6, hm_fi7, hm_sv7, hm_fr8, hm_li8, hm_ai8, hm_si8, hm_fr9, hm_li9, hm_ai9, hm_si9, hm_fr10, hm_li10, hm_ai10, hm_si10, hm_fr11, hm_li11, hm_ai11, hm_si11, hm_fr12, hm_li12, hm_ai12, hm_si12, hm_fr13, hm_li13, hm_ai13, hm_si13, hm_fr14, hm_li14, hm_ai14, hm_si14, hm_fi15, hm_sv15, hm_fr16, hm_li16, hm_ai16, hm_si16, hm_fr17, hm_li17, hm_ai17, hm_si17, hm_fi18, hm_sv18, hm_fi19, hm_sv19, hm_fi20, hm_sv20, hm_fi21, hm_sv21, hm_fi22, hm_sv22, hm_fi23, hm_sv23, hm_fi24, hm_sv24, hm_fr25, hm_li25, hm_ai25, hm_si25, hm_fr26, hm_li26, hm_ai26, hm_si26, hm_fr27, hm_li27, hm_ai27, hm_si27, hm_fr28, hm_li28, hm_ai28, hm_si28, hm_fl, hm_sl, hy, lL_dM hS, va_l, Nat.reduceEqDiff, reduceIte, n32_b, e2, e4, e5]
theorem sX10_meet (hg : 4000 ≤ g) (z : Nat → Int32) (w : Nat → Nat → Int32) (b : Int64) (hr : hx_rg w) {n : Nat} (hn : n ≤ 7) (hz : z 2 = nI n) (tk : Nat → Bool) (ht : ∀ i, i < n → w 16 i = bI (tk i)) (i j : Nat) (hi : i < n) (hj : j < n) : ∃ t, (∀ k, k < n → t k = bI (if (!tk i && (!tk j && xw_mb w i j)) = true then (if k = i ∨ k = j then true else tk k) else tk k)) ∧ aX10_meet g [.ref 25, .ref 3, .int (nI i), .int (nI j)] (hx z w b) = some (none, hx (if (!tk i && (!tk j && xw_mb w i j)) = true then va_up (va_up z 22 (z 22 + 1)) 23 (z 23 + xw_lk w i j) else z) (va_up w 16 t) b) := by
  have i7 : i < 7 := by omega
  have j7 : j < 7 := by omega
  have mi : ∀ f : Nat → Int32, ah_rd f 7 (nI i) = some (f i) := fun f => ah_rdN i7 (by decide)
  have mj : ∀ f : Nat → Int32, ah_rd f 7 (nI j) = some (f j) := fun f => ah_rdN j7 (by decide)
  have hht := sX0_hasTwo z w b hg hn hz (nI i) (nI j)
  rw [gm_is_n hi (by omega), gm_is_n hj (by omega)] at hht
  have hdec : (true && (true && decide (¬ nI i = nI j))) = decide (¬ i = j) := by
    simp only [nI_eqi (show i < 1000 by omega) (show j < 1000 by omega), Bool.true_and]
  rw [hdec] at hht
  have hlk := gm_lk_ne (kd := w 17) (hd := w 18) hr i7 j7
  cases hc : (!tk i && (!tk j && xw_mb w i j))
  · refine ⟨w 16, fun k hk => by rw [if_neg (by decide)]; exact ht k hk, ?_⟩
    rw [if_neg (by decide), gm_up_id]
    obtain ⟨f, rfl⟩ : ∃ f, g = f + 1 := ⟨g - 1, by omega⟩
    unfold aX10_meet
    rw [eX10_meet]
    simp only [ob_s, ob_n, ar_I, ar_L, ar_V, hx_v0, hx_fr0_0, hx_fr0_1, hx_fr0_2, hx_fr0_3, hx_fr0_4, hx_fi0_5, hx_sv0_5, hx_v1, hx_fr1_0, hx_fi1_1, hx_sv1_1, hx_v3, hx_fr3_0, hx_fr3_1, hx_fi3_2, hx_sv3_2, hx_fi3_3, hx_sv3_3, hx_fi3_4, hx_sv3_4, hx_fi3_5, hx_sv3_5, hx_fi3_6, hx_sv3_6, hx_fr3_7, hx_v5, hx_fi5_0, hx_sv5_0, hx_fr5_1, hx_fr5_2, hx_fr5_3, hx_fr5_4, hx_v11, hx_fi11_0, hx_sv11_0, hx_fr11_1, hx_fr11_2, hx_fr11_3, hx_fr11_4, hx_fi11_5, hx_sv11_5, hx_fi11_6, hx_sv11_6, hx_fi11_7, hx_sv11_7, hx_fi11_8, hx_sv11_8, hx_v15, hx_fi15_0, hx_sv15_0, hx_fr15_1, hx_fr15_2, hx_fr15_3, hx_fr15_4, hx_v20, hx_fi20_0, hx_sv20_0, hx_fi20_1, hx_sv20_1, hx_fi20_2, hx_sv20_2, hx_fi20_3, hx_sv20_3, hx_fr20_4, hx_fr20_5, hx_fr20_6, hx_fr20_7, hx_fi20_8, hx_sv20_8, hx_fi20_9, hx_sv20_9, hx_fi20_10, hx_sv20_10, hx_fi20_11, hx_sv20_11, hx_v25, hx_fi25_0, hx_sv25_0, hx_fi25_1, hx_sv25_1, hx_fl, hx_sl, hx_fr25_3, hx_li2, hx_ai2, hx_si2, hx_li6, hx_ai6, hx_si6, hx_li7, hx_ai7, hx_si7, hx_li8, hx_ai8, hx_si8, hx_li9, hx_ai9, hx_si9, hx_li10, hx_ai10, hx_si10, hx_li12, hx_ai12, hx_si12, hx_li13, hx_ai13, hx_si13, hx_li14, hx_ai14, hx_si14, hx_li16, hx_ai16, hx_si16, hx_li17, hx_ai17, hx_si17, hx_li18, hx_ai18, hx_si18, hx_li19, hx_ai19, hx_si19, hx_li21, hx_ai21, hx_si21, hx_li22, hx_ai22, hx_si22, hx_li24, hx_ai24, hx_si24, hx_li26, hx_ai26, hx_si26, hx_li27, hx_ai27, hx_si27, hx_li28, hx_ai28, hx_si28, hx_li29, hx_ai29, hx_si29, hx_li30, hx_ai30, hx_si30, hx_li31, hx_ai31, hx_si31, hx_li32, hx_ai32, hx_si32, hx_li33, hx_ai33, hx_si33, hx_lr4, hx_lr23, hx_sf0, hx_sf1, hx_ss1, hx_sf2, hx_ss2, hx_sf3, hx_ss3, hx_lkli, hx_lksi, hht, mi, mj, ht i hi, ht j hj, bI_0, sX0_likenessOf z w b hg hr i j i7 j7, hlk]
    by_cases c1 : i = j
    · rw [if_pos (decide_eq_false (fun h => h c1))]
    · rw [if_neg (by rw [decide_eq_true c1]; decide)]
      cases c2 : tk i
      · rw [if_pos rfl]
        cases c3 : tk j
        · rw [if_pos rfl]
          rw [c2, c3] at hc
          have hc : gm_mb (w 17) (w 18) (w 19) i j = false := hc
          rw [if_pos hc]
        · rw [if_neg (by decide)]
      · rw [if_neg (by decide)]
  · rw [Bool.and_eq_true, Bool.and_eq_true] at hc
    obtain ⟨q1, q2, q3⟩ := hc
    have c2 : tk i = false := by cases e : tk i; rfl; rw [e] at q1; cases q1
    have c3 : tk j = false := by cases e : tk j; rfl; rw [e] at q2; cases q2
    have c1 : ¬ i = j := by
      have h4 : (decide (¬ i = j) && _) = true := q3
      rw [Bool.and_eq_true] at h4
      exact of_decide_eq_true h4.1
    have c4 : (gm_mb (w 17) (w 18) (w 19) i j = false) = False := by
      rw [show gm_mb (w 17) (w 18) (w 19) i j = true from q3]
      exact eq_false (by decide)
    refine ⟨upd (upd (w 16) i 1) j 1, fun k hk => ?_, ?_⟩
    · rw [if_pos rfl]
      by_cases d1 : k = j
      · rw [d1, upd_self, if_pos (Or.inr rfl)]
        rfl
      · rw [upd_ne _ _ d1]
        by_cases d2 : k = i
        · rw [d2, upd_self, if_pos (Or.inl rfl)]
          rfl
        · rw [upd_ne _ _ d2, if_neg (fun h => h.elim d2 d1)]
          exact ht k hk
    · rw [if_pos rfl]
      have s1 := hx_si26 z w b i 1 i7
      have s2 := hx_si26 z (va_up w 16 (upd (w 16) i 1)) b j 1 j7
      simp only [va_l, Nat.reduceEqDiff, reduceIte, bx_uu] at s2
      obtain ⟨f, rfl⟩ : ∃ f, g = f + 1 := ⟨g - 1, by omega⟩
      unfold aX10_meet
      rw [eX10_meet]
      simp only [ob_s, ob_n, ar_I, ar_L, ar_V, hx_v0, hx_fr0_0, hx_fr0_1, hx_fr0_2, hx_fr0_3, hx_fr0_4, hx_fi0_5, hx_sv0_5, hx_v1, hx_fr1_0, hx_fi1_1, hx_sv1_1, hx_v3, hx_fr3_0, hx_fr3_1, hx_fi3_2, hx_sv3_2, hx_fi3_3, hx_sv3_3, hx_fi3_4, hx_sv3_4, hx_fi3_5, hx_sv3_5, hx_fi3_6, hx_sv3_6, hx_fr3_7, hx_v5, hx_fi5_0, hx_sv5_0, hx_fr5_1, hx_fr5_2, hx_fr5_3, hx_fr5_4, hx_v11, hx_fi11_0, hx_sv11_0, hx_fr11_1, hx_fr11_2, hx_fr11_3, hx_fr11_4, hx_fi11_5, hx_sv11_5, hx_fi11_6, hx_sv11_6, hx_fi11_7, hx_sv11_7, hx_fi11_8, hx_sv11_8, hx_v15, hx_fi15_0, hx_sv15_0, hx_fr15_1, hx_fr15_2, hx_fr15_3, hx_fr15_4, hx_v20, hx_fi20_0, hx_sv20_0, hx_fi20_1, hx_sv20_1, hx_fi20_2, hx_sv20_2, hx_fi20_3, hx_sv20_3, hx_fr20_4, hx_fr20_5, hx_fr20_6, hx_fr20_7, hx_fi20_8, hx_sv20_8, hx_fi20_9, hx_sv20_9, hx_fi20_10, hx_sv20_10, hx_fi20_11, hx_sv20_11, hx_v25, hx_fi25_0, hx_sv25_0, hx_fi25_1, hx_sv25_1, hx_fl, hx_sl, hx_fr25_3, hx_li2, hx_ai2, hx_si2, hx_li6, hx_ai6, hx_si6, hx_li7, hx_ai7, hx_si7, hx_li8, hx_ai8, hx_si8, hx_li9, hx_ai9, hx_si9, hx_li10, hx_ai10, hx_si10, hx_li12, hx_ai12, hx_si12, hx_li13, hx_ai13, hx_si13, hx_li14, hx_ai14, hx_si14, hx_li16, hx_ai16, hx_si16, hx_li17, hx_ai17, hx_si17, hx_li18, hx_ai18, hx_si18, hx_li19, hx_ai19, hx_si19, hx_li21, hx_ai21, hx_si21, hx_li22, hx_ai22, hx_si22, hx_li24, hx_ai24, hx_si24, hx_li26, hx_ai26, hx_si26, hx_li27, hx_ai27, hx_si27, hx_li28, hx_ai28, hx_si28, hx_li29, hx_ai29, hx_si29, hx_li30, hx_ai30, hx_si30, hx_li31, hx_ai31, hx_si31, hx_li32, hx_ai32, hx_si32, hx_li33, hx_ai33, hx_si33, hx_lr4, hx_lr23, hx_sf0, hx_sf1, hx_ss1, hx_sf2, hx_ss2, hx_sf3, hx_ss3, hx_lkli, hx_lksi, hht, c1, not_false_eq_true, decide_true, bI_t, n32_10, if_false, mi, mj, ht i hi, ht j hj, c2, c3, bI_f, n32_00, if_true, sX0_likenessOf z w b hg hr i j i7 j7, hlk, c4, or_true, s1, s2, va_l, Nat.reduceEqDiff, reduceIte]
theorem sX10_pass (hg : 4000 ≤ g) (z : Nat → Int32) (w : Nat → Nat → Int32) (b : Int64) (hr : hx_rg w) {n : Nat} (hn : n ≤ 7) (hz : z 2 = nI n) (hmo : hx_mo w n) (h0 : 0 < n) {S T : Nat} (hS : S < 2147483648) (hT : T ≤ 60) (x : gm_ws) (hxe : gm_lp (gm_wst (xw_mb w) (xw_lk w) n) T 0 (S, fun i => !decide (w 21 i = -1), 0, 0) = x) : ∃ t, aX10_pass g [.ref 25, .ref 3, .int (nI T), .int (nI S)] (hx z w b) = some (none, hx (va_up (va_up z 22 x.2.2.1) 23 x.2.2.2) (va_up w 16 t) (lN x.1)) := by
  have loop2 : ∀ (k i F : Nat) (t : Nat → Int32) (x : gm_ws), i + k = T → k + 1 ≤ F → x.1 < 2147483648 → (∀ q, q < n → t q = bI (x.2.1 q)) → ∃ t2, ah_run (kX10_pass g) F 50 [(0, .ref 25), (1, .ref 3), (2, .int (nI T)), (4, .int (nI i))] [] (hx (va_up (va_up z 22 x.2.2.1) 23 x.2.2.2) (va_up w 16 t) (lN x.1)) = some (none, hx (va_up (va_up z 22 (gm_lp (gm_wst (xw_mb w) (xw_lk w) n) k i x).2.2.1) 23 (gm_lp (gm_wst (xw_mb w) (xw_lk w) n) k i x).2.2.2) (va_up w 16 t2) (lN (gm_lp (gm_wst (xw_mb w) (xw_lk w) n) k i x).1)) := by
    intro k
    induction k with
    | zero =>
      intro i F t x hi hF hS ht
      obtain ⟨f, rfl⟩ : ∃ f, F = f + 1 := ⟨F - 1, by omega⟩
      have e : i = T := by omega
      subst e
      refine ⟨t, ?_⟩
      simp only [rX10_pass_50, nI_ltnn (show i < 1000 by omega), if_false]
      rfl
    | succ k ih =>
      intro i F t x hi hF hS ht
      obtain ⟨f, rfl⟩ : ∃ f, F = f + 1 := ⟨F - 1, by omega⟩
      have d1 := sX10_draw hg (va_up (va_up z 22 x.2.2.1) 23 x.2.2.2) (va_up w 16 t) hS hn h0
      have d2 := sX10_draw hg (va_up (va_up z 22 x.2.2.1) 23 x.2.2.2) (va_up w 16 t) (gm_nx_lt x.1) hn h0
      obtain ⟨t2, h1, h2⟩ := sX10_meet hg (va_up (va_up z 22 x.2.2.1) 23 x.2.2.2) (va_up w 16 t) (lN (gm_nx (gm_nx x.1))) (show hx_rg (va_up w 16 t) from hr) hn hz x.2.1 ht (gm_nx x.1 / 65536 % n) (gm_nx (gm_nx x.1) / 65536 % n) (Nat.mod_lt _ h0) (Nat.mod_lt _ h0)
      have hxm : xw_mb (va_up w 16 t) = xw_mb w := rfl
      have hxl : xw_lk (va_up w 16 t) = xw_lk w := rfl
      rw [hxm] at h1
      rw [hxm, hxl, bx_uu] at h2
      simp only [rX10_pass_50, ob_s, ob_n, ar_I, ar_L, ar_V, hx_v0, hx_fr0_0, hx_fr0_1, hx_fr0_2, hx_fr0_3, hx_fr0_4, hx_fi0_5, hx_sv0_5, hx_v1, hx_fr1_0, hx_fi1_1, hx_sv1_1, hx_v3, hx_fr3_0, hx_fr3_1, hx_fi3_2, hx_sv3_2, hx_fi3_3, hx_sv3_3, hx_fi3_4, hx_sv3_4, hx_fi3_5, hx_sv3_5, hx_fi3_6, hx_sv3_6, hx_fr3_7, hx_v5, hx_fi5_0, hx_sv5_0, hx_fr5_1, hx_fr5_2, hx_fr5_3, hx_fr5_4, hx_v11, hx_fi11_0, hx_sv11_0, hx_fr11_1, hx_fr11_2, hx_fr11_3, hx_fr11_4, hx_fi11_5, hx_sv11_5, hx_fi11_6, hx_sv11_6, hx_fi11_7, hx_sv11_7, hx_fi11_8, hx_sv11_8, hx_v15, hx_fi15_0, hx_sv15_0, hx_fr15_1, hx_fr15_2, hx_fr15_3, hx_fr15_4, hx_v20, hx_fi20_0, hx_sv20_0, hx_fi20_1, hx_sv20_1, hx_fi20_2, hx_sv20_2, hx_fi20_3, hx_sv20_3, hx_fr20_4, hx_fr20_5, hx_fr20_6, hx_fr20_7, hx_fi20_8, hx_sv20_8, hx_fi20_9, hx_sv20_9, hx_fi20_10, hx_sv20_10, hx_fi20_11, hx_sv20_11, hx_v25, hx_fi25_0, hx_sv25_0, hx_fi25_1, hx_sv25_1, hx_fl, hx_sl, hx_fr25_3, hx_li2, hx_ai2, hx_si2, hx_li6, hx_ai6, hx_si6, hx_li7, hx_ai7, hx_si7, hx_li8, hx_ai8, hx_si8, hx_li9, hx_ai9, hx_si9, hx_li10, hx_ai10, hx_si10, hx_li12, hx_ai12, hx_si12, hx_li13, hx_ai13, hx_si13, hx_li14, hx_ai14, hx_si14, hx_li16, hx_ai16, hx_si16, hx_li17, hx_ai17, hx_si17, hx_li18, hx_ai18, hx_si18, hx_li19, hx_ai19, hx_si19, hx_li21, hx_ai21, hx_si21, hx_li22, hx_ai22, hx_si22, hx_li24, hx_ai24, hx_si24, hx_li26, hx_ai26, hx_si26, hx_li27, hx_ai27, hx_si27, hx_li28, hx_ai28, hx_si28, hx_li29, hx_ai29, hx_si29, hx_li30, hx_ai30, hx_si30, hx_li31, hx_ai31, hx_si31, hx_li32, hx_ai32, hx_si32, hx_li33, hx_ai33, hx_si33, hx_lr4, hx_lr23, hx_sf0, hx_sf1, hx_ss1, hx_sf2, hx_ss2, hx_sf3, hx_ss3, hx_lkli, hx_lksi, va_l, Nat.reduceEqDiff, reduceIte, nI_ltin (show i < T by omega) (show T < 1000 by omega), hz, d1, d2, h2, nI_1]
      rw [gm_lp_s]
      obtain ⟨t3, h3⟩ := ih (i + 1) f t2 (gm_wst (xw_mb w) (xw_lk w) n x i) (by omega) (by omega) (by
        unfold gm_wst
        split <;> exact gm_nx_lt _) (fun q hq => by
        rw [h1 q hq]
        unfold gm_wst
        split <;> rfl)
      refine ⟨t3, ?_⟩
      rw [← h3]
      have hh : ∀ Z Z2 : Nat → Int32, Z = Z2 → ∀ B B2 : Int64, B = B2 → ah_run (kX10_pass g) f 50 [(0, .ref 25), (1, .ref 3), (2, .int (nI T)), (4, .int (nI (i + 1)))] [] (hx Z (va_up w 16 t2) B) = ah_run (kX10_pass g) f 50 [(0, .ref 25), (1, .ref 3), (2, .int (nI T)), (4, .int (nI (i + 1)))] [] (hx Z2 (va_up w 16 t2) B2) := fun Z Z2 e B B2 e2 => by rw [e, e2]
      refine hh _ _ ?_ _ _ ?_
      · unfold gm_wst
        split
        · simp only [va_l, Nat.reduceEqDiff, reduceIte]
          rw [va_2 _ _ _ _ _ (by decide)]
        · rfl
      · unfold gm_wst
        split <;> rfl
  have loop1 : ∀ (k i F : Nat), i + k = n → k + 70 ≤ F → ∃ t2, ah_run (kX10_pass g) F 19 [(0, .ref 25), (1, .ref 3), (2, .int (nI T)), (4, .int (nI i))] [] (hx (va_up (va_up z 22 0) 23 0) (va_up w 16 (gm_cpy (fun i => bI (!decide (w 21 i = -1))) (w 16) i)) (lN S)) = some (none, hx (va_up (va_up z 22 x.2.2.1) 23 x.2.2.2) (va_up w 16 t2) (lN x.1)) := by
    intro k
    induction k with
    | zero =>
      intro i F hi hF
      obtain ⟨f, rfl⟩ : ∃ f, F = f + 1 := ⟨F - 1, by omega⟩
      have e : i = n := by omega
      subst e
      obtain ⟨t2, h2⟩ := loop2 T 0 f (gm_cpy (fun i => bI (!decide (w 21 i = -1))) (w 16) i) (S, fun i => !decide (w 21 i = -1), 0, 0) (by omega) (by omega) hS (fun q hq => gm_cpy_lt hq)
      refine ⟨t2, ?_⟩
      rw [hxe, show nI 0 = 0 from rfl] at h2
      simp only [rX10_pass_19, ob_s, ob_n, ar_I, ar_L, ar_V, hx_v0, hx_fr0_0, hx_fr0_1, hx_fr0_2, hx_fr0_3, hx_fr0_4, hx_fi0_5, hx_sv0_5, hx_v1, hx_fr1_0, hx_fi1_1, hx_sv1_1, hx_v3, hx_fr3_0, hx_fr3_1, hx_fi3_2, hx_sv3_2, hx_fi3_3, hx_sv3_3, hx_fi3_4, hx_sv3_4, hx_fi3_5, hx_sv3_5, hx_fi3_6, hx_sv3_6, hx_fr3_7, hx_v5, hx_fi5_0, hx_sv5_0, hx_fr5_1, hx_fr5_2, hx_fr5_3, hx_fr5_4, hx_v11, hx_fi11_0, hx_sv11_0, hx_fr11_1, hx_fr11_2, hx_fr11_3, hx_fr11_4, hx_fi11_5, hx_sv11_5, hx_fi11_6, hx_sv11_6, hx_fi11_7, hx_sv11_7, hx_fi11_8, hx_sv11_8, hx_v15, hx_fi15_0, hx_sv15_0, hx_fr15_1, hx_fr15_2, hx_fr15_3, hx_fr15_4, hx_v20, hx_fi20_0, hx_sv20_0, hx_fi20_1, hx_sv20_1, hx_fi20_2, hx_sv20_2, hx_fi20_3, hx_sv20_3, hx_fr20_4, hx_fr20_5, hx_fr20_6, hx_fr20_7, hx_fi20_8, hx_sv20_8, hx_fi20_9, hx_sv20_9, hx_fi20_10, hx_sv20_10, hx_fi20_11, hx_sv20_11, hx_v25, hx_fi25_0, hx_sv25_0, hx_fi25_1, hx_sv25_1, hx_fl, hx_sl, hx_fr25_3, hx_li2, hx_ai2, hx_si2, hx_li6, hx_ai6, hx_si6, hx_li7, hx_ai7, hx_si7, hx_li8, hx_ai8, hx_si8, hx_li9, hx_ai9, hx_si9, hx_li10, hx_ai10, hx_si10, hx_li12, hx_ai12, hx_si12, hx_li13, hx_ai13, hx_si13, hx_li14, hx_ai14, hx_si14, hx_li16, hx_ai16, hx_si16, hx_li17, hx_ai17, hx_si17, hx_li18, hx_ai18, hx_si18, hx_li19, hx_ai19, hx_si19, hx_li21, hx_ai21, hx_si21, hx_li22, hx_ai22, hx_si22, hx_li24, hx_ai24, hx_si24, hx_li26, hx_ai26, hx_si26, hx_li27, hx_ai27, hx_si27, hx_li28, hx_ai28, hx_si28, hx_li29, hx_ai29, hx_si29, hx_li30, hx_ai30, hx_si30, hx_li31, hx_ai31, hx_si31, hx_li32, hx_ai32, hx_si32, hx_li33, hx_ai33, hx_si33, hx_lr4, hx_lr23, hx_sf0, hx_sf1, hx_ss1, hx_sf2, hx_ss2, hx_sf3, hx_ss3, hx_lkli, hx_lksi, va_l, Nat.reduceEqDiff, reduceIte, hz, nI_ltnn (show i < 1000 by omega)]
      exact h2
    | succ k ih =>
      intro i F hi hF
      obtain ⟨f, rfl⟩ : ∃ f, F = f + 1 := ⟨F - 1, by omega⟩
      have i7 : i < 7 := by omega
      have hin : i < n := by omega
      have hp := sX0_isPaired (va_up (va_up z 22 0) 23 0) (va_up w 16 (gm_cpy (fun i => bI (!decide (w 21 i = -1))) (w 16) i)) (lN S) hg hn hz (show hx_mo (va_up w 16 _) n from hmo) i hin
      simp only [va_l, Nat.reduceEqDiff, reduceIte] at hp
      obtain ⟨t2, h2⟩ := ih (i + 1) f (by omega) (by omega)
      refine ⟨t2, ?_⟩
      simp only [rX10_pass_19, ob_s, ob_n, ar_I, ar_L, ar_V, hx_v0, hx_fr0_0, hx_fr0_1, hx_fr0_2, hx_fr0_3, hx_fr0_4, hx_fi0_5, hx_sv0_5, hx_v1, hx_fr1_0, hx_fi1_1, hx_sv1_1, hx_v3, hx_fr3_0, hx_fr3_1, hx_fi3_2, hx_sv3_2, hx_fi3_3, hx_sv3_3, hx_fi3_4, hx_sv3_4, hx_fi3_5, hx_sv3_5, hx_fi3_6, hx_sv3_6, hx_fr3_7, hx_v5, hx_fi5_0, hx_sv5_0, hx_fr5_1, hx_fr5_2, hx_fr5_3, hx_fr5_4, hx_v11, hx_fi11_0, hx_sv11_0, hx_fr11_1, hx_fr11_2, hx_fr11_3, hx_fr11_4, hx_fi11_5, hx_sv11_5, hx_fi11_6, hx_sv11_6, hx_fi11_7, hx_sv11_7, hx_fi11_8, hx_sv11_8, hx_v15, hx_fi15_0, hx_sv15_0, hx_fr15_1, hx_fr15_2, hx_fr15_3, hx_fr15_4, hx_v20, hx_fi20_0, hx_sv20_0, hx_fi20_1, hx_sv20_1, hx_fi20_2, hx_sv20_2, hx_fi20_3, hx_sv20_3, hx_fr20_4, hx_fr20_5, hx_fr20_6, hx_fr20_7, hx_fi20_8, hx_sv20_8, hx_fi20_9, hx_sv20_9, hx_fi20_10, hx_sv20_10, hx_fi20_11, hx_sv20_11, hx_v25, hx_fi25_0, hx_sv25_0, hx_fi25_1, hx_sv25_1, hx_fl, hx_sl, hx_fr25_3, hx_li2, hx_ai2, hx_si2, hx_li6, hx_ai6, hx_si6, hx_li7, hx_ai7, hx_si7, hx_li8, hx_ai8, hx_si8, hx_li9, hx_ai9, hx_si9, hx_li10, hx_ai10, hx_si10, hx_li12, hx_ai12, hx_si12, hx_li13, hx_ai13, hx_si13, hx_li14, hx_ai14, hx_si14, hx_li16, hx_ai16, hx_si16, hx_li17, hx_ai17, hx_si17, hx_li18, hx_ai18, hx_si18, hx_li19, hx_ai19, hx_si19, hx_li21, hx_ai21, hx_si21, hx_li22, hx_ai22, hx_si22, hx_li24, hx_ai24, hx_si24, hx_li26, hx_ai26, hx_si26, hx_li27, hx_ai27, hx_si27, hx_li28, hx_ai28, hx_si28, hx_li29, hx_ai29, hx_si29, hx_li30, hx_ai30, hx_si30, hx_li31, hx_ai31, hx_si31, hx_li32, hx_ai32, hx_si32, hx_li33, hx_ai33, hx_si33, hx_lr4, hx_lr23, hx_sf0, hx_sf1, hx_ss1, hx_sf2, hx_ss2, hx_sf3, hx_ss3, hx_lkli, hx_lksi, va_l, Nat.reduceEqDiff, reduceIte, i7, hz, nI_ltin hin (show n < 1000 by omega), hp, bI_01, nI_1, bx_uu]
      rw [gm_cpy_s (fun i => bI (!decide (w 21 i = -1))) (w 16) i]
      exact h2
  obtain ⟨t2, h2⟩ := loop1 n 0 (g - 1) (by omega) (by omega)
  refine ⟨t2, ?_⟩
  rw [gm_cpy_0, gm_up_id, show nI 0 = 0 from rfl] at h2
  obtain ⟨f, rfl⟩ : ∃ f, g = f + 100 := ⟨g - 100, by omega⟩
  unfold aX10_pass
  rw [eX10_pass]
  rw [show f + 100 - 1 = f + 99 by omega] at h2
  simp only [ob_s, ob_n, ar_I, ar_L, ar_V, hx_v0, hx_fr0_0, hx_fr0_1, hx_fr0_2, hx_fr0_3, hx_fr0_4, hx_fi0_5, hx_sv0_5, hx_v1, hx_fr1_0, hx_fi1_1, hx_sv1_1, hx_v3, hx_fr3_0, hx_fr3_1, hx_fi3_2, hx_sv3_2, hx_fi3_3, hx_sv3_3, hx_fi3_4, hx_sv3_4, hx_fi3_5, hx_sv3_5, hx_fi3_6, hx_sv3_6, hx_fr3_7, hx_v5, hx_fi5_0, hx_sv5_0, hx_fr5_1, hx_fr5_2, hx_fr5_3, hx_fr5_4, hx_v11, hx_fi11_0, hx_sv11_0, hx_fr11_1, hx_fr11_2, hx_fr11_3, hx_fr11_4, hx_fi11_5, hx_sv11_5, hx_fi11_6, hx_sv11_6, hx_fi11_7, hx_sv11_7, hx_fi11_8, hx_sv11_8, hx_v15, hx_fi15_0, hx_sv15_0, hx_fr15_1, hx_fr15_2, hx_fr15_3, hx_fr15_4, hx_v20, hx_fi20_0, hx_sv20_0, hx_fi20_1, hx_sv20_1, hx_fi20_2, hx_sv20_2, hx_fi20_3, hx_sv20_3, hx_fr20_4, hx_fr20_5, hx_fr20_6, hx_fr20_7, hx_fi20_8, hx_sv20_8, hx_fi20_9, hx_sv20_9, hx_fi20_10, hx_sv20_10, hx_fi20_11, hx_sv20_11, hx_v25, hx_fi25_0, hx_sv25_0, hx_fi25_1, hx_sv25_1, hx_fl, hx_sl, hx_fr25_3, hx_li2, hx_ai2, hx_si2, hx_li6, hx_ai6, hx_si6, hx_li7, hx_ai7, hx_si7, hx_li8, hx_ai8, hx_si8, hx_li9, hx_ai9, hx_si9, hx_li10, hx_ai10, hx_si10, hx_li12, hx_ai12, hx_si12, hx_li13, hx_ai13, hx_si13, hx_li14, hx_ai14, hx_si14, hx_li16, hx_ai16, hx_si16, hx_li17, hx_ai17, hx_si17, hx_li18, hx_ai18, hx_si18, hx_li19, hx_ai19, hx_si19, hx_li21, hx_ai21, hx_si21, hx_li22, hx_ai22, hx_si22, hx_li24, hx_ai24, hx_si24, hx_li26, hx_ai26, hx_si26, hx_li27, hx_ai27, hx_si27, hx_li28, hx_ai28, hx_si28, hx_li29, hx_ai29, hx_si29, hx_li30, hx_ai30, hx_si30, hx_li31, hx_ai31, hx_si31, hx_li32, hx_ai32, hx_si32, hx_li33, hx_ai33, hx_si33, hx_lr4, hx_lr23, hx_sf0, hx_sf1, hx_ss1, hx_sf2, hx_ss2, hx_sf3, hx_ss3, hx_lkli, hx_lksi, nI_l (show S < 2 ^ 31 by omega)]
  exact h2
theorem sX12_wl (hg : 4000 ≤ g) (y : Nat → Int32) (v : Nat → Nat → Int32) (c : Int64) {n : Nat} (hn : n ≤ 7) (hz : y 2 = nI n) (h0 : 0 < n) {T : Nat} (hT : T ≤ 60) (q : Int32) : ∀ (k i F : Nat) (t : Nat → Int32) (x : gm_ws), i + k = T → k + 1 ≤ F → x.1 < 2147483648 → (∀ q, q < n → decide (t q = -1) = !x.2.1 q) → ∃ t2, ah_run (kX12_winters g) F 66 [(0, .ref 0), (1, .int (nI T)), (3, .int q), (4, .int x.2.2.1), (5, .int x.2.2.2), (6, .int (nI i))] [] (hm (va_up y 18 (nI x.1)) (va_up v 12 t) c) = some (some (.int (if q = 0 then (gm_lp (gm_wst (mw_mb v) (mw_lk v) n) k i x).2.2.1 else if q = 1 then (gm_lp (gm_wst (mw_mb v) (mw_lk v) n) k i x).2.2.2 else nI (gm_lp (gm_wst (mw_mb v) (mw_lk v) n) k i x).1)), hm (va_up y 18 (nI (gm_lp (gm_wst (mw_mb v) (mw_lk v) n) k i x).1)) (va_up v 12 t2) c) := by
  intro k
  induction k with
  | zero =>
    intro i F t x hi hF hS ht
    obtain ⟨f, rfl⟩ : ∃ f, F = f + 1 := ⟨F - 1, by omega⟩
    have e : i = T := by omega
    subst e
    refine ⟨t, ?_⟩
    simp only [rX12_winters_66, ob_s, ob_n, ar_I, ar_L, ar_V, hm_vI, hm_fr0, hm_li0, hm_ai0, hm_si0, hm_fi1, hm_sv1, hm_fi2, hm_sv2, hm_fi3, hm_sv3, hm_fi4, hm_sv4, hm_fi5, hm_sv5, hm_fi6, hm_sv6, hm_fi7, hm_sv7, hm_fr8, hm_li8, hm_ai8, hm_si8, hm_fr9, hm_li9, hm_ai9, hm_si9, hm_fr10, hm_li10, hm_ai10, hm_si10, hm_fr11, hm_li11, hm_ai11, hm_si11, hm_fr12, hm_li12, hm_ai12, hm_si12, hm_fr13, hm_li13, hm_ai13, hm_si13, hm_fr14, hm_li14, hm_ai14, hm_si14, hm_fi15, hm_sv15, hm_fr16, hm_li16, hm_ai16, hm_si16, hm_fr17, hm_li17, hm_ai17, hm_si17, hm_fi18, hm_sv18, hm_fi19, hm_sv19, hm_fi20, hm_sv20, hm_fi21, hm_sv21, hm_fi22, hm_sv22, hm_fi23, hm_sv23, hm_fi24, hm_sv24, hm_fr25, hm_li25, hm_ai25, hm_si25, hm_fr26, hm_li26, hm_ai26, hm_si26, hm_fr27, hm_li27, hm_ai27, hm_si27, hm_fr28, hm_li28, hm_ai28, hm_si28, hm_fl, hm_sl, va_l, Nat.reduceEqDiff, reduceIte, nI_ltnn (show i < 1000 by omega)]
    show _ = some (some (Value.int (if q = 0 then x.2.2.1 else if q = 1 then x.2.2.2 else nI x.1)), hm (va_up y 18 (nI x.1)) (va_up v 12 t) c)
    by_cases c0 : q = 0
    · rw [if_pos c0, if_pos c0]
    · rw [if_neg c0, if_neg c0]
      by_cases c1 : q = 1
      · rw [if_pos c1, if_pos c1]
      · rw [if_neg c1, if_neg c1]
  | succ k ih =>
    intro i F t x hi hF hS ht
    obtain ⟨f, rfl⟩ : ∃ f, F = f + 1 := ⟨F - 1, by omega⟩
    have d1 := sX12_draw hg (va_up y 18 (nI x.1)) (va_up v 12 t) c hS rfl hn h0
    have d2 := sX12_draw hg (va_up y 18 (nI (gm_nx x.1))) (va_up v 12 t) c (gm_nx_lt x.1) rfl hn h0
    rw [bx_uu] at d1 d2
    have ha : gm_nx x.1 / 65536 % n < n := Nat.mod_lt _ h0
    have ho : gm_nx (gm_nx x.1) / 65536 % n < n := Nat.mod_lt _ h0
    have hv : gm_wst (mw_mb v) (mw_lk v) n x i = if (!x.2.1 (gm_nx x.1 / 65536 % n) && (!x.2.1 (gm_nx (gm_nx x.1) / 65536 % n) && mw_mb v (gm_nx x.1 / 65536 % n) (gm_nx (gm_nx x.1) / 65536 % n))) = true then
      (gm_nx (gm_nx x.1), fun i => if i = gm_nx x.1 / 65536 % n ∨ i = gm_nx (gm_nx x.1) / 65536 % n then true else x.2.1 i, x.2.2.1 + 1, x.2.2.2 + mw_lk v (gm_nx x.1 / 65536 % n) (gm_nx (gm_nx x.1) / 65536 % n))
      else (gm_nx (gm_nx x.1), x.2) := rfl
    rw [gm_lp_s, hv]
    generalize gm_nx x.1 / 65536 % n = a at ha d1 d2 ⊢
    have hS2 := gm_nx_lt (gm_nx x.1)
    generalize gm_nx (gm_nx x.1) / 65536 % n = o at ho d2 ⊢
    generalize gm_nx (gm_nx x.1) = S2 at hS2 d2 ⊢
    have a7 : a < 7 := by omega
    have o7 : o < 7 := by omega
    have ma : ∀ f : Nat → Int32, ah_rd f 7 (nI a) = some (f a) := fun f => ah_rdN a7 (by decide)
    have mo : ∀ f : Nat → Int32, ah_rd f 7 (nI o) = some (f o) := fun f => ah_rdN o7 (by decide)
    have hmb := sX12_mayBe (va_up y 18 (nI S2)) (va_up v 12 t) c hg a o a7 o7
    have hxm : gm_mb (mw_k (va_up v 12 t)) (mw_h (va_up v 12 t)) (va_up v 12 t 9) a o = mw_mb v a o := rfl
    rw [hxm] at hmb
    have hlk : ∀ t, aX12_likenessOf g [.ref 0, .int (nI a), .int (nI o)] (hm (va_up y 18 (nI S2)) (va_up v 12 t) c) = some (some (.int (mw_lk v a o)), hm (va_up y 18 (nI S2)) (va_up v 12 t) c) := fun t => sX12_likenessOf (va_up y 18 (nI S2)) (va_up v 12 t) c hg a o a7 o7
    have ta := ht a ha
    have to := ht o ho
    simp only [rX12_winters_66, ob_s, ob_n, ar_I, ar_L, ar_V, hm_vI, hm_fr0, hm_li0, hm_ai0, hm_si0, hm_fi1, hm_sv1, hm_fi2, hm_sv2, hm_fi3, hm_sv3, hm_fi4, hm_sv4, hm_fi5, hm_sv5, hm_fi6, hm_sv6, hm_fi7, hm_sv7, hm_fr8, hm_li8, hm_ai8, hm_si8, hm_fr9, hm_li9, hm_ai9, hm_si9, hm_fr10, hm_li10, hm_ai10, hm_si10, hm_fr11, hm_li11, hm_ai11, hm_si11, hm_fr12, hm_li12, hm_ai12, hm_si12, hm_fr13, hm_li13, hm_ai13, hm_si13, hm_fr14, hm_li14, hm_ai14, hm_si14, hm_fi15, hm_sv15, hm_fr16, hm_li16, hm_ai16, hm_si16, hm_fr17, hm_li17, hm_ai17, hm_si17, hm_fi18, hm_sv18, hm_fi19, hm_sv19, hm_fi20, hm_sv20, hm_fi21, hm_sv21, hm_fi22, hm_sv22, hm_fi23, hm_sv23, hm_fi24, hm_sv24, hm_fr25, hm_li25, hm_ai25, hm_si25, hm_fr26, hm_li26, hm_ai26, hm_si26, hm_fr27, hm_li27, hm_ai27, hm_si27, hm_fr28, hm_li28, hm_ai28, hm_si28, hm_fl, hm_sl, va_l, Nat.reduceEqDiff, reduceIte, nI_ltin (show i < T by omega) (show T < 1000 by omega), hz, d1, d2, nI_eqi (show a < 1000 by omega) (show o < 1000 by omega), ma, mo, hmb, bI_0, hlk, a7, o7, bx_uu, nI_1]
    cases hc : (!x.2.1 a && (!x.2.1 o && mw_mb v a o))
    · rw [if_neg (show ¬ false = true by decide)]
      obtain ⟨t3, h3⟩ := ih (i + 1) f t (S2, x.2) (by omega) (by omega) hS2 ht
      refine ⟨t3, ?_⟩
      dsimp only at h3
      rw [h3]
      by_cases c1 : a = o
      · rw [if_pos c1]
      · rw [if_neg c1]
        by_cases c2 : t a = -1
        · rw [if_pos c2]
          by_cases c3 : t o = -1
          · rw [if_pos c3]
            rw [← ta, ← to, decide_eq_true c2, decide_eq_true c3] at hc
            have hc : mw_mb v a o = false := hc
            rw [if_pos hc]
          · rw [if_neg c3]
        · rw [if_neg c2]
    · rw [if_pos rfl]
      rw [Bool.and_eq_true, Bool.and_eq_true] at hc
      obtain ⟨q1, q2, q3⟩ := hc
      rw [← ta] at q1
      rw [← to] at q2
      have c1 : ¬ a = o := by
        have h4 : (decide (¬ a = o) && _) = true := q3
        rw [Bool.and_eq_true] at h4
        exact of_decide_eq_true h4.1
      rw [if_neg c1, if_pos (of_decide_eq_true q1), if_pos (of_decide_eq_true q2), if_neg (by rw [q3]; decide)]
      exact ih (i + 1) f (upd (upd t a (nI o)) o (nI a)) (S2, fun i => if i = a ∨ i = o then true else x.2.1 i, x.2.2.1 + 1, x.2.2.2 + mw_lk v a o) (by omega) (by omega) hS2 (fun p hp => by
        dsimp only
        by_cases e1 : p = o
        · rw [e1, upd_self, if_pos (Or.inr rfl), decide_eq_false (gm_nI_m1 (show a < 1000 by omega))]
          rfl
        · rw [upd_ne _ _ e1]
          by_cases e2 : p = a
          · rw [e2, upd_self, if_pos (Or.inl rfl), decide_eq_false (gm_nI_m1 (show o < 1000 by omega))]
            rfl
          · rw [upd_ne _ _ e2, if_neg (fun h => h.elim e2 e1)]
            exact ht p hp)
end WIN
