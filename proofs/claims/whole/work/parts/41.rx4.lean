/-! the class's rows: learn, seek -/
def gx_L (w : Nat → Nat → Int32) (i j : Nat) : Int32 := if w 21 i = -1 ∧ w 21 j = -1 then xw_lk w i j else -1
/-- w2 is w but for what learn writes -/
def gx_k (w w2 : Nat → Nat → Int32) : Prop := ∀ k, ¬ k = 15 → (k < 30 ∨ 36 < k) → w2 k = w k
section RX4
variable {g : Nat}
theorem sX6_learn (hg : 4000 ≤ g) (z : Nat → Int32) (w : Nat → Nat → Int32) (b : Int64) (hr : hx_rg w) {n : Nat} (hn : n ≤ 7) (hz : z 2 = nI n) (hmo : hx_mo w n) : ∃ w2, aX6_learn g [.ref 20, .ref 3] (hx z w b) = some (none, hx (va_up z 18 (nI n)) w2 b) ∧ gx_k w w2 ∧ (∀ i, i < n → w2 15 i = w 20 i) ∧ (∀ i j, i < n → j < n → w2 (30 + i) j = gx_L w i j) := by
  have outer : ∀ (k i F : Nat) (u : Nat → Nat → Int32), i + k = n → 12 * k + 1 ≤ F → gx_k w u → (∀ q, q < i → u 15 q = w 20 q) → (∀ p q, p < i → q < n → u (30 + p) q = gx_L w p q) → ∃ w2, ah_run (kX6_learn g) F 10 [(0, .ref 20), (1, .ref 3), (2, .int (nI i))] [] (hx (va_up z 18 (nI n)) u b) = some (none, hx (va_up z 18 (nI n)) w2 b) ∧ gx_k w w2 ∧ (∀ i, i < n → w2 15 i = w 20 i) ∧ (∀ i j, i < n → j < n → w2 (30 + i) j = gx_L w i j) := by
    intro k
    induction k with
    | zero =>
      intro i F u hi hF h1 h2 h3
      obtain ⟨f, rfl⟩ : ∃ f, F = f + 1 := ⟨F - 1, by omega⟩
      have e : i = n := by omega
      subst e
      refine ⟨u, ?_, h1, h2, h3⟩
      simp only [rX6_learn_10, ob_s, ob_n, ar_I, ar_L, ar_V, hx_v0, hx_fr0_0, hx_fr0_1, hx_fr0_2, hx_fr0_3, hx_fr0_4, hx_fi0_5, hx_sv0_5, hx_v1, hx_fr1_0, hx_fi1_1, hx_sv1_1, hx_v3, hx_fr3_0, hx_fr3_1, hx_fi3_2, hx_sv3_2, hx_fi3_3, hx_sv3_3, hx_fi3_4, hx_sv3_4, hx_fi3_5, hx_sv3_5, hx_fi3_6, hx_sv3_6, hx_fr3_7, hx_v5, hx_fi5_0, hx_sv5_0, hx_fr5_1, hx_fr5_2, hx_fr5_3, hx_fr5_4, hx_v11, hx_fi11_0, hx_sv11_0, hx_fr11_1, hx_fr11_2, hx_fr11_3, hx_fr11_4, hx_fi11_5, hx_sv11_5, hx_fi11_6, hx_sv11_6, hx_fi11_7, hx_sv11_7, hx_fi11_8, hx_sv11_8, hx_v15, hx_fi15_0, hx_sv15_0, hx_fr15_1, hx_fr15_2, hx_fr15_3, hx_fr15_4, hx_v20, hx_fi20_0, hx_sv20_0, hx_fi20_1, hx_sv20_1, hx_fi20_2, hx_sv20_2, hx_fi20_3, hx_sv20_3, hx_fr20_4, hx_fr20_5, hx_fr20_6, hx_fr20_7, hx_fi20_8, hx_sv20_8, hx_fi20_9, hx_sv20_9, hx_fi20_10, hx_sv20_10, hx_fi20_11, hx_sv20_11, hx_v25, hx_fi25_0, hx_sv25_0, hx_fi25_1, hx_sv25_1, hx_fl, hx_sl, hx_fr25_3, hx_li2, hx_ai2, hx_si2, hx_li6, hx_ai6, hx_si6, hx_li7, hx_ai7, hx_si7, hx_li8, hx_ai8, hx_si8, hx_li9, hx_ai9, hx_si9, hx_li10, hx_ai10, hx_si10, hx_li12, hx_ai12, hx_si12, hx_li13, hx_ai13, hx_si13, hx_li14, hx_ai14, hx_si14, hx_li16, hx_ai16, hx_si16, hx_li17, hx_ai17, hx_si17, hx_li18, hx_ai18, hx_si18, hx_li19, hx_ai19, hx_si19, hx_li21, hx_ai21, hx_si21, hx_li22, hx_ai22, hx_si22, hx_li24, hx_ai24, hx_si24, hx_li26, hx_ai26, hx_si26, hx_li27, hx_ai27, hx_si27, hx_li28, hx_ai28, hx_si28, hx_li29, hx_ai29, hx_si29, hx_li30, hx_ai30, hx_si30, hx_li31, hx_ai31, hx_si31, hx_li32, hx_ai32, hx_si32, hx_li33, hx_ai33, hx_si33, hx_lr4, hx_lr23, hx_sf0, hx_sf1, hx_ss1, hx_sf2, hx_ss2, hx_sf3, hx_ss3, hx_lkli, hx_lksi, va_l, Nat.reduceEqDiff, reduceIte, nI_ltnn (show i < 1000 by omega), if_false]
    | succ k ih =>
      intro i F u hi hF h1 h2 h3
      obtain ⟨f, rfl⟩ : ∃ f, F = f + 1 := ⟨F - 1, by omega⟩
      have i7 : i < 7 := by omega
      have hin : i < n := by omega
      have inner : ∀ (m j F : Nat) (u t : Nat → Nat → Int32) (hu : gx_k w u) (t : Nat → Int32), j + m = n → m + 1 ≤ F → (∀ q, q < j → t q = gx_L w i q) → ∃ t2 F2, (∀ q, q < n → t2 q = gx_L w i q) ∧ F ≤ F2 + m + 1 ∧ ah_run (kX6_learn g) F 35 [(0, .ref 20), (1, .ref 3), (2, .int (nI i)), (3, .int (nI j))] [] (hx (va_up z 18 (nI n)) (va_up u (30 + i) t) b) = ah_run (kX6_learn g) F2 10 [(0, .ref 20), (1, .ref 3), (2, .int (nI (i + 1)))] [] (hx (va_up z 18 (nI n)) (va_up u (30 + i) t2) b) := by
        intro m
        induction m with
        | zero =>
          intro j F u _ hu t hj hF ht
          obtain ⟨f, rfl⟩ : ∃ f, F = f + 1 := ⟨F - 1, by omega⟩
          have e : j = n := by omega
          subst e
          refine ⟨t, f, ht, by omega, ?_⟩
          simp only [rX6_learn_35, ob_s, ob_n, ar_I, ar_L, ar_V, hx_v0, hx_fr0_0, hx_fr0_1, hx_fr0_2, hx_fr0_3, hx_fr0_4, hx_fi0_5, hx_sv0_5, hx_v1, hx_fr1_0, hx_fi1_1, hx_sv1_1, hx_v3, hx_fr3_0, hx_fr3_1, hx_fi3_2, hx_sv3_2, hx_fi3_3, hx_sv3_3, hx_fi3_4, hx_sv3_4, hx_fi3_5, hx_sv3_5, hx_fi3_6, hx_sv3_6, hx_fr3_7, hx_v5, hx_fi5_0, hx_sv5_0, hx_fr5_1, hx_fr5_2, hx_fr5_3, hx_fr5_4, hx_v11, hx_fi11_0, hx_sv11_0, hx_fr11_1, hx_fr11_2, hx_fr11_3, hx_fr11_4, hx_fi11_5, hx_sv11_5, hx_fi11_6, hx_sv11_6, hx_fi11_7, hx_sv11_7, hx_fi11_8, hx_sv11_8, hx_v15, hx_fi15_0, hx_sv15_0, hx_fr15_1, hx_fr15_2, hx_fr15_3, hx_fr15_4, hx_v20, hx_fi20_0, hx_sv20_0, hx_fi20_1, hx_sv20_1, hx_fi20_2, hx_sv20_2, hx_fi20_3, hx_sv20_3, hx_fr20_4, hx_fr20_5, hx_fr20_6, hx_fr20_7, hx_fi20_8, hx_sv20_8, hx_fi20_9, hx_sv20_9, hx_fi20_10, hx_sv20_10, hx_fi20_11, hx_sv20_11, hx_v25, hx_fi25_0, hx_sv25_0, hx_fi25_1, hx_sv25_1, hx_fl, hx_sl, hx_fr25_3, hx_li2, hx_ai2, hx_si2, hx_li6, hx_ai6, hx_si6, hx_li7, hx_ai7, hx_si7, hx_li8, hx_ai8, hx_si8, hx_li9, hx_ai9, hx_si9, hx_li10, hx_ai10, hx_si10, hx_li12, hx_ai12, hx_si12, hx_li13, hx_ai13, hx_si13, hx_li14, hx_ai14, hx_si14, hx_li16, hx_ai16, hx_si16, hx_li17, hx_ai17, hx_si17, hx_li18, hx_ai18, hx_si18, hx_li19, hx_ai19, hx_si19, hx_li21, hx_ai21, hx_si21, hx_li22, hx_ai22, hx_si22, hx_li24, hx_ai24, hx_si24, hx_li26, hx_ai26, hx_si26, hx_li27, hx_ai27, hx_si27, hx_li28, hx_ai28, hx_si28, hx_li29, hx_ai29, hx_si29, hx_li30, hx_ai30, hx_si30, hx_li31, hx_ai31, hx_si31, hx_li32, hx_ai32, hx_si32, hx_li33, hx_ai33, hx_si33, hx_lr4, hx_lr23, hx_sf0, hx_sf1, hx_ss1, hx_sf2, hx_ss2, hx_sf3, hx_ss3, hx_lkli, hx_lksi, va_l, Nat.reduceEqDiff, reduceIte, nI_ltnn (show j < 1000 by omega), if_false, nI_1]
        | succ m im =>
          intro j F u tt hu t hj hF ht
          obtain ⟨f, rfl⟩ : ∃ f, F = f + 1 := ⟨F - 1, by omega⟩
          have j7 : j < 7 := by omega
          have hjn : j < n := by omega
          have e21 : va_up u (30 + i) t 21 = w 21 := by rw [va_l, if_neg (by omega)]; exact hu 21 (by decide) (by decide)
          have e17 : va_up u (30 + i) t 17 = w 17 := by rw [va_l, if_neg (by omega)]; exact hu 17 (by decide) (by decide)
          have e18 : va_up u (30 + i) t 18 = w 18 := by rw [va_l, if_neg (by omega)]; exact hu 18 (by decide) (by decide)
          have e19 : va_up u (30 + i) t 19 = w 19 := by rw [va_l, if_neg (by omega)]; exact hu 19 (by decide) (by decide)
          have hmo2 : hx_mo (va_up u (30 + i) t) n := by unfold hx_mo; rw [e21]; exact hmo
          have hr2 : hx_rg (va_up u (30 + i) t) := by unfold hx_rg; rw [e19]; exact hr
          have p1 := sX0_isPaired (va_up z 18 (nI n)) (va_up u (30 + i) t) b hg hn hz hmo2 i hin
          have p2 := sX0_isPaired (va_up z 18 (nI n)) (va_up u (30 + i) t) b hg hn hz hmo2 j hjn
          have p3 := sX0_likenessOf (va_up z 18 (nI n)) (va_up u (30 + i) t) b hg hr2 i j i7 j7
          have e4 : xw_lk (va_up u (30 + i) t) i j = xw_lk w i j := by unfold xw_lk; rw [e17, e18, e19]
          rw [e21] at p1 p2
          rw [e4] at p3
          have s1 : ∀ x, ah_si (hx (va_up z 18 (nI n)) (va_up u (30 + i) t) b) (27 + i) 0 (nI j) x = some (hx (va_up z 18 (nI n)) (va_up u (30 + i) (upd t j x)) b) := fun x => by
            rw [hx_lksi _ _ _ i j x i7 j7, bx_uu, va_l, if_pos rfl]
          obtain ⟨t2, F2, q1, q2, q3⟩ := im (j + 1) f u tt hu (upd t j (gx_L w i j)) (by omega) (by omega) (fun q hq => by
            by_cases c : q = j
            · rw [c, upd_self]
            · rw [upd_ne _ _ c]
              exact ht q (by omega))
          refine ⟨t2, F2, q1, by omega, ?_⟩
          rw [← q3]
          unfold gx_L
          simp only [rX6_learn_35, ob_s, ob_n, ar_I, ar_L, ar_V, hx_fi20_8, va_l, Nat.reduceEqDiff, reduceIte, nI_ltin hjn (show n < 1000 by omega), hx_v3, p1, p2, bI_0, n32_00, n32_10, hx_fr20_6, hx_lr23 _ _ _ i i7, p3, s1, nI_1]
          by_cases c1 : w 21 i = -1
          · by_cases c2 : w 21 j = -1
            · simp only [c1, c2, decide_true, Bool.not_true, and_self, if_true]
            · simp only [c1, c2, decide_true, Bool.not_true, decide_false, Bool.not_false, and_false, if_true, if_false, Bool.true_eq_false]
          · simp only [c1, decide_false, Bool.not_false, false_and, if_false, Bool.true_eq_false]
      have s0 := hx_si24 (va_up z 18 (nI n)) u b i (u 20 i) i7
      have hk2 : gx_k w (va_up u 15 (upd (u 15) i (u 20 i))) := fun k hk1 hk2 => by
        rw [va_l, if_neg hk1]
        exact h1 k hk1 hk2
      obtain ⟨t2, F2, q1, q2, q3⟩ := inner n 0 f (va_up u 15 (upd (u 15) i (u 20 i))) u hk2 (va_up u 15 (upd (u 15) i (u 20 i)) (30 + i)) (by omega) (by omega) (fun q hq => absurd hq (Nat.not_lt_zero _))
      rw [gm_up_id, show nI 0 = 0 from rfl] at q3
      obtain ⟨w2, r1, r2, r3, r4⟩ := ih (i + 1) F2 (va_up (va_up u 15 (upd (u 15) i (u 20 i))) (30 + i) t2) (by omega) (by omega) (fun k a1 a2 => by
        rw [va_l, if_neg (by omega)]
        exact hk2 k a1 a2) (fun q hq => by
        rw [va_l, if_neg (by omega), va_l, if_pos rfl]
        by_cases c : q = i
        · rw [c, upd_self, h1 20 (by decide) (by decide)]
        · rw [upd_ne _ _ c]
          exact h2 q (by omega)) (fun p q hp hq => by
        rw [va_l]
        by_cases c : p = i
        · rw [c, if_pos rfl]
          exact q1 q hq
        · rw [if_neg (by omega), va_l, if_neg (by omega)]
          exact h3 p q (by omega) hq)
      refine ⟨w2, ?_, r2, r3, r4⟩
      rw [← r1, ← q3]
      simp only [rX6_learn_10, ob_s, ob_n, ar_I, ar_L, ar_V, hx_v0, hx_fr0_0, hx_fr0_1, hx_fr0_2, hx_fr0_3, hx_fr0_4, hx_fi0_5, hx_sv0_5, hx_v1, hx_fr1_0, hx_fi1_1, hx_sv1_1, hx_v3, hx_fr3_0, hx_fr3_1, hx_fi3_2, hx_sv3_2, hx_fi3_3, hx_sv3_3, hx_fi3_4, hx_sv3_4, hx_fi3_5, hx_sv3_5, hx_fi3_6, hx_sv3_6, hx_fr3_7, hx_v5, hx_fi5_0, hx_sv5_0, hx_fr5_1, hx_fr5_2, hx_fr5_3, hx_fr5_4, hx_v11, hx_fi11_0, hx_sv11_0, hx_fr11_1, hx_fr11_2, hx_fr11_3, hx_fr11_4, hx_fi11_5, hx_sv11_5, hx_fi11_6, hx_sv11_6, hx_fi11_7, hx_sv11_7, hx_fi11_8, hx_sv11_8, hx_v15, hx_fi15_0, hx_sv15_0, hx_fr15_1, hx_fr15_2, hx_fr15_3, hx_fr15_4, hx_v20, hx_fi20_0, hx_sv20_0, hx_fi20_1, hx_sv20_1, hx_fi20_2, hx_sv20_2, hx_fi20_3, hx_sv20_3, hx_fr20_4, hx_fr20_5, hx_fr20_6, hx_fr20_7, hx_fi20_8, hx_sv20_8, hx_fi20_9, hx_sv20_9, hx_fi20_10, hx_sv20_10, hx_fi20_11, hx_sv20_11, hx_v25, hx_fi25_0, hx_sv25_0, hx_fi25_1, hx_sv25_1, hx_fl, hx_sl, hx_fr25_3, hx_li2, hx_ai2, hx_si2, hx_li6, hx_ai6, hx_si6, hx_li7, hx_ai7, hx_si7, hx_li8, hx_ai8, hx_si8, hx_li9, hx_ai9, hx_si9, hx_li10, hx_ai10, hx_si10, hx_li12, hx_ai12, hx_si12, hx_li13, hx_ai13, hx_si13, hx_li14, hx_ai14, hx_si14, hx_li16, hx_ai16, hx_si16, hx_li17, hx_ai17, hx_si17, hx_li18, hx_ai18, hx_si18, hx_li19, hx_ai19, hx_si19, hx_li21, hx_ai21, hx_si21, hx_li22, hx_ai22, hx_si22, hx_li24, hx_ai24, hx_si24, hx_li26, hx_ai26, hx_si26, hx_li27, hx_ai27, hx_si27, hx_li28, hx_ai28, hx_si28, hx_li29, hx_ai29, hx_si29, hx_li30, hx_ai30, hx_si30, hx_li31, hx_ai31, hx_si31, hx_li32, hx_ai32, hx_si32, hx_li33, hx_ai33, hx_si33, hx_lr4, hx_lr23, hx_sf0, hx_sf1, hx_ss1, hx_sf2, hx_ss2, hx_sf3, hx_ss3, hx_lkli, hx_lksi, va_l, Nat.reduceEqDiff, reduceIte, nI_ltin hin (show n < 1000 by omega), i7, s0]
  obtain ⟨w2, r1, r2⟩ := outer n 0 (g - 1) w (by omega) (by omega) (fun _ _ _ => rfl) (fun q hq => absurd hq (Nat.not_lt_zero _)) (fun p q hp hq => absurd hp (Nat.not_lt_zero _))
  refine ⟨w2, ?_, r2⟩
  rw [show nI 0 = 0 from rfl] at r1
  obtain ⟨f, rfl⟩ : ∃ f, g = f + 100 := ⟨g - 100, by omega⟩
  unfold aX6_learn
  rw [eX6_learn]
  rw [show f + 100 - 1 = f + 99 by omega] at r1
  simp only [ob_s, ob_n, ar_I, ar_L, ar_V, hx_v0, hx_fr0_0, hx_fr0_1, hx_fr0_2, hx_fr0_3, hx_fr0_4, hx_fi0_5, hx_sv0_5, hx_v1, hx_fr1_0, hx_fi1_1, hx_sv1_1, hx_v3, hx_fr3_0, hx_fr3_1, hx_fi3_2, hx_sv3_2, hx_fi3_3, hx_sv3_3, hx_fi3_4, hx_sv3_4, hx_fi3_5, hx_sv3_5, hx_fi3_6, hx_sv3_6, hx_fr3_7, hx_v5, hx_fi5_0, hx_sv5_0, hx_fr5_1, hx_fr5_2, hx_fr5_3, hx_fr5_4, hx_v11, hx_fi11_0, hx_sv11_0, hx_fr11_1, hx_fr11_2, hx_fr11_3, hx_fr11_4, hx_fi11_5, hx_sv11_5, hx_fi11_6, hx_sv11_6, hx_fi11_7, hx_sv11_7, hx_fi11_8, hx_sv11_8, hx_v15, hx_fi15_0, hx_sv15_0, hx_fr15_1, hx_fr15_2, hx_fr15_3, hx_fr15_4, hx_v20, hx_fi20_0, hx_sv20_0, hx_fi20_1, hx_sv20_1, hx_fi20_2, hx_sv20_2, hx_fi20_3, hx_sv20_3, hx_fr20_4, hx_fr20_5, hx_fr20_6, hx_fr20_7, hx_fi20_8, hx_sv20_8, hx_fi20_9, hx_sv20_9, hx_fi20_10, hx_sv20_10, hx_fi20_11, hx_sv20_11, hx_v25, hx_fi25_0, hx_sv25_0, hx_fi25_1, hx_sv25_1, hx_fl, hx_sl, hx_fr25_3, hx_li2, hx_ai2, hx_si2, hx_li6, hx_ai6, hx_si6, hx_li7, hx_ai7, hx_si7, hx_li8, hx_ai8, hx_si8, hx_li9, hx_ai9, hx_si9, hx_li10, hx_ai10, hx_si10, hx_li12, hx_ai12, hx_si12, hx_li13, hx_ai13, hx_si13, hx_li14, hx_ai14, hx_si14, hx_li16, hx_ai16, hx_si16, hx_li17, hx_ai17, hx_si17, hx_li18, hx_ai18, hx_si18, hx_li19, hx_ai19, hx_si19, hx_li21, hx_ai21, hx_si21, hx_li22, hx_ai22, hx_si22, hx_li24, hx_ai24, hx_si24, hx_li26, hx_ai26, hx_si26, hx_li27, hx_ai27, hx_si27, hx_li28, hx_ai28, hx_si28, hx_li29, hx_ai29, hx_si29, hx_li30, hx_ai30, hx_si30, hx_li31, hx_ai31, hx_si31, hx_li32, hx_ai32, hx_si32, hx_li33, hx_ai33, hx_si33, hx_lr4, hx_lr23, hx_sf0, hx_sf1, hx_ss1, hx_sf2, hx_ss2, hx_sf3, hx_ss3, hx_lkli, hx_lksi, hz]
  exact r1
end RX4
