/-! image, restore -/
theorem ob_s {α β : Type} (a : α) (f : α → Option β) : (some a).bind f = f a := Eq.trans rfl rfl
theorem ob_n {α β : Type} (f : α → Option β) : (none : Option α).bind f = none := Eq.trans rfl rfl
theorem ar_I (x : Int32) (h : ah_H) : ah_rI (some (some (.int x), h)) = some (x, h) := Eq.trans rfl rfl
theorem ar_L (x : Int64) (h : ah_H) : ah_rL (some (some (.long x), h)) = some (x, h) := Eq.trans rfl rfl
theorem ar_V (h : ah_H) : ah_rV (some (none, h)) = some h := Eq.trans rfl rfl
theorem gm_cpy_lt {f t : Nat → Int32} {n i : Nat} (h : i < n) : gm_cpy f t n i = f i := if_pos h
theorem gm_cpy_ge {f t : Nat → Int32} {n i : Nat} (h : ¬ i < n) : gm_cpy f t n i = t i := if_neg h
theorem gm_Mt_c {n : Nat} {m m2 : Nat → Int32} (h : ∀ i, i < n → m i = m2 i) (hM : gm_Mt n m) : gm_Mt n m2 := fun i hi => by
  rcases hM i hi with e | ⟨j, h1, h2, h3, h4⟩
  · left; rw [← h i hi]; exact e
  · right; exact ⟨j, h1, h2, by rw [← h i hi]; exact h3, by rw [← h j h1]; exact h4⟩
theorem va_l {α : Type} (f : Nat → α) (k : Nat) (x : α) (j : Nat) : va_up f k x j = if j = k then x else f j := Eq.trans rfl rfl
theorem va_c {α : Type} (f : Nat → α) {k j : Nat} (x u : α) (h : ¬ j = k) : va_up (va_up f k x) j u = va_up (va_up f j u) k x := by
  funext i
  rw [va_l, va_l, va_l, va_l]
  by_cases h1 : i = k
  · by_cases h2 : i = j
    · exact absurd (h2.symm.trans h1) h
    · rw [if_pos h1, if_neg h2, if_pos h1]
  · rw [if_neg h1, if_neg h1]
theorem va_3 {α : Type} (f : Nat → α) {a b c : Nat} (A B C A2 B2 C2 : α) (h1 : ¬ a = b) (h2 : ¬ a = c) (h3 : ¬ b = c) : va_up (va_up (va_up (va_up (va_up (va_up f a A) b B) c C) a A2) b B2) c C2 = va_up (va_up (va_up f a A2) b B2) c C2 := by
  rw [va_c _ _ _ h2, va_c _ _ _ h3, bx_uu, va_c _ _ _ h1, bx_uu, bx_uu]
theorem va_id3 {α : Type} (f : Nat → α) (a b c : Nat) : va_up (va_up (va_up f a (f a)) b (f b)) c (f c) = f := by
  rw [gm_up_id, gm_up_id, gm_up_id]
section PR9
variable {g : Nat}
theorem sX7_copyA (hg : 4000 ≤ g) (z : Nat → Int32) (w : Nat → Nat → Int32) (b : Int64) {n : Nat} (hn : n ≤ 8) (hz : z 7 = nI n) : aX7_copyFrom g [.ref 15, .ref 5] (hx z w b) = some (none, hx (va_up z 13 (nI n)) (va_up (va_up (va_up w 9 (gm_cpy (w 1) (w 9) n)) 10 (gm_cpy (w 2) (w 10) n)) 11 (gm_cpy (w 3) (w 11) n)) b) := by
  have loop : ∀ (k i F : Nat), i + k = n → k + 1 ≤ F → ah_run (kX7_copyFrom g) F 10 [(0, .ref 15), (1, .ref 5), (2, .int (nI i))] [] (hx (va_up z 13 (nI n)) (va_up (va_up (va_up w 9 (gm_cpy (w 1) (w 9) i)) 10 (gm_cpy (w 2) (w 10) i)) 11 (gm_cpy (w 3) (w 11) i)) b) = some (none, hx (va_up z 13 (nI n)) (va_up (va_up (va_up w 9 (gm_cpy (w 1) (w 9) n)) 10 (gm_cpy (w 2) (w 10) n)) 11 (gm_cpy (w 3) (w 11) n)) b) := by
    intro k
    induction k with
    | zero =>
      intro i F hi hF
      obtain ⟨f, rfl⟩ : ∃ f, F = f + 1 := ⟨F - 1, by omega⟩
      have e : i = n := by omega
      subst e
      simp only [rX7_copyFrom_10, ob_s, ob_n, ar_I, ar_L, ar_V, hx_v0, hx_fr0_0, hx_fr0_1, hx_fr0_2, hx_fr0_3, hx_fr0_4, hx_fi0_5, hx_sv0_5, hx_v1, hx_fr1_0, hx_fi1_1, hx_sv1_1, hx_v3, hx_fr3_0, hx_fr3_1, hx_fi3_2, hx_sv3_2, hx_fi3_3, hx_sv3_3, hx_fi3_4, hx_sv3_4, hx_fi3_5, hx_sv3_5, hx_fi3_6, hx_sv3_6, hx_fr3_7, hx_v5, hx_fi5_0, hx_sv5_0, hx_fr5_1, hx_fr5_2, hx_fr5_3, hx_fr5_4, hx_v11, hx_fi11_0, hx_sv11_0, hx_fr11_1, hx_fr11_2, hx_fr11_3, hx_fr11_4, hx_fi11_5, hx_sv11_5, hx_fi11_6, hx_sv11_6, hx_fi11_7, hx_sv11_7, hx_fi11_8, hx_sv11_8, hx_v15, hx_fi15_0, hx_sv15_0, hx_fr15_1, hx_fr15_2, hx_fr15_3, hx_fr15_4, hx_v20, hx_fi20_0, hx_sv20_0, hx_fi20_1, hx_sv20_1, hx_fi20_2, hx_sv20_2, hx_fi20_3, hx_sv20_3, hx_fr20_4, hx_fr20_5, hx_fr20_6, hx_fr20_7, hx_fi20_8, hx_sv20_8, hx_fi20_9, hx_sv20_9, hx_fi20_10, hx_sv20_10, hx_fi20_11, hx_sv20_11, hx_v25, hx_fi25_0, hx_sv25_0, hx_fi25_1, hx_sv25_1, hx_fl, hx_sl, hx_fr25_3, hx_li2, hx_ai2, hx_si2, hx_li6, hx_ai6, hx_si6, hx_li7, hx_ai7, hx_si7, hx_li8, hx_ai8, hx_si8, hx_li9, hx_ai9, hx_si9, hx_li10, hx_ai10, hx_si10, hx_li12, hx_ai12, hx_si12, hx_li13, hx_ai13, hx_si13, hx_li14, hx_ai14, hx_si14, hx_li16, hx_ai16, hx_si16, hx_li17, hx_ai17, hx_si17, hx_li18, hx_ai18, hx_si18, hx_li19, hx_ai19, hx_si19, hx_li21, hx_ai21, hx_si21, hx_li22, hx_ai22, hx_si22, hx_li24, hx_ai24, hx_si24, hx_li26, hx_ai26, hx_si26, hx_li27, hx_ai27, hx_si27, hx_li28, hx_ai28, hx_si28, hx_li29, hx_ai29, hx_si29, hx_li30, hx_ai30, hx_si30, hx_li31, hx_ai31, hx_si31, hx_li32, hx_ai32, hx_si32, hx_li33, hx_ai33, hx_si33, hx_lr4, hx_lr23, hx_sf0, hx_sf1, hx_ss1, hx_sf2, hx_ss2, hx_sf3, hx_ss3, hx_lkli, hx_lksi, va_l, Nat.reduceEqDiff, reduceIte, nI_ltnn (show i < 1000 by omega)]
    | succ k ih =>
      intro i F hi hF
      obtain ⟨f, rfl⟩ : ∃ f, F = f + 1 := ⟨F - 1, by omega⟩
      have i8 : i < 8 := by omega
      have m1 : ∀ f : Nat → Int32, ah_rd f 8 (nI i) = some (f i) := fun f => ah_rdN i8 (by decide)
      simp only [rX7_copyFrom_10, ob_s, ob_n, ar_I, ar_L, ar_V, hx_v0, hx_fr0_0, hx_fr0_1, hx_fr0_2, hx_fr0_3, hx_fr0_4, hx_fi0_5, hx_sv0_5, hx_v1, hx_fr1_0, hx_fi1_1, hx_sv1_1, hx_v3, hx_fr3_0, hx_fr3_1, hx_fi3_2, hx_sv3_2, hx_fi3_3, hx_sv3_3, hx_fi3_4, hx_sv3_4, hx_fi3_5, hx_sv3_5, hx_fi3_6, hx_sv3_6, hx_fr3_7, hx_v5, hx_fi5_0, hx_sv5_0, hx_fr5_1, hx_fr5_2, hx_fr5_3, hx_fr5_4, hx_v11, hx_fi11_0, hx_sv11_0, hx_fr11_1, hx_fr11_2, hx_fr11_3, hx_fr11_4, hx_fi11_5, hx_sv11_5, hx_fi11_6, hx_sv11_6, hx_fi11_7, hx_sv11_7, hx_fi11_8, hx_sv11_8, hx_v15, hx_fi15_0, hx_sv15_0, hx_fr15_1, hx_fr15_2, hx_fr15_3, hx_fr15_4, hx_v20, hx_fi20_0, hx_sv20_0, hx_fi20_1, hx_sv20_1, hx_fi20_2, hx_sv20_2, hx_fi20_3, hx_sv20_3, hx_fr20_4, hx_fr20_5, hx_fr20_6, hx_fr20_7, hx_fi20_8, hx_sv20_8, hx_fi20_9, hx_sv20_9, hx_fi20_10, hx_sv20_10, hx_fi20_11, hx_sv20_11, hx_v25, hx_fi25_0, hx_sv25_0, hx_fi25_1, hx_sv25_1, hx_fl, hx_sl, hx_fr25_3, hx_li2, hx_ai2, hx_si2, hx_li6, hx_ai6, hx_si6, hx_li7, hx_ai7, hx_si7, hx_li8, hx_ai8, hx_si8, hx_li9, hx_ai9, hx_si9, hx_li10, hx_ai10, hx_si10, hx_li12, hx_ai12, hx_si12, hx_li13, hx_ai13, hx_si13, hx_li14, hx_ai14, hx_si14, hx_li16, hx_ai16, hx_si16, hx_li17, hx_ai17, hx_si17, hx_li18, hx_ai18, hx_si18, hx_li19, hx_ai19, hx_si19, hx_li21, hx_ai21, hx_si21, hx_li22, hx_ai22, hx_si22, hx_li24, hx_ai24, hx_si24, hx_li26, hx_ai26, hx_si26, hx_li27, hx_ai27, hx_si27, hx_li28, hx_ai28, hx_si28, hx_li29, hx_ai29, hx_si29, hx_li30, hx_ai30, hx_si30, hx_li31, hx_ai31, hx_si31, hx_li32, hx_ai32, hx_si32, hx_li33, hx_ai33, hx_si33, hx_lr4, hx_lr23, hx_sf0, hx_sf1, hx_ss1, hx_sf2, hx_ss2, hx_sf3, hx_ss3, hx_lkli, hx_lksi, va_l, Nat.reduceEqDiff, reduceIte, i8, m1, nI_1, nI_ltin (show i < n by omega) (show n < 1000 by omega)]
      rw [va_3 _ _ _ _ _ _ _ (by decide) (by decide) (by decide), gm_cpy_s, gm_cpy_s, gm_cpy_s]
      exact ih (i + 1) f (by omega) (by omega)
  obtain ⟨f, rfl⟩ : ∃ f, g = f + 20 := ⟨g - 20, by omega⟩
  unfold aX7_copyFrom
  rw [eX7_copyFrom]
  simp only [ob_s, ob_n, ar_I, ar_L, ar_V, hx_v0, hx_fr0_0, hx_fr0_1, hx_fr0_2, hx_fr0_3, hx_fr0_4, hx_fi0_5, hx_sv0_5, hx_v1, hx_fr1_0, hx_fi1_1, hx_sv1_1, hx_v3, hx_fr3_0, hx_fr3_1, hx_fi3_2, hx_sv3_2, hx_fi3_3, hx_sv3_3, hx_fi3_4, hx_sv3_4, hx_fi3_5, hx_sv3_5, hx_fi3_6, hx_sv3_6, hx_fr3_7, hx_v5, hx_fi5_0, hx_sv5_0, hx_fr5_1, hx_fr5_2, hx_fr5_3, hx_fr5_4, hx_v11, hx_fi11_0, hx_sv11_0, hx_fr11_1, hx_fr11_2, hx_fr11_3, hx_fr11_4, hx_fi11_5, hx_sv11_5, hx_fi11_6, hx_sv11_6, hx_fi11_7, hx_sv11_7, hx_fi11_8, hx_sv11_8, hx_v15, hx_fi15_0, hx_sv15_0, hx_fr15_1, hx_fr15_2, hx_fr15_3, hx_fr15_4, hx_v20, hx_fi20_0, hx_sv20_0, hx_fi20_1, hx_sv20_1, hx_fi20_2, hx_sv20_2, hx_fi20_3, hx_sv20_3, hx_fr20_4, hx_fr20_5, hx_fr20_6, hx_fr20_7, hx_fi20_8, hx_sv20_8, hx_fi20_9, hx_sv20_9, hx_fi20_10, hx_sv20_10, hx_fi20_11, hx_sv20_11, hx_v25, hx_fi25_0, hx_sv25_0, hx_fi25_1, hx_sv25_1, hx_fl, hx_sl, hx_fr25_3, hx_li2, hx_ai2, hx_si2, hx_li6, hx_ai6, hx_si6, hx_li7, hx_ai7, hx_si7, hx_li8, hx_ai8, hx_si8, hx_li9, hx_ai9, hx_si9, hx_li10, hx_ai10, hx_si10, hx_li12, hx_ai12, hx_si12, hx_li13, hx_ai13, hx_si13, hx_li14, hx_ai14, hx_si14, hx_li16, hx_ai16, hx_si16, hx_li17, hx_ai17, hx_si17, hx_li18, hx_ai18, hx_si18, hx_li19, hx_ai19, hx_si19, hx_li21, hx_ai21, hx_si21, hx_li22, hx_ai22, hx_si22, hx_li24, hx_ai24, hx_si24, hx_li26, hx_ai26, hx_si26, hx_li27, hx_ai27, hx_si27, hx_li28, hx_ai28, hx_si28, hx_li29, hx_ai29, hx_si29, hx_li30, hx_ai30, hx_si30, hx_li31, hx_ai31, hx_si31, hx_li32, hx_ai32, hx_si32, hx_li33, hx_ai33, hx_si33, hx_lr4, hx_lr23, hx_sf0, hx_sf1, hx_ss1, hx_sf2, hx_ss2, hx_sf3, hx_ss3, hx_lkli, hx_lksi, hz]
  have := loop n 0 (f + 19) (by omega) (by omega)
  rw [gm_cpy_0, gm_cpy_0, gm_cpy_0, va_id3, show nI 0 = 0 from rfl] at this
  exact this
theorem sX7_copyB (hg : 4000 ≤ g) (z : Nat → Int32) (w : Nat → Nat → Int32) (b : Int64) {n : Nat} (hn : n ≤ 8) (hz : z 13 = nI n) : aX7_copyFrom g [.ref 5, .ref 15] (hx z w b) = some (none, hx (va_up z 7 (nI n)) (va_up (va_up (va_up w 1 (gm_cpy (w 9) (w 1) n)) 2 (gm_cpy (w 10) (w 2) n)) 3 (gm_cpy (w 11) (w 3) n)) b) := by
  have loop : ∀ (k i F : Nat), i + k = n → k + 1 ≤ F → ah_run (kX7_copyFrom g) F 10 [(0, .ref 5), (1, .ref 15), (2, .int (nI i))] [] (hx (va_up z 7 (nI n)) (va_up (va_up (va_up w 1 (gm_cpy (w 9) (w 1) i)) 2 (gm_cpy (w 10) (w 2) i)) 3 (gm_cpy (w 11) (w 3) i)) b) = some (none, hx (va_up z 7 (nI n)) (va_up (va_up (va_up w 1 (gm_cpy (w 9) (w 1) n)) 2 (gm_cpy (w 10) (w 2) n)) 3 (gm_cpy (w 11) (w 3) n)) b) := by
    intro k
    induction k with
    | zero =>
      intro i F hi hF
      obtain ⟨f, rfl⟩ : ∃ f, F = f + 1 := ⟨F - 1, by omega⟩
      have e : i = n := by omega
      subst e
      simp only [rX7_copyFrom_10, ob_s, ob_n, ar_I, ar_L, ar_V, hx_v0, hx_fr0_0, hx_fr0_1, hx_fr0_2, hx_fr0_3, hx_fr0_4, hx_fi0_5, hx_sv0_5, hx_v1, hx_fr1_0, hx_fi1_1, hx_sv1_1, hx_v3, hx_fr3_0, hx_fr3_1, hx_fi3_2, hx_sv3_2, hx_fi3_3, hx_sv3_3, hx_fi3_4, hx_sv3_4, hx_fi3_5, hx_sv3_5, hx_fi3_6, hx_sv3_6, hx_fr3_7, hx_v5, hx_fi5_0, hx_sv5_0, hx_fr5_1, hx_fr5_2, hx_fr5_3, hx_fr5_4, hx_v11, hx_fi11_0, hx_sv11_0, hx_fr11_1, hx_fr11_2, hx_fr11_3, hx_fr11_4, hx_fi11_5, hx_sv11_5, hx_fi11_6, hx_sv11_6, hx_fi11_7, hx_sv11_7, hx_fi11_8, hx_sv11_8, hx_v15, hx_fi15_0, hx_sv15_0, hx_fr15_1, hx_fr15_2, hx_fr15_3, hx_fr15_4, hx_v20, hx_fi20_0, hx_sv20_0, hx_fi20_1, hx_sv20_1, hx_fi20_2, hx_sv20_2, hx_fi20_3, hx_sv20_3, hx_fr20_4, hx_fr20_5, hx_fr20_6, hx_fr20_7, hx_fi20_8, hx_sv20_8, hx_fi20_9, hx_sv20_9, hx_fi20_10, hx_sv20_10, hx_fi20_11, hx_sv20_11, hx_v25, hx_fi25_0, hx_sv25_0, hx_fi25_1, hx_sv25_1, hx_fl, hx_sl, hx_fr25_3, hx_li2, hx_ai2, hx_si2, hx_li6, hx_ai6, hx_si6, hx_li7, hx_ai7, hx_si7, hx_li8, hx_ai8, hx_si8, hx_li9, hx_ai9, hx_si9, hx_li10, hx_ai10, hx_si10, hx_li12, hx_ai12, hx_si12, hx_li13, hx_ai13, hx_si13, hx_li14, hx_ai14, hx_si14, hx_li16, hx_ai16, hx_si16, hx_li17, hx_ai17, hx_si17, hx_li18, hx_ai18, hx_si18, hx_li19, hx_ai19, hx_si19, hx_li21, hx_ai21, hx_si21, hx_li22, hx_ai22, hx_si22, hx_li24, hx_ai24, hx_si24, hx_li26, hx_ai26, hx_si26, hx_li27, hx_ai27, hx_si27, hx_li28, hx_ai28, hx_si28, hx_li29, hx_ai29, hx_si29, hx_li30, hx_ai30, hx_si30, hx_li31, hx_ai31, hx_si31, hx_li32, hx_ai32, hx_si32, hx_li33, hx_ai33, hx_si33, hx_lr4, hx_lr23, hx_sf0, hx_sf1, hx_ss1, hx_sf2, hx_ss2, hx_sf3, hx_ss3, hx_lkli, hx_lksi, va_l, Nat.reduceEqDiff, reduceIte, nI_ltnn (show i < 1000 by omega)]
    | succ k ih =>
      intro i F hi hF
      obtain ⟨f, rfl⟩ : ∃ f, F = f + 1 := ⟨F - 1, by omega⟩
      have i8 : i < 8 := by omega
      have m1 : ∀ f : Nat → Int32, ah_rd f 8 (nI i) = some (f i) := fun f => ah_rdN i8 (by decide)
      simp only [rX7_copyFrom_10, ob_s, ob_n, ar_I, ar_L, ar_V, hx_v0, hx_fr0_0, hx_fr0_1, hx_fr0_2, hx_fr0_3, hx_fr0_4, hx_fi0_5, hx_sv0_5, hx_v1, hx_fr1_0, hx_fi1_1, hx_sv1_1, hx_v3, hx_fr3_0, hx_fr3_1, hx_fi3_2, hx_sv3_2, hx_fi3_3, hx_sv3_3, hx_fi3_4, hx_sv3_4, hx_fi3_5, hx_sv3_5, hx_fi3_6, hx_sv3_6, hx_fr3_7, hx_v5, hx_fi5_0, hx_sv5_0, hx_fr5_1, hx_fr5_2, hx_fr5_3, hx_fr5_4, hx_v11, hx_fi11_0, hx_sv11_0, hx_fr11_1, hx_fr11_2, hx_fr11_3, hx_fr11_4, hx_fi11_5, hx_sv11_5, hx_fi11_6, hx_sv11_6, hx_fi11_7, hx_sv11_7, hx_fi11_8, hx_sv11_8, hx_v15, hx_fi15_0, hx_sv15_0, hx_fr15_1, hx_fr15_2, hx_fr15_3, hx_fr15_4, hx_v20, hx_fi20_0, hx_sv20_0, hx_fi20_1, hx_sv20_1, hx_fi20_2, hx_sv20_2, hx_fi20_3, hx_sv20_3, hx_fr20_4, hx_fr20_5, hx_fr20_6, hx_fr20_7, hx_fi20_8, hx_sv20_8, hx_fi20_9, hx_sv20_9, hx_fi20_10, hx_sv20_10, hx_fi20_11, hx_sv20_11, hx_v25, hx_fi25_0, hx_sv25_0, hx_fi25_1, hx_sv25_1, hx_fl, hx_sl, hx_fr25_3, hx_li2, hx_ai2, hx_si2, hx_li6, hx_ai6, hx_si6, hx_li7, hx_ai7, hx_si7, hx_li8, hx_ai8, hx_si8, hx_li9, hx_ai9, hx_si9, hx_li10, hx_ai10, hx_si10, hx_li12, hx_ai12, hx_si12, hx_li13, hx_ai13, hx_si13, hx_li14, hx_ai14, hx_si14, hx_li16, hx_ai16, hx_si16, hx_li17, hx_ai17, hx_si17, hx_li18, hx_ai18, hx_si18, hx_li19, hx_ai19, hx_si19, hx_li21, hx_ai21, hx_si21, hx_li22, hx_ai22, hx_si22, hx_li24, hx_ai24, hx_si24, hx_li26, hx_ai26, hx_si26, hx_li27, hx_ai27, hx_si27, hx_li28, hx_ai28, hx_si28, hx_li29, hx_ai29, hx_si29, hx_li30, hx_ai30, hx_si30, hx_li31, hx_ai31, hx_si31, hx_li32, hx_ai32, hx_si32, hx_li33, hx_ai33, hx_si33, hx_lr4, hx_lr23, hx_sf0, hx_sf1, hx_ss1, hx_sf2, hx_ss2, hx_sf3, hx_ss3, hx_lkli, hx_lksi, va_l, Nat.reduceEqDiff, reduceIte, i8, m1, nI_1, nI_ltin (show i < n by omega) (show n < 1000 by omega)]
      rw [va_3 _ _ _ _ _ _ _ (by decide) (by decide) (by decide), gm_cpy_s, gm_cpy_s, gm_cpy_s]
      exact ih (i + 1) f (by omega) (by omega)
  obtain ⟨f, rfl⟩ : ∃ f, g = f + 20 := ⟨g - 20, by omega⟩
  unfold aX7_copyFrom
  rw [eX7_copyFrom]
  simp only [ob_s, ob_n, ar_I, ar_L, ar_V, hx_v0, hx_fr0_0, hx_fr0_1, hx_fr0_2, hx_fr0_3, hx_fr0_4, hx_fi0_5, hx_sv0_5, hx_v1, hx_fr1_0, hx_fi1_1, hx_sv1_1, hx_v3, hx_fr3_0, hx_fr3_1, hx_fi3_2, hx_sv3_2, hx_fi3_3, hx_sv3_3, hx_fi3_4, hx_sv3_4, hx_fi3_5, hx_sv3_5, hx_fi3_6, hx_sv3_6, hx_fr3_7, hx_v5, hx_fi5_0, hx_sv5_0, hx_fr5_1, hx_fr5_2, hx_fr5_3, hx_fr5_4, hx_v11, hx_fi11_0, hx_sv11_0, hx_fr11_1, hx_fr11_2, hx_fr11_3, hx_fr11_4, hx_fi11_5, hx_sv11_5, hx_fi11_6, hx_sv11_6, hx_fi11_7, hx_sv11_7, hx_fi11_8, hx_sv11_8, hx_v15, hx_fi15_0, hx_sv15_0, hx_fr15_1, hx_fr15_2, hx_fr15_3, hx_fr15_4, hx_v20, hx_fi20_0, hx_sv20_0, hx_fi20_1, hx_sv20_1, hx_fi20_2, hx_sv20_2, hx_fi20_3, hx_sv20_3, hx_fr20_4, hx_fr20_5, hx_fr20_6, hx_fr20_7, hx_fi20_8, hx_sv20_8, hx_fi20_9, hx_sv20_9, hx_fi20_10, hx_sv20_10, hx_fi20_11, hx_sv20_11, hx_v25, hx_fi25_0, hx_sv25_0, hx_fi25_1, hx_sv25_1, hx_fl, hx_sl, hx_fr25_3, hx_li2, hx_ai2, hx_si2, hx_li6, hx_ai6, hx_si6, hx_li7, hx_ai7, hx_si7, hx_li8, hx_ai8, hx_si8, hx_li9, hx_ai9, hx_si9, hx_li10, hx_ai10, hx_si10, hx_li12, hx_ai12, hx_si12, hx_li13, hx_ai13, hx_si13, hx_li14, hx_ai14, hx_si14, hx_li16, hx_ai16, hx_si16, hx_li17, hx_ai17, hx_si17, hx_li18, hx_ai18, hx_si18, hx_li19, hx_ai19, hx_si19, hx_li21, hx_ai21, hx_si21, hx_li22, hx_ai22, hx_si22, hx_li24, hx_ai24, hx_si24, hx_li26, hx_ai26, hx_si26, hx_li27, hx_ai27, hx_si27, hx_li28, hx_ai28, hx_si28, hx_li29, hx_ai29, hx_si29, hx_li30, hx_ai30, hx_si30, hx_li31, hx_ai31, hx_si31, hx_li32, hx_ai32, hx_si32, hx_li33, hx_ai33, hx_si33, hx_lr4, hx_lr23, hx_sf0, hx_sf1, hx_ss1, hx_sf2, hx_ss2, hx_sf3, hx_ss3, hx_lkli, hx_lksi, hz]
  have := loop n 0 (f + 19) (by omega) (by omega)
  rw [gm_cpy_0, gm_cpy_0, gm_cpy_0, va_id3, show nI 0 = 0 from rfl] at this
  exact this
def hx_k6 (w : Nat → Nat → Int32) (i : Nat) : Nat → Nat → Int32 := va_up (va_up (va_up w 6 (gm_cpy (w 19) (w 6) i)) 7 (gm_cpy (w 20) (w 7) i)) 8 (gm_cpy (w 21) (w 8) i)
def hx_k9 (w : Nat → Nat → Int32) (n : Nat) : Nat → Nat → Int32 := va_up (va_up (va_up w 9 (gm_cpy (w 1) (w 9) n)) 10 (gm_cpy (w 2) (w 10) n)) 11 (gm_cpy (w 3) (w 11) n)
theorem sX2_keep (hg : 4000 ≤ g) (z : Nat → Int32) (w : Nat → Nat → Int32) (b : Int64) {n sn : Nat} (hn : n ≤ 7) (hz : z 2 = nI n) (hs : sn ≤ 8) (hz7 : z 7 = nI sn) : aX2_keep g [.ref 11, .ref 3] (hx z w b) = some (none, hx (va_up (va_up (va_up (va_up (va_up (va_up z 13 (nI sn)) 9 (z 3)) 10 (z 4)) 11 (z 5)) 12 (z 6)) 8 1) (hx_k9 (hx_k6 w n) sn) b) := by
  have loop : ∀ (k i F : Nat), i + k = n → k + 1 ≤ F → ah_run (kX2_keep g) F 2 [(0, .ref 11), (1, .ref 3), (2, .int (nI i))] [] (hx z (hx_k6 w i) b) = some (none, hx (va_up (va_up (va_up (va_up (va_up (va_up z 13 (nI sn)) 9 (z 3)) 10 (z 4)) 11 (z 5)) 12 (z 6)) 8 1) (hx_k9 (hx_k6 w n) sn) b) := by
    intro k
    induction k with
    | zero =>
      intro i F hi hF
      obtain ⟨f, rfl⟩ : ∃ f, F = f + 1 := ⟨F - 1, by omega⟩
      have e : i = n := by omega
      subst e
      have hc := sX7_copyA hg z (hx_k6 w i) b hs hz7
      simp only [rX2_keep_2, ob_s, ob_n, ar_I, ar_L, ar_V, hx_v0, hx_fr0_0, hx_fr0_1, hx_fr0_2, hx_fr0_3, hx_fr0_4, hx_fi0_5, hx_sv0_5, hx_v1, hx_fr1_0, hx_fi1_1, hx_sv1_1, hx_v3, hx_fr3_0, hx_fr3_1, hx_fi3_2, hx_sv3_2, hx_fi3_3, hx_sv3_3, hx_fi3_4, hx_sv3_4, hx_fi3_5, hx_sv3_5, hx_fi3_6, hx_sv3_6, hx_fr3_7, hx_v5, hx_fi5_0, hx_sv5_0, hx_fr5_1, hx_fr5_2, hx_fr5_3, hx_fr5_4, hx_v11, hx_fi11_0, hx_sv11_0, hx_fr11_1, hx_fr11_2, hx_fr11_3, hx_fr11_4, hx_fi11_5, hx_sv11_5, hx_fi11_6, hx_sv11_6, hx_fi11_7, hx_sv11_7, hx_fi11_8, hx_sv11_8, hx_v15, hx_fi15_0, hx_sv15_0, hx_fr15_1, hx_fr15_2, hx_fr15_3, hx_fr15_4, hx_v20, hx_fi20_0, hx_sv20_0, hx_fi20_1, hx_sv20_1, hx_fi20_2, hx_sv20_2, hx_fi20_3, hx_sv20_3, hx_fr20_4, hx_fr20_5, hx_fr20_6, hx_fr20_7, hx_fi20_8, hx_sv20_8, hx_fi20_9, hx_sv20_9, hx_fi20_10, hx_sv20_10, hx_fi20_11, hx_sv20_11, hx_v25, hx_fi25_0, hx_sv25_0, hx_fi25_1, hx_sv25_1, hx_fl, hx_sl, hx_fr25_3, hx_li2, hx_ai2, hx_si2, hx_li6, hx_ai6, hx_si6, hx_li7, hx_ai7, hx_si7, hx_li8, hx_ai8, hx_si8, hx_li9, hx_ai9, hx_si9, hx_li10, hx_ai10, hx_si10, hx_li12, hx_ai12, hx_si12, hx_li13, hx_ai13, hx_si13, hx_li14, hx_ai14, hx_si14, hx_li16, hx_ai16, hx_si16, hx_li17, hx_ai17, hx_si17, hx_li18, hx_ai18, hx_si18, hx_li19, hx_ai19, hx_si19, hx_li21, hx_ai21, hx_si21, hx_li22, hx_ai22, hx_si22, hx_li24, hx_ai24, hx_si24, hx_li26, hx_ai26, hx_si26, hx_li27, hx_ai27, hx_si27, hx_li28, hx_ai28, hx_si28, hx_li29, hx_ai29, hx_si29, hx_li30, hx_ai30, hx_si30, hx_li31, hx_ai31, hx_si31, hx_li32, hx_ai32, hx_si32, hx_li33, hx_ai33, hx_si33, hx_lr4, hx_lr23, hx_sf0, hx_sf1, hx_ss1, hx_sf2, hx_ss2, hx_sf3, hx_ss3, hx_lkli, hx_lksi, va_l, Nat.reduceEqDiff, reduceIte, hz, nI_ltnn (show i < 1000 by omega), hc, or_true, if_true]
      rfl
    | succ k ih =>
      intro i F hi hF
      obtain ⟨f, rfl⟩ : ∃ f, F = f + 1 := ⟨F - 1, by omega⟩
      have i7 : i < 7 := by omega
      unfold hx_k6
      simp only [rX2_keep_2, ob_s, ob_n, ar_I, ar_L, ar_V, hx_v0, hx_fr0_0, hx_fr0_1, hx_fr0_2, hx_fr0_3, hx_fr0_4, hx_fi0_5, hx_sv0_5, hx_v1, hx_fr1_0, hx_fi1_1, hx_sv1_1, hx_v3, hx_fr3_0, hx_fr3_1, hx_fi3_2, hx_sv3_2, hx_fi3_3, hx_sv3_3, hx_fi3_4, hx_sv3_4, hx_fi3_5, hx_sv3_5, hx_fi3_6, hx_sv3_6, hx_fr3_7, hx_v5, hx_fi5_0, hx_sv5_0, hx_fr5_1, hx_fr5_2, hx_fr5_3, hx_fr5_4, hx_v11, hx_fi11_0, hx_sv11_0, hx_fr11_1, hx_fr11_2, hx_fr11_3, hx_fr11_4, hx_fi11_5, hx_sv11_5, hx_fi11_6, hx_sv11_6, hx_fi11_7, hx_sv11_7, hx_fi11_8, hx_sv11_8, hx_v15, hx_fi15_0, hx_sv15_0, hx_fr15_1, hx_fr15_2, hx_fr15_3, hx_fr15_4, hx_v20, hx_fi20_0, hx_sv20_0, hx_fi20_1, hx_sv20_1, hx_fi20_2, hx_sv20_2, hx_fi20_3, hx_sv20_3, hx_fr20_4, hx_fr20_5, hx_fr20_6, hx_fr20_7, hx_fi20_8, hx_sv20_8, hx_fi20_9, hx_sv20_9, hx_fi20_10, hx_sv20_10, hx_fi20_11, hx_sv20_11, hx_v25, hx_fi25_0, hx_sv25_0, hx_fi25_1, hx_sv25_1, hx_fl, hx_sl, hx_fr25_3, hx_li2, hx_ai2, hx_si2, hx_li6, hx_ai6, hx_si6, hx_li7, hx_ai7, hx_si7, hx_li8, hx_ai8, hx_si8, hx_li9, hx_ai9, hx_si9, hx_li10, hx_ai10, hx_si10, hx_li12, hx_ai12, hx_si12, hx_li13, hx_ai13, hx_si13, hx_li14, hx_ai14, hx_si14, hx_li16, hx_ai16, hx_si16, hx_li17, hx_ai17, hx_si17, hx_li18, hx_ai18, hx_si18, hx_li19, hx_ai19, hx_si19, hx_li21, hx_ai21, hx_si21, hx_li22, hx_ai22, hx_si22, hx_li24, hx_ai24, hx_si24, hx_li26, hx_ai26, hx_si26, hx_li27, hx_ai27, hx_si27, hx_li28, hx_ai28, hx_si28, hx_li29, hx_ai29, hx_si29, hx_li30, hx_ai30, hx_si30, hx_li31, hx_ai31, hx_si31, hx_li32, hx_ai32, hx_si32, hx_li33, hx_ai33, hx_si33, hx_lr4, hx_lr23, hx_sf0, hx_sf1, hx_ss1, hx_sf2, hx_ss2, hx_sf3, hx_ss3, hx_lkli, hx_lksi, va_l, Nat.reduceEqDiff, reduceIte, i7, hz, nI_ltin (show i < n by omega) (show n < 1000 by omega), nI_1]
      rw [va_3 _ _ _ _ _ _ _ (by decide) (by decide) (by decide), gm_cpy_s, gm_cpy_s, gm_cpy_s]
      exact ih (i + 1) f (by omega) (by omega)
  obtain ⟨f, rfl⟩ : ∃ f, g = f + 20 := ⟨g - 20, by omega⟩
  unfold aX2_keep
  rw [eX2_keep]
  have := loop n 0 (f + 19) (by omega) (by omega)
  unfold hx_k6 at this
  rw [gm_cpy_0, gm_cpy_0, gm_cpy_0, va_id3, show nI 0 = 0 from rfl] at this
  exact this
def hx_g19 (w : Nat → Nat → Int32) (i : Nat) : Nat → Nat → Int32 := va_up (va_up (va_up w 19 (gm_cpy (w 6) (w 19) i)) 20 (gm_cpy (w 7) (w 20) i)) 21 (gm_cpy (w 8) (w 21) i)
def hx_g1 (w : Nat → Nat → Int32) (n : Nat) : Nat → Nat → Int32 := va_up (va_up (va_up w 1 (gm_cpy (w 9) (w 1) n)) 2 (gm_cpy (w 10) (w 2) n)) 3 (gm_cpy (w 11) (w 3) n)
theorem sX2_giveBack (hg : 4000 ≤ g) (z : Nat → Int32) (w : Nat → Nat → Int32) (b : Int64) {n sn : Nat} (hn : n ≤ 7) (hz : z 2 = nI n) (hs : sn ≤ 8) (hz7 : z 13 = nI sn) : aX2_giveBack g [.ref 11, .ref 3] (hx z w b) = some (none, hx (va_up (va_up (va_up (va_up (va_up z 7 (nI sn)) 3 (z 9)) 4 (z 10)) 5 (z 11)) 6 (z 12)) (hx_g1 (hx_g19 w n) sn) b) := by
  have loop : ∀ (k i F : Nat), i + k = n → k + 1 ≤ F → ah_run (kX2_giveBack g) F 2 [(0, .ref 11), (1, .ref 3), (2, .int (nI i))] [] (hx z (hx_g19 w i) b) = some (none, hx (va_up (va_up (va_up (va_up (va_up z 7 (nI sn)) 3 (z 9)) 4 (z 10)) 5 (z 11)) 6 (z 12)) (hx_g1 (hx_g19 w n) sn) b) := by
    intro k
    induction k with
    | zero =>
      intro i F hi hF
      obtain ⟨f, rfl⟩ : ∃ f, F = f + 1 := ⟨F - 1, by omega⟩
      have e : i = n := by omega
      subst e
      have hc := sX7_copyB hg z (hx_g19 w i) b hs hz7
      simp only [rX2_giveBack_2, ob_s, ob_n, ar_I, ar_L, ar_V, hx_v0, hx_fr0_0, hx_fr0_1, hx_fr0_2, hx_fr0_3, hx_fr0_4, hx_fi0_5, hx_sv0_5, hx_v1, hx_fr1_0, hx_fi1_1, hx_sv1_1, hx_v3, hx_fr3_0, hx_fr3_1, hx_fi3_2, hx_sv3_2, hx_fi3_3, hx_sv3_3, hx_fi3_4, hx_sv3_4, hx_fi3_5, hx_sv3_5, hx_fi3_6, hx_sv3_6, hx_fr3_7, hx_v5, hx_fi5_0, hx_sv5_0, hx_fr5_1, hx_fr5_2, hx_fr5_3, hx_fr5_4, hx_v11, hx_fi11_0, hx_sv11_0, hx_fr11_1, hx_fr11_2, hx_fr11_3, hx_fr11_4, hx_fi11_5, hx_sv11_5, hx_fi11_6, hx_sv11_6, hx_fi11_7, hx_sv11_7, hx_fi11_8, hx_sv11_8, hx_v15, hx_fi15_0, hx_sv15_0, hx_fr15_1, hx_fr15_2, hx_fr15_3, hx_fr15_4, hx_v20, hx_fi20_0, hx_sv20_0, hx_fi20_1, hx_sv20_1, hx_fi20_2, hx_sv20_2, hx_fi20_3, hx_sv20_3, hx_fr20_4, hx_fr20_5, hx_fr20_6, hx_fr20_7, hx_fi20_8, hx_sv20_8, hx_fi20_9, hx_sv20_9, hx_fi20_10, hx_sv20_10, hx_fi20_11, hx_sv20_11, hx_v25, hx_fi25_0, hx_sv25_0, hx_fi25_1, hx_sv25_1, hx_fl, hx_sl, hx_fr25_3, hx_li2, hx_ai2, hx_si2, hx_li6, hx_ai6, hx_si6, hx_li7, hx_ai7, hx_si7, hx_li8, hx_ai8, hx_si8, hx_li9, hx_ai9, hx_si9, hx_li10, hx_ai10, hx_si10, hx_li12, hx_ai12, hx_si12, hx_li13, hx_ai13, hx_si13, hx_li14, hx_ai14, hx_si14, hx_li16, hx_ai16, hx_si16, hx_li17, hx_ai17, hx_si17, hx_li18, hx_ai18, hx_si18, hx_li19, hx_ai19, hx_si19, hx_li21, hx_ai21, hx_si21, hx_li22, hx_ai22, hx_si22, hx_li24, hx_ai24, hx_si24, hx_li26, hx_ai26, hx_si26, hx_li27, hx_ai27, hx_si27, hx_li28, hx_ai28, hx_si28, hx_li29, hx_ai29, hx_si29, hx_li30, hx_ai30, hx_si30, hx_li31, hx_ai31, hx_si31, hx_li32, hx_ai32, hx_si32, hx_li33, hx_ai33, hx_si33, hx_lr4, hx_lr23, hx_sf0, hx_sf1, hx_ss1, hx_sf2, hx_ss2, hx_sf3, hx_ss3, hx_lkli, hx_lksi, va_l, Nat.reduceEqDiff, reduceIte, hz, nI_ltnn (show i < 1000 by omega), hc, or_true, if_true]
      rfl
    | succ k ih =>
      intro i F hi hF
      obtain ⟨f, rfl⟩ : ∃ f, F = f + 1 := ⟨F - 1, by omega⟩
      have i7 : i < 7 := by omega
      have m1 : ∀ f : Nat → Int32, ah_rd f 7 (nI i) = some (f i) := fun f => ah_rdN i7 (by decide)
      unfold hx_g19
      simp only [rX2_giveBack_2, ob_s, ob_n, ar_I, ar_L, ar_V, hx_v0, hx_fr0_0, hx_fr0_1, hx_fr0_2, hx_fr0_3, hx_fr0_4, hx_fi0_5, hx_sv0_5, hx_v1, hx_fr1_0, hx_fi1_1, hx_sv1_1, hx_v3, hx_fr3_0, hx_fr3_1, hx_fi3_2, hx_sv3_2, hx_fi3_3, hx_sv3_3, hx_fi3_4, hx_sv3_4, hx_fi3_5, hx_sv3_5, hx_fi3_6, hx_sv3_6, hx_fr3_7, hx_v5, hx_fi5_0, hx_sv5_0, hx_fr5_1, hx_fr5_2, hx_fr5_3, hx_fr5_4, hx_v11, hx_fi11_0, hx_sv11_0, hx_fr11_1, hx_fr11_2, hx_fr11_3, hx_fr11_4, hx_fi11_5, hx_sv11_5, hx_fi11_6, hx_sv11_6, hx_fi11_7, hx_sv11_7, hx_fi11_8, hx_sv11_8, hx_v15, hx_fi15_0, hx_sv15_0, hx_fr15_1, hx_fr15_2, hx_fr15_3, hx_fr15_4, hx_v20, hx_fi20_0, hx_sv20_0, hx_fi20_1, hx_sv20_1, hx_fi20_2, hx_sv20_2, hx_fi20_3, hx_sv20_3, hx_fr20_4, hx_fr20_5, hx_fr20_6, hx_fr20_7, hx_fi20_8, hx_sv20_8, hx_fi20_9, hx_sv20_9, hx_fi20_10, hx_sv20_10, hx_fi20_11, hx_sv20_11, hx_v25, hx_fi25_0, hx_sv25_0, hx_fi25_1, hx_sv25_1, hx_fl, hx_sl, hx_fr25_3, hx_li2, hx_ai2, hx_si2, hx_li6, hx_ai6, hx_si6, hx_li7, hx_ai7, hx_si7, hx_li8, hx_ai8, hx_si8, hx_li9, hx_ai9, hx_si9, hx_li10, hx_ai10, hx_si10, hx_li12, hx_ai12, hx_si12, hx_li13, hx_ai13, hx_si13, hx_li14, hx_ai14, hx_si14, hx_li16, hx_ai16, hx_si16, hx_li17, hx_ai17, hx_si17, hx_li18, hx_ai18, hx_si18, hx_li19, hx_ai19, hx_si19, hx_li21, hx_ai21, hx_si21, hx_li22, hx_ai22, hx_si22, hx_li24, hx_ai24, hx_si24, hx_li26, hx_ai26, hx_si26, hx_li27, hx_ai27, hx_si27, hx_li28, hx_ai28, hx_si28, hx_li29, hx_ai29, hx_si29, hx_li30, hx_ai30, hx_si30, hx_li31, hx_ai31, hx_si31, hx_li32, hx_ai32, hx_si32, hx_li33, hx_ai33, hx_si33, hx_lr4, hx_lr23, hx_sf0, hx_sf1, hx_ss1, hx_sf2, hx_ss2, hx_sf3, hx_ss3, hx_lkli, hx_lksi, va_l, Nat.reduceEqDiff, reduceIte, i7, m1, hz, nI_ltin (show i < n by omega) (show n < 1000 by omega), nI_1]
      rw [va_3 _ _ _ _ _ _ _ (by decide) (by decide) (by decide), gm_cpy_s, gm_cpy_s, gm_cpy_s]
      exact ih (i + 1) f (by omega) (by omega)
  obtain ⟨f, rfl⟩ : ∃ f, g = f + 20 := ⟨g - 20, by omega⟩
  unfold aX2_giveBack
  rw [eX2_giveBack]
  have := loop n 0 (f + 19) (by omega) (by omega)
  unfold hx_g19 at this
  rw [gm_cpy_0, gm_cpy_0, gm_cpy_0, va_id3, show nI 0 = 0 from rfl] at this
  exact this
theorem hm_cp9_25 (hg : 4000 ≤ g) (z : Nat → Int32) (w : Nat → Nat → Int32) (b : Int64) : aX12_copy g [.ref 3, .ref 11] (hm z w b) = some (none, hm z (va_up w 25 (gm_cpy (w 9) (w 25) 7)) b) := sX12_copy z w b hg 3 11 9 25 7 (by omega) (fun t => hm_ai9 z (va_up w 25 t) b) (fun t i x hi => by
  rw [hm_si25 z (va_up w 25 t) b i x hi, bx_uu]
  rfl)
theorem hm_cp10_26 (hg : 4000 ≤ g) (z : Nat → Int32) (w : Nat → Nat → Int32) (b : Int64) : aX12_copy g [.ref 4, .ref 12] (hm z w b) = some (none, hm z (va_up w 26 (gm_cpy (w 10) (w 26) 7)) b) := sX12_copy z w b hg 4 12 10 26 7 (by omega) (fun t => hm_ai10 z (va_up w 26 t) b) (fun t i x hi => by
  rw [hm_si26 z (va_up w 26 t) b i x hi, bx_uu]
  rfl)
theorem hm_cp11_27 (hg : 4000 ≤ g) (z : Nat → Int32) (w : Nat → Nat → Int32) (b : Int64) : aX12_copy g [.ref 5, .ref 13] (hm z w b) = some (none, hm z (va_up w 27 (gm_cpy (w 11) (w 27) 7)) b) := sX12_copy z w b hg 5 13 11 27 7 (by omega) (fun t => hm_ai11 z (va_up w 27 t) b) (fun t i x hi => by
  rw [hm_si27 z (va_up w 27 t) b i x hi, bx_uu]
  rfl)
theorem hm_cp16_28 (hg : 4000 ≤ g) (z : Nat → Int32) (w : Nat → Nat → Int32) (b : Int64) : aX12_copy g [.ref 9, .ref 14] (hm z w b) = some (none, hm z (va_up w 28 (gm_cpy (w 16) (w 28) 24)) b) := sX12_copy z w b hg 9 14 16 28 24 (by omega) (fun t => hm_ai16 z (va_up w 28 t) b) (fun t i x hi => by
  rw [hm_si28 z (va_up w 28 t) b i x hi, bx_uu]
  rfl)
theorem hm_cp25_9 (hg : 4000 ≤ g) (z : Nat → Int32) (w : Nat → Nat → Int32) (b : Int64) : aX12_copy g [.ref 11, .ref 3] (hm z w b) = some (none, hm z (va_up w 9 (gm_cpy (w 25) (w 9) 7)) b) := sX12_copy z w b hg 11 3 25 9 7 (by omega) (fun t => hm_ai25 z (va_up w 9 t) b) (fun t i x hi => by
  rw [hm_si9 z (va_up w 9 t) b i x hi, bx_uu]
  rfl)
theorem hm_cp26_10 (hg : 4000 ≤ g) (z : Nat → Int32) (w : Nat → Nat → Int32) (b : Int64) : aX12_copy g [.ref 12, .ref 4] (hm z w b) = some (none, hm z (va_up w 10 (gm_cpy (w 26) (w 10) 7)) b) := sX12_copy z w b hg 12 4 26 10 7 (by omega) (fun t => hm_ai26 z (va_up w 10 t) b) (fun t i x hi => by
  rw [hm_si10 z (va_up w 10 t) b i x hi, bx_uu]
  rfl)
theorem hm_cp27_11 (hg : 4000 ≤ g) (z : Nat → Int32) (w : Nat → Nat → Int32) (b : Int64) : aX12_copy g [.ref 13, .ref 5] (hm z w b) = some (none, hm z (va_up w 11 (gm_cpy (w 27) (w 11) 7)) b) := sX12_copy z w b hg 13 5 27 11 7 (by omega) (fun t => hm_ai27 z (va_up w 11 t) b) (fun t i x hi => by
  rw [hm_si11 z (va_up w 11 t) b i x hi, bx_uu]
  rfl)
theorem hm_cp28_16 (hg : 4000 ≤ g) (z : Nat → Int32) (w : Nat → Nat → Int32) (b : Int64) : aX12_copy g [.ref 14, .ref 9] (hm z w b) = some (none, hm z (va_up w 16 (gm_cpy (w 28) (w 16) 24)) b) := sX12_copy z w b hg 14 9 28 16 24 (by omega) (fun t => hm_ai28 z (va_up w 16 t) b) (fun t i x hi => by
  rw [hm_si16 z (va_up w 16 t) b i x hi, bx_uu]
  rfl)
theorem hm_cp11_12 (hg : 4000 ≤ g) (z : Nat → Int32) (w : Nat → Nat → Int32) (b : Int64) : aX12_copy g [.ref 5, .ref 6] (hm z w b) = some (none, hm z (va_up w 12 (gm_cpy (w 11) (w 12) 7)) b) := sX12_copy z w b hg 5 6 11 12 7 (by omega) (fun t => hm_ai11 z (va_up w 12 t) b) (fun t i x hi => by
  rw [hm_si12 z (va_up w 12 t) b i x hi, bx_uu]
  rfl)
theorem hm_cp13_14 (hg : 4000 ≤ g) (z : Nat → Int32) (w : Nat → Nat → Int32) (b : Int64) : aX12_copy g [.ref 7, .ref 8] (hm z w b) = some (none, hm z (va_up w 14 (gm_cpy (w 13) (w 14) 7)) b) := sX12_copy z w b hg 7 8 13 14 7 (by omega) (fun t => hm_ai13 z (va_up w 14 t) b) (fun t i x hi => by
  rw [hm_si14 z (va_up w 14 t) b i x hi, bx_uu]
  rfl)
end PR9
