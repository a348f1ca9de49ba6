/-! the reference's rows: the next one, its sums -/
def mx_w (v : Nat → Nat → Int32) (r : Nat → Nat) (t : Nat → Int32) : Nat → Nat → Int32 := va_up (va_up v 13 (gm_cpy (enr r) (v 13) 7)) 14 t
theorem mx_w13 (v : Nat → Nat → Int32) (r : Nat → Nat) (t : Nat → Int32) : mx_w v r t 13 = gm_cpy (enr r) (v 13) 7 := rfl
theorem mx_w14 (v : Nat → Nat → Int32) (r : Nat → Nat) (t : Nat → Int32) : mx_w v r t 14 = t := rfl
theorem mx_w11 (v : Nat → Nat → Int32) (r : Nat → Nat) (t : Nat → Int32) : mx_w v r t 11 = v 11 := rfl
theorem mx_w10 (v : Nat → Nat → Int32) (r : Nat → Nat) (t : Nat → Int32) : mx_w v r t 10 = v 10 := rfl
theorem mx_u (v : Nat → Nat → Int32) (r : Nat → Nat) (t : Nat → Int32) {i : Nat} (x : Nat) (hi : i < 7) : va_up (mx_w v r t) 13 (upd (gm_cpy (enr r) (v 13) 7) i (en x)) = mx_w v (rw_u r i x) t := by
  unfold mx_w
  rw [va_c _ _ _ (show ¬ 13 = 14 by decide), bx_uu, en_u r (v 13) x hi]
theorem mx_ub (v : Nat → Nat → Int32) (r : Nat → Nat) (t t2 : Nat → Int32) : va_up (mx_w v r t) 14 t2 = mx_w v r t2 := by
  unfold mx_w
  rw [bx_uu]
/-- what the rows are made of -/
def mx_D (n : Nat) (v : Nat → Nat → Int32) (ok : Nat → Nat → Bool) (lv dv : Nat → Nat → Nat) : Prop := (∀ i j, i < n → j < n → (ok i j = true ↔ (v 11 i = -1 ∧ v 11 j = -1 ∧ mw_mb v i j = true))) ∧ (∀ i j, i < n → j < n → ok i j = true → mw_lk v i j = nI (lv i j)) ∧ (∀ i j, i < n → j < n → gm_far (v 10 i) (v 10 j) = nI (dv i j)) ∧ (∀ i j, lv i j ≤ 18) ∧ (∀ i j, dv i j ≤ 5) ∧ (∀ i j, ok i j = true → ok j i = true)
theorem nI_pm (a : Nat) : nI (a + 1) - 1 = nI a := by
  rw [← nI_1, Int32.add_sub_cancel]
theorem nI_m1 (a : Nat) : nI a + (-1) = nI a - 1 := by
  rw [Int32.sub_eq_add_neg]
theorem en_gt {i x : Nat} (hi : i < 1000) (h : x < 1000) : (nI i < en x) = (i + 1 < x) := by
  unfold en
  by_cases h0 : x = 0
  · rw [if_pos h0]
    refine propext ⟨fun h2 => ?_, fun h2 => by omega⟩
    rw [i32_lt, nI_toInt (by omega), show (-1 : Int32).toInt = -1 from rfl] at h2
    omega
  · rw [if_neg h0, nI_lti hi (by omega)]
    exact propext ⟨fun h2 => by omega, fun h2 => by omega⟩
section RM1
variable {g : Nat}
theorem sX12_nextRow (hg : 4000 ≤ g) (y : Nat → Int32) (v : Nat → Nat → Int32) (c : Int64) (t : Nat → Int32) {n : Nat} (hn : n ≤ 7) (hz : y 2 = nI n) {ok : Nat → Nat → Bool} {lv dv : Nat → Nat → Nat} (hD : mx_D n v ok lv dv) {r : Nat → Nat} (hr : rw_V n ok r) : aX12_nextRow g [.ref 0] (hm y (mx_w v r t) c) = some (some (.int (bI (rw_N n ok n r).1)), hm y (mx_w v (rw_N n ok n r).2 t) c) := by
  have find : ∀ (a : Nat), a < n → ∀ (m b F : Nat) (r : Nat → Nat), m + b = n → rw_V n ok r → m + 1 ≤ F → (∀ b2, rw_f ok r a m b = some b2 → ah_run (kX12_nextRow g) F 60 [(0, .ref 0), (1, .int (nI a)), (3, .int (nI b))] [] (hm y (mx_w v r t) c) = some (some (.int 1), hm y (mx_w v (rw_j r a b2) t) c)) ∧ (rw_f ok r a m b = none → ∃ F2, F ≤ F2 + m + 1 ∧ ah_run (kX12_nextRow g) F 60 [(0, .ref 0), (1, .int (nI a)), (3, .int (nI b))] [] (hm y (mx_w v r t) c) = ah_run (kX12_nextRow g) F2 7 [(0, .ref 0), (1, .int (nI a - 1))] [] (hm y (mx_w v r t) c)) := by
    intro a ha m
    have a7 : a < 7 := by omega
    have ma : ∀ f : Nat → Int32, ah_rd f 7 (nI a) = some (f a) := fun f => ah_rdN a7 (by decide)
    induction m with
    | zero =>
      intro b F r hb hr hF
      obtain ⟨f, rfl⟩ : ∃ f, F = f + 1 := ⟨F - 1, by omega⟩
      have e : b = n := by omega
      subst e
      refine ⟨fun b2 h => (by simp only [rw_f] at h; cases h), fun _ => ⟨f, by omega, ?_⟩⟩
      simp only [rX12_nextRow_60, ob_s, ob_n, ar_I, ar_L, ar_V, hm_vI, hm_fr0, hm_li0, hm_ai0, hm_si0, hm_fi1, hm_sv1, hm_fi2, hm_sv2, hm_fi3, hm_sv3, hm_fi4, hm_sv4, hm_fi5, hm_sv5, hm_fi6, hm_sv6, hm_fi7, hm_sv7, hm_fr8, hm_li8, hm_ai8, hm_si8, hm_fr9, hm_li9, hm_ai9, hm_si9, hm_fr10, hm_li10, hm_ai10, hm_si10, hm_fr11, hm_li11, hm_ai11, hm_si11, hm_fr12, hm_li12, hm_ai12, hm_si12, hm_fr13, hm_li13, hm_ai13, hm_si13, hm_fr14, hm_li14, hm_ai14, hm_si14, hm_fi15, hm_sv15, hm_fr16, hm_li16, hm_ai16, hm_si16, hm_fr17, hm_li17, hm_ai17, hm_si17, hm_fi18, hm_sv18, hm_fi19, hm_sv19, hm_fi20, hm_sv20, hm_fi21, hm_sv21, hm_fi22, hm_sv22, hm_fi23, hm_sv23, hm_fi24, hm_sv24, hm_fr25, hm_li25, hm_ai25, hm_si25, hm_fr26, hm_li26, hm_ai26, hm_si26, hm_fr27, hm_li27, hm_ai27, hm_si27, hm_fr28, hm_li28, hm_ai28, hm_si28, hm_fl, hm_sl, hz, nI_ltnn (show b < 1000 by omega), if_false, nI_m1]
    | succ m im =>
      intro b F r hb hr hF
      obtain ⟨f, rfl⟩ : ∃ f, F = f + 1 := ⟨F - 1, by omega⟩
      have b7 : b < 7 := by omega
      have bn : b < n := by omega
      have mb : ∀ f : Nat → Int32, ah_rd f 7 (nI b) = some (f b) := fun f => ah_rdN b7 (by decide)
      have hrb := hr.lt b
      have e3 : ((gm_cpy (enr r) (v 13) 7) b = -1) = (r b = 0) := by
        rw [gm_cpy_lt b7]
        exact en_m1 (by omega)
      have hmb := sX12_mayBe y (mx_w v r t) c hg a b a7 b7
      have hxm : gm_mb (mw_k (mx_w v r t)) (mw_h (mx_w v r t)) (mx_w v r t 9) a b = mw_mb v a b := rfl
      rw [hxm] at hmb
      have s1 := mx_u v r t (b + 1) a7
      have s2 := mx_u v (rw_u r a (b + 1)) t (a + 1) b7
      rw [en_s] at s1 s2
      rw [show rw_u (rw_u r a (b + 1)) b (a + 1) = rw_j r a b from rfl] at s2
      have step : ah_run (kX12_nextRow g) (f + 1) 60 [(0, .ref 0), (1, .int (nI a)), (3, .int (nI b))] [] (hm y (mx_w v r t) c) = if r b = 0 ∧ ok a b = true then some (some (.int 1), hm y (mx_w v (rw_j r a b) t) c) else ah_run (kX12_nextRow g) f 60 [(0, .ref 0), (1, .int (nI a)), (3, .int (nI (b + 1)))] [] (hm y (mx_w v r t) c) := by
        have hok := hD.1 a b ha bn
        simp only [rX12_nextRow_60, ob_s, ob_n, ar_I, ar_L, ar_V, hm_vI, hm_fr0, hm_li0, hm_ai0, hm_si0, hm_fi1, hm_sv1, hm_fi2, hm_sv2, hm_fi3, hm_sv3, hm_fi4, hm_sv4, hm_fi5, hm_sv5, hm_fi6, hm_sv6, hm_fi7, hm_sv7, hm_fr8, hm_li8, hm_ai8, hm_si8, hm_fr9, hm_li9, hm_ai9, hm_si9, hm_fr10, hm_li10, hm_ai10, hm_si10, hm_fr11, hm_li11, hm_ai11, hm_si11, hm_fr12, hm_li12, hm_ai12, hm_si12, hm_fr13, hm_li13, hm_ai13, hm_si13, hm_fr14, hm_li14, hm_ai14, hm_si14, hm_fi15, hm_sv15, hm_fr16, hm_li16, hm_ai16, hm_si16, hm_fr17, hm_li17, hm_ai17, hm_si17, hm_fi18, hm_sv18, hm_fi19, hm_sv19, hm_fi20, hm_sv20, hm_fi21, hm_sv21, hm_fi22, hm_sv22, hm_fi23, hm_sv23, hm_fi24, hm_sv24, hm_fr25, hm_li25, hm_ai25, hm_si25, hm_fr26, hm_li26, hm_ai26, hm_si26, hm_fr27, hm_li27, hm_ai27, hm_si27, hm_fr28, hm_li28, hm_ai28, hm_si28, hm_fl, hm_sl, hz, nI_ltin bn (show n < 1000 by omega), if_true, mx_w13, mx_w11, ma, mb, e3, hmb, bI_0, a7, b7, s1, s2, nI_1]
        by_cases h1 : r b = 0
        · rw [if_pos h1]
          by_cases h2 : v 11 a = -1
          · rw [if_pos h2]
            by_cases h3 : v 11 b = -1
            · rw [if_pos h3]
              by_cases h4 : mw_mb v a b = true
              · rw [if_neg (by rw [h4]; decide), if_pos ⟨h1, hok.mpr ⟨h2, h3, h4⟩⟩]
              · rw [if_pos (by cases e : mw_mb v a b; rfl; exact absurd e h4), if_neg (fun h => h4 (hok.mp h.2).2.2)]
            · rw [if_neg h3, if_neg (fun h => h3 (hok.mp h.2).2.1)]
          · rw [if_neg h2, if_neg (fun h => h2 (hok.mp h.2).1)]
        · rw [if_neg h1, if_neg (fun h => h1 h.1)]
      rw [step]
      simp only [rw_f]
      by_cases h : r b = 0 ∧ ok a b = true
      · rw [if_pos h, if_pos h]
        refine ⟨fun b2 e => ?_, fun e => by cases e⟩
        cases e
        rfl
      · rw [if_neg h, if_neg h]
        obtain ⟨i1, i2⟩ := im (b + 1) f r (by omega) hr (by omega)
        refine ⟨i1, fun e => ?_⟩
        obtain ⟨F2, q1, q2⟩ := i2 e
        exact ⟨F2, by omega, q2⟩
  have outer : ∀ (a F : Nat) (r : Nat → Nat), a ≤ n → 10 * a + 1 ≤ F → rw_V n ok r → ah_run (kX12_nextRow g) F 7 [(0, .ref 0), (1, .int (nI a - 1))] [] (hm y (mx_w v r t) c) = some (some (.int (bI (rw_N n ok a r).1)), hm y (mx_w v (rw_N n ok a r).2 t) c) := by
    intro a
    induction a with
    | zero =>
      intro F r ha hF hr
      obtain ⟨f, rfl⟩ : ∃ f, F = f + 1 := ⟨F - 1, by omega⟩
      rw [rX12_nextRow_7, if_pos (by decide)]
      rfl
    | succ a ih =>
      intro F r ha hF hr
      obtain ⟨f, rfl⟩ : ∃ f, F = f + 1 := ⟨F - 1, by omega⟩
      have a7 : a < 7 := by omega
      have an : a < n := by omega
      have ma : ∀ f : Nat → Int32, ah_rd f 7 (nI a) = some (f a) := fun f => ah_rdN a7 (by decide)
      have hra := hr.lt a
      have e0 : (gm_cpy (enr r) (v 13) 7) a = en (r a) := by
        rw [gm_cpy_lt a7]
        rfl
      have e1 : (nI a < 0) = False := by
        refine eq_false (fun h => ?_)
        rw [i32_lt, nI_toInt (by omega), show (0 : Int32).toInt = 0 from rfl] at h
        omega
      rw [nI_pm]
      simp only [rw_N]
      by_cases h0 : r a = 0
      · rw [if_pos h0]
        have e2 : en (r a) = -1 := by rw [h0, en_0]
        have start : ah_run (kX12_nextRow g) (f + 1) 7 [(0, .ref 0), (1, .int (nI a))] [] (hm y (mx_w v r t) c) = ah_run (kX12_nextRow g) f 60 [(0, .ref 0), (1, .int (nI a)), (3, .int (nI (a + 1)))] [] (hm y (mx_w v r t) c) := by
          simp only [rX12_nextRow_7, ob_s, ob_n, ar_I, ar_L, ar_V, hm_vI, hm_fr0, hm_li0, hm_ai0, hm_si0, hm_fi1, hm_sv1, hm_fi2, hm_sv2, hm_fi3, hm_sv3, hm_fi4, hm_sv4, hm_fi5, hm_sv5, hm_fi6, hm_sv6, hm_fi7, hm_sv7, hm_fr8, hm_li8, hm_ai8, hm_si8, hm_fr9, hm_li9, hm_ai9, hm_si9, hm_fr10, hm_li10, hm_ai10, hm_si10, hm_fr11, hm_li11, hm_ai11, hm_si11, hm_fr12, hm_li12, hm_ai12, hm_si12, hm_fr13, hm_li13, hm_ai13, hm_si13, hm_fr14, hm_li14, hm_ai14, hm_si14, hm_fi15, hm_sv15, hm_fr16, hm_li16, hm_ai16, hm_si16, hm_fr17, hm_li17, hm_ai17, hm_si17, hm_fi18, hm_sv18, hm_fi19, hm_sv19, hm_fi20, hm_sv20, hm_fi21, hm_sv21, hm_fi22, hm_sv22, hm_fi23, hm_sv23, hm_fi24, hm_sv24, hm_fr25, hm_li25, hm_ai25, hm_si25, hm_fr26, hm_li26, hm_ai26, hm_si26, hm_fr27, hm_li27, hm_ai27, hm_si27, hm_fr28, hm_li28, hm_ai28, hm_si28, hm_fl, hm_sl, e1, if_false, mx_w13, ma, e0, e2, if_true, nI_1]
        rw [start]
        obtain ⟨i1, i2⟩ := find a an (n - (a + 1)) (a + 1) f r (by omega) hr (by omega)
        cases e : rw_f ok r a (n - (a + 1)) (a + 1) with
        | some b2 => exact i1 b2 e
        | none =>
          obtain ⟨F2, q1, q2⟩ := i2 e
          rw [q2]
          exact ih F2 r (by omega) (by omega) hr
      · rw [if_neg h0]
        obtain ⟨x, hx1⟩ : ∃ x, r a = x + 1 := ⟨r a - 1, by omega⟩
        have e2 : en (r a) = nI x := by rw [hx1, en_s]
        have e3 : (nI x = -1) = False := gm_ok_ne (by omega)
        by_cases h1 : a + 1 < r a
        · rw [if_pos h1]
          have x7 : x < 7 := by omega
          have hV : rw_V n ok (rw_u (rw_u r (r a - 1) 0) a 0) := by
            have := rw_d_V hr a
            unfold rw_d at this
            rwa [if_neg h0] at this
          have s1 := mx_u v r t 0 x7
          have s2 := mx_u v (rw_u r x 0) t 0 a7
          rw [en_0] at s1 s2
          have ex : r a - 1 = x := by omega
          rw [ex] at hV ⊢
          have start : ah_run (kX12_nextRow g) (f + 1) 7 [(0, .ref 0), (1, .int (nI a))] [] (hm y (mx_w v r t) c) = ah_run (kX12_nextRow g) f 60 [(0, .ref 0), (1, .int (nI a)), (3, .int (nI (r a)))] [] (hm y (mx_w v (rw_u (rw_u r x 0) a 0) t) c) := by
            simp only [rX12_nextRow_7, ob_s, ob_n, ar_I, ar_L, ar_V, hm_vI, hm_fr0, hm_li0, hm_ai0, hm_si0, hm_fi1, hm_sv1, hm_fi2, hm_sv2, hm_fi3, hm_sv3, hm_fi4, hm_sv4, hm_fi5, hm_sv5, hm_fi6, hm_sv6, hm_fi7, hm_sv7, hm_fr8, hm_li8, hm_ai8, hm_si8, hm_fr9, hm_li9, hm_ai9, hm_si9, hm_fr10, hm_li10, hm_ai10, hm_si10, hm_fr11, hm_li11, hm_ai11, hm_si11, hm_fr12, hm_li12, hm_ai12, hm_si12, hm_fr13, hm_li13, hm_ai13, hm_si13, hm_fr14, hm_li14, hm_ai14, hm_si14, hm_fi15, hm_sv15, hm_fr16, hm_li16, hm_ai16, hm_si16, hm_fr17, hm_li17, hm_ai17, hm_si17, hm_fi18, hm_sv18, hm_fi19, hm_sv19, hm_fi20, hm_sv20, hm_fi21, hm_sv21, hm_fi22, hm_sv22, hm_fi23, hm_sv23, hm_fi24, hm_sv24, hm_fr25, hm_li25, hm_ai25, hm_si25, hm_fr26, hm_li26, hm_ai26, hm_si26, hm_fr27, hm_li27, hm_ai27, hm_si27, hm_fr28, hm_li28, hm_ai28, hm_si28, hm_fl, hm_sl, e1, if_false, mx_w13, ma, e0, e2, e3, nI_ltin (show a < x by omega) (show x < 1000 by omega), if_true, x7, a7, s1, s2, nI_1]
            rw [hx1]
          rw [start]
          obtain ⟨i1, i2⟩ := find a an (n - r a) (r a) f (rw_u (rw_u r x 0) a 0) (by omega) hV (by omega)
          cases e : rw_f ok (rw_u (rw_u r x 0) a 0) a (n - r a) (r a) with
          | some b2 => exact i1 b2 e
          | none =>
            obtain ⟨F2, q1, q2⟩ := i2 e
            rw [q2]
            exact ih F2 _ (by omega) (by omega) hV
        · rw [if_neg h1]
          have e4 : (nI a < nI x) = False := by
            rw [nI_lti (by omega) (by omega)]
            exact eq_false (by omega)
          have start : ah_run (kX12_nextRow g) (f + 1) 7 [(0, .ref 0), (1, .int (nI a))] [] (hm y (mx_w v r t) c) = ah_run (kX12_nextRow g) f 7 [(0, .ref 0), (1, .int (nI a - 1))] [] (hm y (mx_w v r t) c) := by
            simp only [rX12_nextRow_7, ob_s, ob_n, ar_I, ar_L, ar_V, hm_vI, hm_fr0, hm_li0, hm_ai0, hm_si0, hm_fi1, hm_sv1, hm_fi2, hm_sv2, hm_fi3, hm_sv3, hm_fi4, hm_sv4, hm_fi5, hm_sv5, hm_fi6, hm_sv6, hm_fi7, hm_sv7, hm_fr8, hm_li8, hm_ai8, hm_si8, hm_fr9, hm_li9, hm_ai9, hm_si9, hm_fr10, hm_li10, hm_ai10, hm_si10, hm_fr11, hm_li11, hm_ai11, hm_si11, hm_fr12, hm_li12, hm_ai12, hm_si12, hm_fr13, hm_li13, hm_ai13, hm_si13, hm_fr14, hm_li14, hm_ai14, hm_si14, hm_fi15, hm_sv15, hm_fr16, hm_li16, hm_ai16, hm_si16, hm_fr17, hm_li17, hm_ai17, hm_si17, hm_fi18, hm_sv18, hm_fi19, hm_sv19, hm_fi20, hm_sv20, hm_fi21, hm_sv21, hm_fi22, hm_sv22, hm_fi23, hm_sv23, hm_fi24, hm_sv24, hm_fr25, hm_li25, hm_ai25, hm_si25, hm_fr26, hm_li26, hm_ai26, hm_si26, hm_fr27, hm_li27, hm_ai27, hm_si27, hm_fr28, hm_li28, hm_ai28, hm_si28, hm_fl, hm_sl, e1, if_false, mx_w13, ma, e0, e2, e3, e4, nI_m1]
          rw [start]
          exact ih f r (by omega) (by omega) hr
  have := outer n (g - 1) r (Nat.le_refl _) (by omega) hr
  obtain ⟨f, rfl⟩ : ∃ f, g = f + 1 := ⟨g - 1, by omega⟩
  unfold aX12_nextRow
  rw [eX12_nextRow]
  rw [Nat.add_sub_cancel] at this
  simp only [ob_s, ob_n, ar_I, ar_L, ar_V, hm_vI, hm_fr0, hm_li0, hm_ai0, hm_si0, hm_fi1, hm_sv1, hm_fi2, hm_sv2, hm_fi3, hm_sv3, hm_fi4, hm_sv4, hm_fi5, hm_sv5, hm_fi6, hm_sv6, hm_fi7, hm_sv7, hm_fr8, hm_li8, hm_ai8, hm_si8, hm_fr9, hm_li9, hm_ai9, hm_si9, hm_fr10, hm_li10, hm_ai10, hm_si10, hm_fr11, hm_li11, hm_ai11, hm_si11, hm_fr12, hm_li12, hm_ai12, hm_si12, hm_fr13, hm_li13, hm_ai13, hm_si13, hm_fr14, hm_li14, hm_ai14, hm_si14, hm_fi15, hm_sv15, hm_fr16, hm_li16, hm_ai16, hm_si16, hm_fr17, hm_li17, hm_ai17, hm_si17, hm_fi18, hm_sv18, hm_fi19, hm_sv19, hm_fi20, hm_sv20, hm_fi21, hm_sv21, hm_fi22, hm_sv22, hm_fi23, hm_sv23, hm_fi24, hm_sv24, hm_fr25, hm_li25, hm_ai25, hm_si25, hm_fr26, hm_li26, hm_ai26, hm_si26, hm_fr27, hm_li27, hm_ai27, hm_si27, hm_fr28, hm_li28, hm_ai28, hm_si28, hm_fl, hm_sl, hz]
  exact this
theorem sX12_likenessRow (hg : 4000 ≤ g) (y : Nat → Int32) (v : Nat → Nat → Int32) (c : Int64) (t : Nat → Int32) {n : Nat} (hn : n ≤ 7) (hz : y 2 = nI n) {ok : Nat → Nat → Bool} {lv dv : Nat → Nat → Nat} (hD : mx_D n v ok lv dv) {r : Nat → Nat} (hr : rw_V n ok r) : aX12_likenessRow g [.ref 0] (hm y (mx_w v r t) c) = some (some (.int (nI (rw_s (rw_K lv r) n))), hm y (mx_w v r t) c) := by
  have loop : ∀ (k i F : Nat), i + k = n → k + 1 ≤ F → ah_run (kX12_likenessRow g) F 4 [(0, .ref 0), (1, .int (nI (rw_s (rw_K lv r) i))), (2, .int (nI i))] [] (hm y (mx_w v r t) c) = some (some (.int (nI (rw_s (rw_K lv r) n))), hm y (mx_w v r t) c) := by
    intro k
    induction k with
    | zero =>
      intro i F hi hF
      obtain ⟨f, rfl⟩ : ∃ f, F = f + 1 := ⟨F - 1, by omega⟩
      have e : i = n := by omega
      subst e
      simp only [rX12_likenessRow_4, ob_s, ob_n, ar_I, ar_L, ar_V, hm_vI, hm_fr0, hm_li0, hm_ai0, hm_si0, hm_fi1, hm_sv1, hm_fi2, hm_sv2, hm_fi3, hm_sv3, hm_fi4, hm_sv4, hm_fi5, hm_sv5, hm_fi6, hm_sv6, hm_fi7, hm_sv7, hm_fr8, hm_li8, hm_ai8, hm_si8, hm_fr9, hm_li9, hm_ai9, hm_si9, hm_fr10, hm_li10, hm_ai10, hm_si10, hm_fr11, hm_li11, hm_ai11, hm_si11, hm_fr12, hm_li12, hm_ai12, hm_si12, hm_fr13, hm_li13, hm_ai13, hm_si13, hm_fr14, hm_li14, hm_ai14, hm_si14, hm_fi15, hm_sv15, hm_fr16, hm_li16, hm_ai16, hm_si16, hm_fr17, hm_li17, hm_ai17, hm_si17, hm_fi18, hm_sv18, hm_fi19, hm_sv19, hm_fi20, hm_sv20, hm_fi21, hm_sv21, hm_fi22, hm_sv22, hm_fi23, hm_sv23, hm_fi24, hm_sv24, hm_fr25, hm_li25, hm_ai25, hm_si25, hm_fr26, hm_li26, hm_ai26, hm_si26, hm_fr27, hm_li27, hm_ai27, hm_si27, hm_fr28, hm_li28, hm_ai28, hm_si28, hm_fl, hm_sl, hz, nI_ltnn (show i < 1000 by omega), if_false]
    | succ k ih =>
      intro i F hi hF
      obtain ⟨f, rfl⟩ : ∃ f, F = f + 1 := ⟨F - 1, by omega⟩
      have i7 : i < 7 := by omega
      have mi : ∀ f : Nat → Int32, ah_rd f 7 (nI i) = some (f i) := fun f => ah_rdN i7 (by decide)
      have hri := hr.lt i
      have e0 : (gm_cpy (enr r) (v 13) 7) i = en (r i) := by
        rw [gm_cpy_lt i7]
        rfl
      have next := ih (i + 1) f (by omega) (by omega)
      rw [← next]
      show _ = ah_run (kX12_likenessRow g) f 4 [(0, .ref 0), (1, .int (nI (rw_s (rw_K lv r) i + rw_K lv r i))), (2, .int (nI (i + 1)))] [] (hm y (mx_w v r t) c)
      simp only [rX12_likenessRow_4, ob_s, ob_n, ar_I, ar_L, ar_V, hm_vI, hm_fr0, hm_li0, hm_ai0, hm_si0, hm_fi1, hm_sv1, hm_fi2, hm_sv2, hm_fi3, hm_sv3, hm_fi4, hm_sv4, hm_fi5, hm_sv5, hm_fi6, hm_sv6, hm_fi7, hm_sv7, hm_fr8, hm_li8, hm_ai8, hm_si8, hm_fr9, hm_li9, hm_ai9, hm_si9, hm_fr10, hm_li10, hm_ai10, hm_si10, hm_fr11, hm_li11, hm_ai11, hm_si11, hm_fr12, hm_li12, hm_ai12, hm_si12, hm_fr13, hm_li13, hm_ai13, hm_si13, hm_fr14, hm_li14, hm_ai14, hm_si14, hm_fi15, hm_sv15, hm_fr16, hm_li16, hm_ai16, hm_si16, hm_fr17, hm_li17, hm_ai17, hm_si17, hm_fi18, hm_sv18, hm_fi19, hm_sv19, hm_fi20, hm_sv20, hm_fi21, hm_sv21, hm_fi22, hm_sv22, hm_fi23, hm_sv23, hm_fi24, hm_sv24, hm_fr25, hm_li25, hm_ai25, hm_si25, hm_fr26, hm_li26, hm_ai26, hm_si26, hm_fr27, hm_li27, hm_ai27, hm_si27, hm_fr28, hm_li28, hm_ai28, hm_si28, hm_fl, hm_sl, hz, nI_ltin (show i < n by omega) (show n < 1000 by omega), if_true, mx_w13, mi, e0, en_gt (show i < 1000 by omega) (show r i < 1000 by omega), nI_1, i32_a0]
      unfold rw_K
      by_cases h : i + 1 < r i
      · rw [if_pos h, if_pos h]
        obtain ⟨x, hx1⟩ : ∃ x, r i = x + 1 := ⟨r i - 1, by omega⟩
        obtain ⟨q1, q2, q3, q4, q5⟩ := hr i x hx1
        rw [hx1, en_s, Nat.add_sub_cancel]
        have hlk := sX12_likenessOf y (mx_w v r t) c hg i x i7 (by omega)
        have hxm : gm_lk (mw_k (mx_w v r t)) (mw_h (mx_w v r t)) (mx_w v r t 9) i x = mw_lk v i x := rfl
        rw [hxm, hD.2.1 i x q1 q2 q5] at hlk
        simp only [hlk, ob_s, ob_n, ar_I, ar_L, ar_V, nI_add]
      · rw [if_neg h, if_neg h]
        simp only [Nat.add_zero]
  obtain ⟨f, rfl⟩ : ∃ f, g = f + 20 := ⟨g - 20, by omega⟩
  unfold aX12_likenessRow
  rw [eX12_likenessRow]
  have := loop n 0 (f + 19) (by omega) (by omega)
  rw [show nI (rw_s (rw_K lv r) 0) = 0 from rfl, show nI 0 = 0 from rfl] at this
  exact this
theorem sX12_milesRow (hg : 4000 ≤ g) (y : Nat → Int32) (v : Nat → Nat → Int32) (c : Int64) (t : Nat → Int32) {n : Nat} (hn : n ≤ 7) (hz : y 2 = nI n) {ok : Nat → Nat → Bool} {lv dv : Nat → Nat → Nat} (hD : mx_D n v ok lv dv) {r : Nat → Nat} (hr : rw_V n ok r) : aX12_milesRow g [.ref 0] (hm y (mx_w v r t) c) = some (some (.int (nI (rw_s (rw_K dv r) n))), hm y (mx_w v r t) c) := by
  have loop : ∀ (k i F : Nat), i + k = n → k + 1 ≤ F → ah_run (kX12_milesRow g) F 4 [(0, .ref 0), (1, .int (nI (rw_s (rw_K dv r) i))), (2, .int (nI i))] [] (hm y (mx_w v r t) c) = some (some (.int (nI (rw_s (rw_K dv r) n))), hm y (mx_w v r t) c) := by
    intro k
    induction k with
    | zero =>
      intro i F hi hF
      obtain ⟨f, rfl⟩ : ∃ f, F = f + 1 := ⟨F - 1, by omega⟩
      have e : i = n := by omega
      subst e
      simp only [rX12_milesRow_4, ob_s, ob_n, ar_I, ar_L, ar_V, hm_vI, hm_fr0, hm_li0, hm_ai0, hm_si0, hm_fi1, hm_sv1, hm_fi2, hm_sv2, hm_fi3, hm_sv3, hm_fi4, hm_sv4, hm_fi5, hm_sv5, hm_fi6, hm_sv6, hm_fi7, hm_sv7, hm_fr8, hm_li8, hm_ai8, hm_si8, hm_fr9, hm_li9, hm_ai9, hm_si9, hm_fr10, hm_li10, hm_ai10, hm_si10, hm_fr11, hm_li11, hm_ai11, hm_si11, hm_fr12, hm_li12, hm_ai12, hm_si12, hm_fr13, hm_li13, hm_ai13, hm_si13, hm_fr14, hm_li14, hm_ai14, hm_si14, hm_fi15, hm_sv15, hm_fr16, hm_li16, hm_ai16, hm_si16, hm_fr17, hm_li17, hm_ai17, hm_si17, hm_fi18, hm_sv18, hm_fi19, hm_sv19, hm_fi20, hm_sv20, hm_fi21, hm_sv21, hm_fi22, hm_sv22, hm_fi23, hm_sv23, hm_fi24, hm_sv24, hm_fr25, hm_li25, hm_ai25, hm_si25, hm_fr26, hm_li26, hm_ai26, hm_si26, hm_fr27, hm_li27, hm_ai27, hm_si27, hm_fr28, hm_li28, hm_ai28, hm_si28, hm_fl, hm_sl, hz, nI_ltnn (show i < 1000 by omega), if_false]
    | succ k ih =>
      intro i F hi hF
      obtain ⟨f, rfl⟩ : ∃ f, F = f + 1 := ⟨F - 1, by omega⟩
      have i7 : i < 7 := by omega
      have mi : ∀ f : Nat → Int32, ah_rd f 7 (nI i) = some (f i) := fun f => ah_rdN i7 (by decide)
      have hri := hr.lt i
      have e0 : (gm_cpy (enr r) (v 13) 7) i = en (r i) := by
        rw [gm_cpy_lt i7]
        rfl
      have next := ih (i + 1) f (by omega) (by omega)
      rw [← next]
      show _ = ah_run (kX12_milesRow g) f 4 [(0, .ref 0), (1, .int (nI (rw_s (rw_K dv r) i + rw_K dv r i))), (2, .int (nI (i + 1)))] [] (hm y (mx_w v r t) c)
      simp only [rX12_milesRow_4, ob_s, ob_n, ar_I, ar_L, ar_V, hm_vI, hm_fr0, hm_li0, hm_ai0, hm_si0, hm_fi1, hm_sv1, hm_fi2, hm_sv2, hm_fi3, hm_sv3, hm_fi4, hm_sv4, hm_fi5, hm_sv5, hm_fi6, hm_sv6, hm_fi7, hm_sv7, hm_fr8, hm_li8, hm_ai8, hm_si8, hm_fr9, hm_li9, hm_ai9, hm_si9, hm_fr10, hm_li10, hm_ai10, hm_si10, hm_fr11, hm_li11, hm_ai11, hm_si11, hm_fr12, hm_li12, hm_ai12, hm_si12, hm_fr13, hm_li13, hm_ai13, hm_si13, hm_fr14, hm_li14, hm_ai14, hm_si14, hm_fi15, hm_sv15, hm_fr16, hm_li16, hm_ai16, hm_si16, hm_fr17, hm_li17, hm_ai17, hm_si17, hm_fi18, hm_sv18, hm_fi19, hm_sv19, hm_fi20, hm_sv20, hm_fi21, hm_sv21, hm_fi22, hm_sv22, hm_fi23, hm_sv23, hm_fi24, hm_sv24, hm_fr25, hm_li25, hm_ai25, hm_si25, hm_fr26, hm_li26, hm_ai26, hm_si26, hm_fr27, hm_li27, hm_ai27, hm_si27, hm_fr28, hm_li28, hm_ai28, hm_si28, hm_fl, hm_sl, hz, nI_ltin (show i < n by omega) (show n < 1000 by omega), if_true, mx_w13, mx_w10, mi, e0, en_gt (show i < 1000 by omega) (show r i < 1000 by omega), nI_1, i32_a0]
      unfold rw_K
      by_cases h : i + 1 < r i
      · rw [if_pos h, if_pos h]
        obtain ⟨x, hx1⟩ : ∃ x, r i = x + 1 := ⟨r i - 1, by omega⟩
        obtain ⟨q1, q2, q3, q4, q5⟩ := hr i x hx1
        rw [hx1, en_s, Nat.add_sub_cancel]
        have mx : ∀ f : Nat → Int32, ah_rd f 7 (nI x) = some (f x) := fun f => ah_rdN (by omega) (by decide)
        simp only [mx, sX12_far hg, ob_s, ob_n, ar_I, ar_L, ar_V, hD.2.2.1 i x q1 q2, nI_add]
      · rw [if_neg h, if_neg h]
        simp only [Nat.add_zero]
  obtain ⟨f, rfl⟩ : ∃ f, g = f + 20 := ⟨g - 20, by omega⟩
  unfold aX12_milesRow
  rw [eX12_milesRow]
  have := loop n 0 (f + 19) (by omega) (by omega)
  rw [show nI (rw_s (rw_K dv r) 0) = 0 from rfl, show nI 0 = 0 from rfl] at this
  exact this
theorem gm_prs_s {n : Nat} (hn : n ≤ 7) {ok : Nat → Nat → Bool} {r : Nat → Nat} (hr : rw_V n ok r) (u : Nat → Int32) : gm_prs (gm_cpy (enr r) u 7) n = nI (rw_s (rw_P r) n) := by
  have lp : ∀ (k i : Nat), i + k = n → gm_lp (fun x j => if nI j < gm_cpy (enr r) u 7 j then x + 1 else x) k i (nI (rw_s (rw_P r) i)) = nI (rw_s (rw_P r) n) := by
    intro k
    induction k with
    | zero =>
      intro i hi
      have e : i = n := by omega
      subst e
      rfl
    | succ k ih =>
      intro i hi
      rw [gm_lp_s, ← ih (i + 1) (by omega)]
      refine congrArg _ ?_
      show (if nI i < gm_cpy (enr r) u 7 i then nI (rw_s (rw_P r) i) + 1 else nI (rw_s (rw_P r) i)) = nI (rw_s (rw_P r) i + rw_P r i)
      have hri := hr.lt i
      rw [gm_cpy_lt (by omega)]
      show (if nI i < en (r i) then _ else _) = _
      simp only [en_gt (show i < 1000 by omega) (show r i < 1000 by omega)]
      unfold rw_P
      by_cases h : i + 1 < r i
      · rw [if_pos h, if_pos h, nI_1]
      · rw [if_neg h, if_neg h, Nat.add_zero]
  exact lp n 0 (by omega)
theorem sX12_pairsRow (hg : 4000 ≤ g) (y : Nat → Int32) (v : Nat → Nat → Int32) (c : Int64) (t : Nat → Int32) {n : Nat} (hn : n ≤ 7) (hz : y 2 = nI n) {ok : Nat → Nat → Bool} {r : Nat → Nat} (hr : rw_V n ok r) : aX12_pairsOf g [.ref 0, .ref 7] (hm y (mx_w v r t) c) = some (some (.int (nI (rw_s (rw_P r) n))), hm y (mx_w v r t) c) := by
  have := sX12_pairsOf y (mx_w v r t) c hg hn hz 7 (gm_cpy (enr r) (v 13) 7) (fun i => hm_li13 y (mx_w v r t) c i)
  rw [gm_prs_s hn hr] at this
  exact this
end RM1
