/-! the reference's rows: is one stable; the first one -/
theorem gm_pf_dq {n : Nat} (hn : n ≤ 7) {ok : Nat → Nat → Bool} {lv : Nat → Nat → Nat} {lk : Nat → Nat → Int32} (hl : ∀ i j, lv i j ≤ 18) (hlk : ∀ i j, i < n → j < n → ok i j = true → lk i j = nI (lv i j)) {r : Nat → Nat} (hr : rw_V n ok r) {i j : Nat} (hi : i < n) (hj : j < n) (hij : ok i j = true) : gm_pf lk i j (en (r i)) = dq (rw_pf lv r i j) := by
  have hlt := hr.lt i
  unfold gm_pf
  by_cases h0 : r i = 0
  · rw [if_pos (by rw [h0, en_0]), dq_t (show rw_pf lv r i j from Or.inl h0)]
  · obtain ⟨m, hm⟩ : ∃ m, r i = m + 1 := ⟨r i - 1, by omega⟩
    obtain ⟨q1, q2, q3, q4, q5⟩ := hr i m hm
    have e3 : (nI (lv i j) - nI (lv i m)).toInt = (lv i j : Int) - lv i m := pk_sub_toInt (by have := hl i j; omega) (by have := hl i m; omega)
    rw [hm, en_s, if_neg (by rw [gm_ok_ne (by omega)]; exact fun h => h), nI_clamp (by omega), hlk i j hi hj hij, hlk i m hi q2 q5]
    simp only [i32_lt, i32_eq, e3, show (0 : Int32).toInt = 0 from rfl, nI_toInt (show j < 2 ^ 31 by omega), nI_toInt (show m < 2 ^ 31 by omega)]
    by_cases c1 : lv i m < lv i j
    · rw [decide_eq_true (show (0 : Int) < (lv i j : Int) - lv i m by omega), dq_t (show rw_pf lv r i j from Or.inr (Or.inl (by rw [hm, Nat.add_sub_cancel]; exact c1)))]
      rfl
    · rw [decide_eq_false (show ¬ (0 : Int) < (lv i j : Int) - lv i m by omega), Bool.false_or]
      by_cases c2 : lv i m = lv i j
      · rw [decide_eq_true (show (lv i j : Int) - lv i m = 0 by omega), Bool.true_and]
        by_cases c3 : j < m
        · rw [decide_eq_true (by omega), dq_t (show rw_pf lv r i j from Or.inr (Or.inr (by rw [hm, Nat.add_sub_cancel]; exact ⟨c2, c3⟩)))]
        · rw [decide_eq_false (by omega), dq_f (fun h => by
            rcases h with h | h | ⟨h, h2⟩
            · exact h0 h
            · rw [hm, Nat.add_sub_cancel] at h; omega
            · rw [hm, Nat.add_sub_cancel] at h2; omega)]
      · rw [decide_eq_false (show ¬ (lv i j : Int) - lv i m = 0 by omega), Bool.false_and, dq_f (fun h => by
          rcases h with h | h | ⟨h, h2⟩
          · exact h0 h
          · rw [hm, Nat.add_sub_cancel] at h; omega
          · rw [hm, Nat.add_sub_cancel] at h; omega)]
theorem bI_nn (q : Bool) : (bI q = 0 ∨ bI q = 1) = True := bI_01 q
section RM2
variable {g : Nat}
theorem sX12_isStable (hg : 4000 ≤ g) (y : Nat → Int32) (v : Nat → Nat → Int32) (c : Int64) (t : Nat → Int32) {n : Nat} (hn : n ≤ 7) (hz : y 2 = nI n) {ok : Nat → Nat → Bool} {lv dv : Nat → Nat → Nat} (hD : mx_D n v ok lv dv) {r : Nat → Nat} (hr : rw_V n ok r) : aX12_isStable g [.ref 0] (hm y (mx_w v r t) c) = some (some (.int (bI (!dq (rw_b n ok lv r)))), hm y (mx_w v r t) c) := by
  have outer : ∀ (k i F : Nat) (q : Bool), i + k = n → 40 * k + 1 ≤ F → ah_run (kX12_isStable g) F 4 [(0, .ref 0), (1, .int (bI q)), (2, .int (nI i))] [] (hm y (mx_w v r t) c) = some (some (.int (bI (q && !dq (∃ p s, i ≤ p ∧ rw_B n ok lv r p s)))), hm y (mx_w v r t) c) := by
    intro k
    induction k with
    | zero =>
      intro i F q hi hF
      obtain ⟨f, rfl⟩ : ∃ f, F = f + 1 := ⟨F - 1, by omega⟩
      have e : i = n := by omega
      subst e
      simp only [rX12_isStable_4, ob_s, ob_n, ar_I, ar_L, ar_V, hm_vI, hm_fr0, hm_li0, hm_ai0, hm_si0, hm_fi1, hm_sv1, hm_fi2, hm_sv2, hm_fi3, hm_sv3, hm_fi4, hm_sv4, hm_fi5, hm_sv5, hm_fi6, hm_sv6, hm_fi7, hm_sv7, hm_fr8, hm_li8, hm_ai8, hm_si8, hm_fr9, hm_li9, hm_ai9, hm_si9, hm_fr10, hm_li10, hm_ai10, hm_si10, hm_fr11, hm_li11, hm_ai11, hm_si11, hm_fr12, hm_li12, hm_ai12, hm_si12, hm_fr13, hm_li13, hm_ai13, hm_si13, hm_fr14, hm_li14, hm_ai14, hm_si14, hm_fi15, hm_sv15, hm_fr16, hm_li16, hm_ai16, hm_si16, hm_fr17, hm_li17, hm_ai17, hm_si17, hm_fi18, hm_sv18, hm_fi19, hm_sv19, hm_fi20, hm_sv20, hm_fi21, hm_sv21, hm_fi22, hm_sv22, hm_fi23, hm_sv23, hm_fi24, hm_sv24, hm_fr25, hm_li25, hm_ai25, hm_si25, hm_fr26, hm_li26, hm_ai26, hm_si26, hm_fr27, hm_li27, hm_ai27, hm_si27, hm_fr28, hm_li28, hm_ai28, hm_si28, hm_fl, hm_sl, hz, nI_ltnn (show i < 1000 by omega), if_false, bI_nn, if_true]
      rw [dq_f (by rintro ⟨p, q, h1, h2, h3, -⟩; omega), Bool.not_false, Bool.and_true]
    | succ k ih =>
      intro i F q hi hF
      obtain ⟨f, rfl⟩ : ∃ f, F = f + 1 := ⟨F - 1, by omega⟩
      have i7 : i < 7 := by omega
      have hin : i < n := by omega
      have mi : ∀ f : Nat → Int32, ah_rd f 7 (nI i) = some (f i) := fun f => ah_rdN i7 (by decide)
      have inner : ∀ (m j F : Nat) (q : Bool), j + m = n → i < j → 40 * k + 2 + 4 * m ≤ F → ah_run (kX12_isStable g) F 16 [(0, .ref 0), (1, .int (bI q)), (2, .int (nI i)), (3, .int (nI j))] [] (hm y (mx_w v r t) c) = some (some (.int (bI (q && !dq (∃ p s, (i < p ∨ (p = i ∧ j ≤ s)) ∧ rw_B n ok lv r p s)))), hm y (mx_w v r t) c) := by
        intro m
        induction m with
        | zero =>
          intro j F q hj hij hF
          obtain ⟨f, rfl⟩ : ∃ f, F = f + 1 := ⟨F - 1, by omega⟩
          have e : j = n := by omega
          subst e
          simp only [rX12_isStable_16, ob_s, ob_n, ar_I, ar_L, ar_V, hm_vI, hm_fr0, hm_li0, hm_ai0, hm_si0, hm_fi1, hm_sv1, hm_fi2, hm_sv2, hm_fi3, hm_sv3, hm_fi4, hm_sv4, hm_fi5, hm_sv5, hm_fi6, hm_sv6, hm_fi7, hm_sv7, hm_fr8, hm_li8, hm_ai8, hm_si8, hm_fr9, hm_li9, hm_ai9, hm_si9, hm_fr10, hm_li10, hm_ai10, hm_si10, hm_fr11, hm_li11, hm_ai11, hm_si11, hm_fr12, hm_li12, hm_ai12, hm_si12, hm_fr13, hm_li13, hm_ai13, hm_si13, hm_fr14, hm_li14, hm_ai14, hm_si14, hm_fi15, hm_sv15, hm_fr16, hm_li16, hm_ai16, hm_si16, hm_fr17, hm_li17, hm_ai17, hm_si17, hm_fi18, hm_sv18, hm_fi19, hm_sv19, hm_fi20, hm_sv20, hm_fi21, hm_sv21, hm_fi22, hm_sv22, hm_fi23, hm_sv23, hm_fi24, hm_sv24, hm_fr25, hm_li25, hm_ai25, hm_si25, hm_fr26, hm_li26, hm_ai26, hm_si26, hm_fr27, hm_li27, hm_ai27, hm_si27, hm_fr28, hm_li28, hm_ai28, hm_si28, hm_fl, hm_sl, hz, nI_ltnn (show j < 1000 by omega), if_false, nI_1]
          rw [ih (i + 1) f q (by omega) (by omega)]
          rw [dq_c (P := ∃ p s, i + 1 ≤ p ∧ rw_B j ok lv r p s) (Q := ∃ p s, (i < p ∨ (p = i ∧ j ≤ s)) ∧ rw_B j ok lv r p s)]
          constructor
          · rintro ⟨p, s, h1, h2⟩
            exact ⟨p, s, Or.inl h1, h2⟩
          · rintro ⟨p, s, h1, h2⟩
            refine ⟨p, s, ?_, h2⟩
            have := h2.2.1
            omega
        | succ m im =>
          intro j F q hj hij hF
          obtain ⟨f, rfl⟩ : ∃ f, F = f + 4 := ⟨F - 4, by omega⟩
          have j7 : j < 7 := by omega
          have jn : j < n := by omega
          have mj : ∀ f : Nat → Int32, ah_rd f 7 (nI j) = some (f j) := fun f => ah_rdN j7 (by decide)
          have hri := hr.lt i
          have hrj := hr.lt j
          have hok := hD.1 i j hin jn
          have hmb := sX12_mayBe y (mx_w v r t) c hg i j i7 j7
          have hxm : gm_mb (mw_k (mx_w v r t)) (mw_h (mx_w v r t)) (mx_w v r t 9) i j = mw_mb v i j := rfl
          rw [hxm] at hmb
          have ei : gm_cpy (enr r) (v 13) 7 i = en (r i) := by rw [gm_cpy_lt i7]; rfl
          have ej : gm_cpy (enr r) (v 13) 7 j = en (r j) := by rw [gm_cpy_lt j7]; rfl
          have enk : ∀ x, x ≤ 7 → en x = -1 ∨ ∃ j, j < 7 ∧ en x = nI j := fun x hx7 => by
            by_cases h : x = 0
            · left; rw [h, en_0]
            · right; exact ⟨x - 1, by omega, by unfold en; rw [if_neg h]⟩
          have pf1 := sX12_prefers y (mx_w v r t) c hg i j (en (r i)) i7 j7 (enk _ (by omega))
          have pf2 := sX12_prefers y (mx_w v r t) c hg j i (en (r j)) j7 i7 (enk _ (by omega))
          have hxl : gm_lk (mw_k (mx_w v r t)) (mw_h (mx_w v r t)) (mx_w v r t 9) = mw_lk v := rfl
          rw [hxl] at pf1 pf2
          -- what the step answers
          have fin : ∀ B : Bool, (B = true ↔ rw_B n ok lv r i j) → ah_run (kX12_isStable g) (f + 2) 110 [(0, .ref 0), (1, .int (bI q)), (2, .int (nI i)), (3, .int (nI j))] [.int (bI B)] (hm y (mx_w v r t) c) = some (some (.int (bI (q && !dq (∃ p s, (i < p ∨ (p = i ∧ j ≤ s)) ∧ rw_B n ok lv r p s)))), hm y (mx_w v r t) c) := by
            intro B hB
            have e1 : ah_run (kX12_isStable g) (f + 2) 110 [(0, .ref 0), (1, .int (bI q)), (2, .int (nI i)), (3, .int (nI j))] [.int (bI B)] (hm y (mx_w v r t) c) = ah_run (kX12_isStable g) f 16 [(0, .ref 0), (1, .int (bI (q && !B))), (2, .int (nI i)), (3, .int (nI (j + 1)))] [] (hm y (mx_w v r t) c) := by
              rw [show f + 2 = (f + 1) + 1 from rfl, rX12_isStable_110]
              simp only [bI_0, rX12_isStable_126, nI_1]
              cases q
              · rw [if_pos rfl]
                rfl
              · rw [if_neg (by decide)]
                cases B
                · rw [if_pos rfl]
                  rfl
                · rw [if_neg (by decide)]
                  rfl
            rw [e1, im (j + 1) f (q && !B) (by omega) (by omega) (by omega)]
            refine congrArg (fun b => some (some (Value.int (bI b)), hm y (mx_w v r t) c)) ?_
            by_cases hBB : rw_B n ok lv r i j
            · rw [hB.mpr hBB, dq_t (show ∃ p s, (i < p ∨ (p = i ∧ j ≤ s)) ∧ rw_B n ok lv r p s from ⟨i, j, Or.inr ⟨rfl, Nat.le_refl _⟩, hBB⟩)]
              rw [Bool.not_true, Bool.and_false, Bool.false_and]
            · have : B = false := by
                cases e : B
                · rfl
                · exact absurd (hB.mp e) hBB
              rw [this, Bool.not_false, Bool.and_true]
              rw [dq_c (P := ∃ p s, (i < p ∨ (p = i ∧ j + 1 ≤ s)) ∧ rw_B n ok lv r p s) (Q := ∃ p s, (i < p ∨ (p = i ∧ j ≤ s)) ∧ rw_B n ok lv r p s)]
              constructor
              · rintro ⟨p, s, h1, h2⟩
                exact ⟨p, s, by omega, h2⟩
              · rintro ⟨p, s, h1, h2⟩
                refine ⟨p, s, ?_, h2⟩
                by_cases c : p = i ∧ s = j
                · exact absurd (c.1 ▸ c.2 ▸ h2) hBB
                · omega
          have no := fin false
          have yes := fin true
          rw [bI_f] at no
          rw [bI_t] at yes
          have no2 := fun (h : ¬ rw_B n ok lv r i j) => no ⟨fun h3 => (by cases h3), fun h2 => absurd h2 h⟩
          by_cases c1 : ok i j = true
          · obtain ⟨a1, a2, a3⟩ := hok.mp c1
            have d1 := gm_pf_dq hn hD.2.2.2.1 hD.2.1 hr hin jn c1
            have d2 := gm_pf_dq hn hD.2.2.2.1 hD.2.1 hr jn hin (hD.2.2.2.2.2 _ _ c1)
            rw [d1] at pf1
            rw [d2] at pf2
            have st : ah_run (kX12_isStable g) (f + 4) 16 [(0, .ref 0), (1, .int (bI q)), (2, .int (nI i)), (3, .int (nI j))] [] (hm y (mx_w v r t) c) = if r i = j + 1 then ah_run (kX12_isStable g) (f + 2) 110 [(0, .ref 0), (1, .int (bI q)), (2, .int (nI i)), (3, .int (nI j))] [.int 0] (hm y (mx_w v r t) c) else if dq (rw_pf lv r i j) = false then ah_run (kX12_isStable g) (f + 2) 110 [(0, .ref 0), (1, .int (bI q)), (2, .int (nI i)), (3, .int (nI j))] [.int 0] (hm y (mx_w v r t) c) else if dq (rw_pf lv r j i) = false then ah_run (kX12_isStable g) (f + 2) 110 [(0, .ref 0), (1, .int (bI q)), (2, .int (nI i)), (3, .int (nI j))] [.int 0] (hm y (mx_w v r t) c) else ah_run (kX12_isStable g) (f + 2) 110 [(0, .ref 0), (1, .int (bI q)), (2, .int (nI i)), (3, .int (nI j))] [.int 1] (hm y (mx_w v r t) c) := by
              rw [show f + 4 = (f + 3) + 1 from rfl, rX12_isStable_16]
              simp only [ob_s, ob_n, ar_I, ar_L, ar_V, hm_vI, hm_fr0, hm_li0, hm_ai0, hm_si0, hm_fi1, hm_sv1, hm_fi2, hm_sv2, hm_fi3, hm_sv3, hm_fi4, hm_sv4, hm_fi5, hm_sv5, hm_fi6, hm_sv6, hm_fi7, hm_sv7, hm_fr8, hm_li8, hm_ai8, hm_si8, hm_fr9, hm_li9, hm_ai9, hm_si9, hm_fr10, hm_li10, hm_ai10, hm_si10, hm_fr11, hm_li11, hm_ai11, hm_si11, hm_fr12, hm_li12, hm_ai12, hm_si12, hm_fr13, hm_li13, hm_ai13, hm_si13, hm_fr14, hm_li14, hm_ai14, hm_si14, hm_fi15, hm_sv15, hm_fr16, hm_li16, hm_ai16, hm_si16, hm_fr17, hm_li17, hm_ai17, hm_si17, hm_fi18, hm_sv18, hm_fi19, hm_sv19, hm_fi20, hm_sv20, hm_fi21, hm_sv21, hm_fi22, hm_sv22, hm_fi23, hm_sv23, hm_fi24, hm_sv24, hm_fr25, hm_li25, hm_ai25, hm_si25, hm_fr26, hm_li26, hm_ai26, hm_si26, hm_fr27, hm_li27, hm_ai27, hm_si27, hm_fr28, hm_li28, hm_ai28, hm_si28, hm_fl, hm_sl, hz, nI_ltin jn (show n < 1000 by omega), if_true, mx_w11, mi, mj, a1, a2]
              rw [show f + 3 = (f + 2) + 1 from rfl, rX12_isStable_49]
              simp only [n32_10, if_false, ob_s, ob_n, ar_I, ar_L, ar_V, hm_vI, hm_fr0, hm_li0, hm_ai0, hm_si0, hm_fi1, hm_sv1, hm_fi2, hm_sv2, hm_fi3, hm_sv3, hm_fi4, hm_sv4, hm_fi5, hm_sv5, hm_fi6, hm_sv6, hm_fi7, hm_sv7, hm_fr8, hm_li8, hm_ai8, hm_si8, hm_fr9, hm_li9, hm_ai9, hm_si9, hm_fr10, hm_li10, hm_ai10, hm_si10, hm_fr11, hm_li11, hm_ai11, hm_si11, hm_fr12, hm_li12, hm_ai12, hm_si12, hm_fr13, hm_li13, hm_ai13, hm_si13, hm_fr14, hm_li14, hm_ai14, hm_si14, hm_fi15, hm_sv15, hm_fr16, hm_li16, hm_ai16, hm_si16, hm_fr17, hm_li17, hm_ai17, hm_si17, hm_fi18, hm_sv18, hm_fi19, hm_sv19, hm_fi20, hm_sv20, hm_fi21, hm_sv21, hm_fi22, hm_sv22, hm_fi23, hm_sv23, hm_fi24, hm_sv24, hm_fr25, hm_li25, hm_ai25, hm_si25, hm_fr26, hm_li26, hm_ai26, hm_si26, hm_fr27, hm_li27, hm_ai27, hm_si27, hm_fr28, hm_li28, hm_ai28, hm_si28, hm_fl, hm_sl, hmb, a3, bI_t, mx_w13, mi, mj, ei, ej, en_eq (show r i < 1000 by omega) (show j < 1000 by omega), pf1, pf2, bI_0]
            rw [st]
            by_cases c2 : r i = j + 1
            · rw [if_pos c2]
              exact no2 (fun h => h.2.2.2.1 c2)
            · rw [if_neg c2]
              by_cases c3 : rw_pf lv r i j
              · rw [dq_t c3, if_neg (by decide)]
                by_cases c4 : rw_pf lv r j i
                · rw [dq_t c4, if_neg (by decide)]
                  exact yes ⟨fun _ => ⟨hij, jn, c1, c2, c3, c4⟩, fun _ => rfl⟩
                · rw [dq_f c4, if_pos rfl]
                  exact no2 (fun h => c4 h.2.2.2.2.2)
              · rw [dq_f c3, if_pos rfl]
                exact no2 (fun h => c3 h.2.2.2.2.1)
          · have st : ah_run (kX12_isStable g) (f + 4) 16 [(0, .ref 0), (1, .int (bI q)), (2, .int (nI i)), (3, .int (nI j))] [] (hm y (mx_w v r t) c) = ah_run (kX12_isStable g) (f + 2) 110 [(0, .ref 0), (1, .int (bI q)), (2, .int (nI i)), (3, .int (nI j))] [.int 0] (hm y (mx_w v r t) c) := by
              have k0 : ah_run (kX12_isStable g) (f + 3) 49 [(0, .ref 0), (1, .int (bI q)), (2, .int (nI i)), (3, .int (nI j))] [.int 0] (hm y (mx_w v r t) c) = ah_run (kX12_isStable g) (f + 2) 110 [(0, .ref 0), (1, .int (bI q)), (2, .int (nI i)), (3, .int (nI j))] [.int 0] (hm y (mx_w v r t) c) := by
                rw [show f + 3 = (f + 2) + 1 from rfl, rX12_isStable_49]
                simp only [n32_00, if_true]
              rw [show f + 4 = (f + 3) + 1 from rfl, rX12_isStable_16]
              simp only [ob_s, ob_n, ar_I, ar_L, ar_V, hm_vI, hm_fr0, hm_li0, hm_ai0, hm_si0, hm_fi1, hm_sv1, hm_fi2, hm_sv2, hm_fi3, hm_sv3, hm_fi4, hm_sv4, hm_fi5, hm_sv5, hm_fi6, hm_sv6, hm_fi7, hm_sv7, hm_fr8, hm_li8, hm_ai8, hm_si8, hm_fr9, hm_li9, hm_ai9, hm_si9, hm_fr10, hm_li10, hm_ai10, hm_si10, hm_fr11, hm_li11, hm_ai11, hm_si11, hm_fr12, hm_li12, hm_ai12, hm_si12, hm_fr13, hm_li13, hm_ai13, hm_si13, hm_fr14, hm_li14, hm_ai14, hm_si14, hm_fi15, hm_sv15, hm_fr16, hm_li16, hm_ai16, hm_si16, hm_fr17, hm_li17, hm_ai17, hm_si17, hm_fi18, hm_sv18, hm_fi19, hm_sv19, hm_fi20, hm_sv20, hm_fi21, hm_sv21, hm_fi22, hm_sv22, hm_fi23, hm_sv23, hm_fi24, hm_sv24, hm_fr25, hm_li25, hm_ai25, hm_si25, hm_fr26, hm_li26, hm_ai26, hm_si26, hm_fr27, hm_li27, hm_ai27, hm_si27, hm_fr28, hm_li28, hm_ai28, hm_si28, hm_fl, hm_sl, hz, nI_ltin jn (show n < 1000 by omega), if_true, mx_w11, mi, mj]
              by_cases a1 : v 11 i = -1
              · rw [if_pos a1]
                by_cases a2 : v 11 j = -1
                · rw [if_pos a2]
                  have a3 : mw_mb v i j = false := by
                    cases e : mw_mb v i j
                    · rfl
                    · exact absurd (hok.mpr ⟨a1, a2, e⟩) c1
                  rw [show f + 3 = (f + 2) + 1 from rfl, rX12_isStable_49]
                  simp only [n32_10, if_false, ob_s, ob_n, ar_I, ar_L, ar_V, hm_vI, hm_fr0, hm_li0, hm_ai0, hm_si0, hm_fi1, hm_sv1, hm_fi2, hm_sv2, hm_fi3, hm_sv3, hm_fi4, hm_sv4, hm_fi5, hm_sv5, hm_fi6, hm_sv6, hm_fi7, hm_sv7, hm_fr8, hm_li8, hm_ai8, hm_si8, hm_fr9, hm_li9, hm_ai9, hm_si9, hm_fr10, hm_li10, hm_ai10, hm_si10, hm_fr11, hm_li11, hm_ai11, hm_si11, hm_fr12, hm_li12, hm_ai12, hm_si12, hm_fr13, hm_li13, hm_ai13, hm_si13, hm_fr14, hm_li14, hm_ai14, hm_si14, hm_fi15, hm_sv15, hm_fr16, hm_li16, hm_ai16, hm_si16, hm_fr17, hm_li17, hm_ai17, hm_si17, hm_fi18, hm_sv18, hm_fi19, hm_sv19, hm_fi20, hm_sv20, hm_fi21, hm_sv21, hm_fi22, hm_sv22, hm_fi23, hm_sv23, hm_fi24, hm_sv24, hm_fr25, hm_li25, hm_ai25, hm_si25, hm_fr26, hm_li26, hm_ai26, hm_si26, hm_fr27, hm_li27, hm_ai27, hm_si27, hm_fr28, hm_li28, hm_ai28, hm_si28, hm_fl, hm_sl, hmb, a3, bI_f, n32_00, if_true]
                · rw [if_neg a2, k0]
              · rw [if_neg a1, k0]
            rw [st]
            exact no2 (fun h => c1 h.2.2.1)
      simp only [rX12_isStable_4, ob_s, ob_n, ar_I, ar_L, ar_V, hm_vI, hm_fr0, hm_li0, hm_ai0, hm_si0, hm_fi1, hm_sv1, hm_fi2, hm_sv2, hm_fi3, hm_sv3, hm_fi4, hm_sv4, hm_fi5, hm_sv5, hm_fi6, hm_sv6, hm_fi7, hm_sv7, hm_fr8, hm_li8, hm_ai8, hm_si8, hm_fr9, hm_li9, hm_ai9, hm_si9, hm_fr10, hm_li10, hm_ai10, hm_si10, hm_fr11, hm_li11, hm_ai11, hm_si11, hm_fr12, hm_li12, hm_ai12, hm_si12, hm_fr13, hm_li13, hm_ai13, hm_si13, hm_fr14, hm_li14, hm_ai14, hm_si14, hm_fi15, hm_sv15, hm_fr16, hm_li16, hm_ai16, hm_si16, hm_fr17, hm_li17, hm_ai17, hm_si17, hm_fi18, hm_sv18, hm_fi19, hm_sv19, hm_fi20, hm_sv20, hm_fi21, hm_sv21, hm_fi22, hm_sv22, hm_fi23, hm_sv23, hm_fi24, hm_sv24, hm_fr25, hm_li25, hm_ai25, hm_si25, hm_fr26, hm_li26, hm_ai26, hm_si26, hm_fr27, hm_li27, hm_ai27, hm_si27, hm_fr28, hm_li28, hm_ai28, hm_si28, hm_fl, hm_sl, hz, nI_ltin (show i < n by omega) (show n < 1000 by omega), if_true, nI_1]
      rw [inner k (i + 1) f q (by omega) (by omega) (by omega)]
      rw [dq_c (P := ∃ p s, (i < p ∨ (p = i ∧ i + 1 ≤ s)) ∧ rw_B n ok lv r p s) (Q := ∃ p s, i ≤ p ∧ rw_B n ok lv r p s)]
      constructor
      · rintro ⟨p, s, h1, h2⟩
        exact ⟨p, s, by omega, h2⟩
      · rintro ⟨p, s, h1, h2⟩
        refine ⟨p, s, ?_, h2⟩
        have := h2.1
        omega
  have := outer n 0 (g - 1) true (by omega) (by omega)
  rw [dq_c (P := ∃ p s, 0 ≤ p ∧ rw_B n ok lv r p s) (Q := rw_b n ok lv r) ⟨fun ⟨p, q, _, h⟩ => ⟨p, q, h⟩, fun ⟨p, q, h⟩ => ⟨p, q, Nat.zero_le _, h⟩⟩, show nI 0 = 0 from rfl, Bool.true_and, bI_t] at this
  obtain ⟨f, rfl⟩ : ∃ f, g = f + 1 := ⟨g - 1, by omega⟩
  unfold aX12_isStable
  rw [eX12_isStable]
  rw [Nat.add_sub_cancel] at this
  exact this
theorem sX12_firstRow (hg : 4000 ≤ g) (y : Nat → Int32) (v : Nat → Nat → Int32) (c : Int64) : aX12_firstRow g [.ref 0] (hm y v c) = some (none, hm y (mx_w v rw_0 (gm_cpy (fun _ => -1) (v 14) 7)) c) := by
  have loop : ∀ (k i F : Nat), i + k = 7 → k + 1 ≤ F → ah_run (kX12_firstRow g) F 2 [(0, .ref 0), (1, .int (nI i))] [] (hm y (va_up (va_up v 13 (gm_cpy (fun _ => -1) (v 13) i)) 14 (gm_cpy (fun _ => -1) (v 14) i)) c) = some (none, hm y (va_up (va_up v 13 (gm_cpy (fun _ => -1) (v 13) 7)) 14 (gm_cpy (fun _ => -1) (v 14) 7)) c) := by
    intro k
    induction k with
    | zero =>
      intro i F hi hF
      obtain ⟨f, rfl⟩ : ∃ f, F = f + 1 := ⟨F - 1, by omega⟩
      have e : i = 7 := by omega
      subst e
      rw [rX12_firstRow_2, if_neg (by decide)]
    | succ k ih =>
      intro i F hi hF
      obtain ⟨f, rfl⟩ : ∃ f, F = f + 1 := ⟨F - 1, by omega⟩
      have i7 : i < 7 := by omega
      simp only [rX12_firstRow_2, ob_s, ob_n, ar_I, ar_L, ar_V, hm_vI, hm_fr0, hm_li0, hm_ai0, hm_si0, hm_fi1, hm_sv1, hm_fi2, hm_sv2, hm_fi3, hm_sv3, hm_fi4, hm_sv4, hm_fi5, hm_sv5, hm_fi6, hm_sv6, hm_fi7, hm_sv7, hm_fr8, hm_li8, hm_ai8, hm_si8, hm_fr9, hm_li9, hm_ai9, hm_si9, hm_fr10, hm_li10, hm_ai10, hm_si10, hm_fr11, hm_li11, hm_ai11, hm_si11, hm_fr12, hm_li12, hm_ai12, hm_si12, hm_fr13, hm_li13, hm_ai13, hm_si13, hm_fr14, hm_li14, hm_ai14, hm_si14, hm_fi15, hm_sv15, hm_fr16, hm_li16, hm_ai16, hm_si16, hm_fr17, hm_li17, hm_ai17, hm_si17, hm_fi18, hm_sv18, hm_fi19, hm_sv19, hm_fi20, hm_sv20, hm_fi21, hm_sv21, hm_fi22, hm_sv22, hm_fi23, hm_sv23, hm_fi24, hm_sv24, hm_fr25, hm_li25, hm_ai25, hm_si25, hm_fr26, hm_li26, hm_ai26, hm_si26, hm_fr27, hm_li27, hm_ai27, hm_si27, hm_fr28, hm_li28, hm_ai28, hm_si28, hm_fl, hm_sl, va_l, Nat.reduceEqDiff, reduceIte, nI_lt7 (show i < 1000 by omega), i7, nI_1]
      rw [va_2 _ _ _ _ _ (by decide), gm_cpy_s (fun _ => -1) (v 13) i, gm_cpy_s (fun _ => -1) (v 14) i]
      exact ih (i + 1) f (by omega) (by omega)
  obtain ⟨f, rfl⟩ : ∃ f, g = f + 20 := ⟨g - 20, by omega⟩
  unfold aX12_firstRow
  rw [eX12_firstRow]
  have := loop 7 0 (f + 19) (by omega) (by omega)
  rw [gm_cpy_0, gm_cpy_0, gm_up_id, gm_up_id, show nI 0 = 0 from rfl] at this
  exact this
end RM2
