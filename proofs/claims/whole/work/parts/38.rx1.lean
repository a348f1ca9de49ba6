/-! the class's rows: what blocks, what is judged -/
noncomputable def dq (P : Prop) : Bool := @decide P (Classical.propDecidable P)
theorem dq_t {P : Prop} (h : P) : dq P = true := @decide_eq_true P (Classical.propDecidable P) h
theorem dq_f {P : Prop} (h : ¬ P) : dq P = false := @decide_eq_false P (Classical.propDecidable P) h
theorem dq_c {P Q : Prop} (h : P ↔ Q) : dq P = dq Q := by rw [propext h]
theorem dq_i {P : Prop} : dq P = true ↔ P := ⟨fun h => @of_decide_eq_true P (Classical.propDecidable P) h, dq_t⟩
def en (x : Nat) : Int32 := if x = 0 then -1 else nI (x - 1)
def enr (r : Nat → Nat) : Nat → Int32 := fun i => en (r i)
theorem en_0 : en 0 = -1 := if_pos rfl
theorem en_s (x : Nat) : en (x + 1) = nI x := by
  unfold en
  rw [if_neg (by omega), Nat.add_sub_cancel]
theorem en_m1 {x : Nat} (h : x < 1000) : (en x = -1) = (x = 0) := by
  unfold en
  by_cases h0 : x = 0
  · rw [if_pos h0]
    exact propext ⟨fun _ => h0, fun _ => rfl⟩
  · rw [if_neg h0, gm_ok_ne (by omega)]
    exact (eq_false h0).symm
theorem en_eq {x b : Nat} (h : x < 1000) (hb : b < 1000) : (en x = nI b) = (x = b + 1) := by
  unfold en
  by_cases h0 : x = 0
  · rw [if_pos h0]
    have e : ¬ (-1 : Int32) = nI b := fun e => by
      have := gm_ok_ne hb
      rw [← e] at this
      exact this ▸ rfl
    exact propext ⟨fun h => absurd h e, fun h => by omega⟩
  · rw [if_neg h0, nI_eqi (by omega) hb]
    exact propext ⟨fun h => by omega, fun h => by omega⟩
theorem en_lt0 {x : Nat} (h : x < 1000) : (en x < 0) = (x = 0) := by
  unfold en
  by_cases h0 : x = 0
  · rw [if_pos h0]
    exact propext ⟨fun _ => h0, fun _ => by decide⟩
  · rw [if_neg h0]
    refine propext ⟨fun h2 => ?_, fun h2 => absurd h2 h0⟩
    rw [i32_lt, nI_toInt (by omega), show (0 : Int32).toInt = 0 from rfl] at h2
    omega
theorem en_u (r : Nat → Nat) (t : Nat → Int32) {i : Nat} (x : Nat) (hi : i < 7) : upd (gm_cpy (enr r) t 7) i (en x) = gm_cpy (enr (rw_u r i x)) t 7 := by
  funext j
  by_cases h : j = i
  · rw [h, upd_self, gm_cpy_lt hi]
    show en x = en (rw_u r i x i)
    unfold rw_u
    rw [if_pos rfl]
  · rw [upd_ne _ _ h]
    by_cases h2 : j < 7
    · rw [gm_cpy_lt h2, gm_cpy_lt h2]
      show en (r j) = en (rw_u r i x j)
      unfold rw_u
      rw [if_neg h]
    · rw [gm_cpy_ge h2, gm_cpy_ge h2]
theorem rw_V.lt {n : Nat} {ok : Nat → Nat → Bool} {r : Nat → Nat} (h : rw_V n ok r) (i : Nat) : r i ≤ n := by
  by_cases h0 : r i = 0
  · omega
  · have := h i (r i - 1) (by omega)
    omega
def gx_lk (ok : Nat → Nat → Bool) (lv : Nat → Nat → Nat) (i j : Nat) : Int32 := if ok i j = true then nI (lv i j) else -1
theorem gx_lk_1 {ok : Nat → Nat → Bool} {lv : Nat → Nat → Nat} {i j : Nat} (h : lv i j ≤ 18) : (gx_lk ok lv i j = -1) = ¬ (ok i j = true) := by
  unfold gx_lk
  by_cases c : ok i j = true
  · rw [if_pos c, gm_ok_ne (by omega)]
    exact propext ⟨False.elim, fun h => h c⟩
  · rw [if_neg c]
    exact propext ⟨fun _ => c, fun _ => rfl⟩
section RX1
variable {g : Nat}
theorem sX6_would (hg : 4000 ≤ g) (z : Nat → Int32) (w : Nat → Nat → Int32) (b : Int64) {n : Nat} (hn : n ≤ 7) (hz : z 18 = nI n) {ok : Nat → Nat → Bool} {lv : Nat → Nat → Nat} (hl : ∀ i j, lv i j ≤ 18) (hw : ∀ i j, i < n → j < n → w (30 + i) j = gx_lk ok lv i j) {r : Nat → Nat} (hr : rw_V n ok r) (hw14 : ∀ i, i < 7 → w 14 i = en (r i)) (i j : Nat) (hi : i < n) (hj : j < n) (hij : ok i j = true) : aX6_wouldLeaveFor g [.ref 20, .int (nI i), .int (nI j)] (hx z w b) = some (some (.int (bI (dq (rw_pf lv r i j)))), hx z w b) := by
  have i7 : i < 7 := by omega
  have j7 : j < 7 := by omega
  have mi : ∀ f : Nat → Int32, ah_rd f 7 (nI i) = some (f i) := fun f => ah_rdN i7 (by decide)
  have mj : ∀ f : Nat → Int32, ah_rd f 7 (nI j) = some (f j) := fun f => ah_rdN j7 (by decide)
  have hlt := hr.lt i
  have e1 : gx_lk ok lv i j = nI (lv i j) := if_pos hij
  obtain ⟨f, rfl⟩ : ∃ f, g = f + 1 := ⟨g - 1, by omega⟩
  unfold aX6_wouldLeaveFor
  rw [eX6_wouldLeaveFor]
  simp only [ob_s, ob_n, ar_I, ar_L, ar_V, hx_v0, hx_fr0_0, hx_fr0_1, hx_fr0_2, hx_fr0_3, hx_fr0_4, hx_fi0_5, hx_sv0_5, hx_v1, hx_fr1_0, hx_fi1_1, hx_sv1_1, hx_v3, hx_fr3_0, hx_fr3_1, hx_fi3_2, hx_sv3_2, hx_fi3_3, hx_sv3_3, hx_fi3_4, hx_sv3_4, hx_fi3_5, hx_sv3_5, hx_fi3_6, hx_sv3_6, hx_fr3_7, hx_v5, hx_fi5_0, hx_sv5_0, hx_fr5_1, hx_fr5_2, hx_fr5_3, hx_fr5_4, hx_v11, hx_fi11_0, hx_sv11_0, hx_fr11_1, hx_fr11_2, hx_fr11_3, hx_fr11_4, hx_fi11_5, hx_sv11_5, hx_fi11_6, hx_sv11_6, hx_fi11_7, hx_sv11_7, hx_fi11_8, hx_sv11_8, hx_v15, hx_fi15_0, hx_sv15_0, hx_fr15_1, hx_fr15_2, hx_fr15_3, hx_fr15_4, hx_v20, hx_fi20_0, hx_sv20_0, hx_fi20_1, hx_sv20_1, hx_fi20_2, hx_sv20_2, hx_fi20_3, hx_sv20_3, hx_fr20_4, hx_fr20_5, hx_fr20_6, hx_fr20_7, hx_fi20_8, hx_sv20_8, hx_fi20_9, hx_sv20_9, hx_fi20_10, hx_sv20_10, hx_fi20_11, hx_sv20_11, hx_v25, hx_fi25_0, hx_sv25_0, hx_fi25_1, hx_sv25_1, hx_fl, hx_sl, hx_fr25_3, hx_li2, hx_ai2, hx_si2, hx_li6, hx_ai6, hx_si6, hx_li7, hx_ai7, hx_si7, hx_li8, hx_ai8, hx_si8, hx_li9, hx_ai9, hx_si9, hx_li10, hx_ai10, hx_si10, hx_li12, hx_ai12, hx_si12, hx_li13, hx_ai13, hx_si13, hx_li14, hx_ai14, hx_si14, hx_li16, hx_ai16, hx_si16, hx_li17, hx_ai17, hx_si17, hx_li18, hx_ai18, hx_si18, hx_li19, hx_ai19, hx_si19, hx_li21, hx_ai21, hx_si21, hx_li22, hx_ai22, hx_si22, hx_li24, hx_ai24, hx_si24, hx_li26, hx_ai26, hx_si26, hx_li27, hx_ai27, hx_si27, hx_li28, hx_ai28, hx_si28, hx_li29, hx_ai29, hx_si29, hx_li30, hx_ai30, hx_si30, hx_li31, hx_ai31, hx_si31, hx_li32, hx_ai32, hx_si32, hx_li33, hx_ai33, hx_si33, hx_lr4, hx_lr23, hx_sf0, hx_sf1, hx_ss1, hx_sf2, hx_ss2, hx_sf3, hx_ss3, hx_lkli, hx_lksi, mi, mj, hz, i7, hw14 i i7, hw i j hi hj, e1]
  by_cases h0 : r i = 0
  · rw [if_pos (by rw [en_lt0 (by omega)]; exact h0), dq_t (show rw_pf lv r i j from Or.inl h0)]
    rfl
  · obtain ⟨m, hm⟩ : ∃ m, r i = m + 1 := ⟨r i - 1, by omega⟩
    obtain ⟨q1, q2, q3, q4, q5⟩ := hr i m hm
    rw [if_neg (by rw [en_lt0 (by omega)]; exact h0), hm, en_s]
    have mm : ∀ f : Nat → Int32, ah_rd f 7 (nI m) = some (f m) := fun f => ah_rdN (by omega) (by decide)
    have e2 : gx_lk ok lv i m = nI (lv i m) := if_pos q5
    have e3 : (nI (lv i j) - nI (lv i m)).toInt = (lv i j : Int) - lv i m := pk_sub_toInt (by have := hl i j; omega) (by have := hl i m; omega)
    rw [if_pos (by rw [nI_lti (by omega) (by omega)]; exact q2)]
    simp only [mm, ob_s, hw i m hi q2, e2, i32_lt, i32_eq, e3, show (0 : Int32).toInt = 0 from rfl, nI_toInt (show j < 2 ^ 31 by omega), nI_toInt (show m < 2 ^ 31 by omega)]
    by_cases c1 : lv i m < lv i j
    · rw [if_pos (by omega), dq_t (show rw_pf lv r i j from Or.inr (Or.inl (by rw [hm, Nat.add_sub_cancel]; exact c1)))]
      rfl
    · rw [if_neg (by omega)]
      by_cases c2 : lv i m = lv i j
      · rw [if_pos (by omega)]
        by_cases c3 : j < m
        · rw [if_pos (by omega), dq_t (show rw_pf lv r i j from Or.inr (Or.inr (by rw [hm, Nat.add_sub_cancel]; exact ⟨c2, c3⟩)))]
          rfl
        · rw [if_neg (by omega), dq_f (fun h => by
            rcases h with h | h | ⟨h, h2⟩
            · exact h0 h
            · rw [hm, Nat.add_sub_cancel] at h; omega
            · rw [hm, Nat.add_sub_cancel] at h2; omega)]
          rfl
      · rw [if_neg (by omega), dq_f (fun h => by
          rcases h with h | h | ⟨h, h2⟩
          · exact h0 h
          · rw [hm, Nat.add_sub_cancel] at h; omega
          · rw [hm, Nat.add_sub_cancel] at h; omega)]
        rfl
def rw_B (n : Nat) (ok : Nat → Nat → Bool) (lv : Nat → Nat → Nat) (r : Nat → Nat) (a b : Nat) : Prop := a < b ∧ b < n ∧ ok a b = true ∧ ¬ r a = b + 1 ∧ rw_pf lv r a b ∧ rw_pf lv r b a
theorem sX6_isBlocked (hg : 4000 ≤ g) (z : Nat → Int32) (w : Nat → Nat → Int32) (b : Int64) {n : Nat} (hn : n ≤ 7) (hz : z 18 = nI n) {ok : Nat → Nat → Bool} (hs : ∀ i j, ok i j = true → ok j i = true) {lv : Nat → Nat → Nat} (hl : ∀ i j, lv i j ≤ 18) (hw : ∀ i j, i < n → j < n → w (30 + i) j = gx_lk ok lv i j) {r : Nat → Nat} (hr : rw_V n ok r) (hw14 : ∀ i, i < 7 → w 14 i = en (r i)) : aX6_isBlocked g [.ref 20] (hx z w b) = some (some (.int (bI (dq (rw_b n ok lv r)))), hx z w b) := by
  have outer : ∀ (k i F : Nat), i + k = n → 10 * k + 1 ≤ F → ah_run (kX6_isBlocked g) F 2 [(0, .ref 20), (1, .int (nI i))] [] (hx z w b) = some (some (.int (bI (dq (∃ p q, i ≤ p ∧ rw_B n ok lv r p q)))), hx z w b) := by
    intro k
    induction k with
    | zero =>
      intro i F hi hF
      obtain ⟨f, rfl⟩ : ∃ f, F = f + 1 := ⟨F - 1, by omega⟩
      have e : i = n := by omega
      subst e
      simp only [rX6_isBlocked_2, ob_s, ob_n, ar_I, ar_L, ar_V, hx_v0, hx_fr0_0, hx_fr0_1, hx_fr0_2, hx_fr0_3, hx_fr0_4, hx_fi0_5, hx_sv0_5, hx_v1, hx_fr1_0, hx_fi1_1, hx_sv1_1, hx_v3, hx_fr3_0, hx_fr3_1, hx_fi3_2, hx_sv3_2, hx_fi3_3, hx_sv3_3, hx_fi3_4, hx_sv3_4, hx_fi3_5, hx_sv3_5, hx_fi3_6, hx_sv3_6, hx_fr3_7, hx_v5, hx_fi5_0, hx_sv5_0, hx_fr5_1, hx_fr5_2, hx_fr5_3, hx_fr5_4, hx_v11, hx_fi11_0, hx_sv11_0, hx_fr11_1, hx_fr11_2, hx_fr11_3, hx_fr11_4, hx_fi11_5, hx_sv11_5, hx_fi11_6, hx_sv11_6, hx_fi11_7, hx_sv11_7, hx_fi11_8, hx_sv11_8, hx_v15, hx_fi15_0, hx_sv15_0, hx_fr15_1, hx_fr15_2, hx_fr15_3, hx_fr15_4, hx_v20, hx_fi20_0, hx_sv20_0, hx_fi20_1, hx_sv20_1, hx_fi20_2, hx_sv20_2, hx_fi20_3, hx_sv20_3, hx_fr20_4, hx_fr20_5, hx_fr20_6, hx_fr20_7, hx_fi20_8, hx_sv20_8, hx_fi20_9, hx_sv20_9, hx_fi20_10, hx_sv20_10, hx_fi20_11, hx_sv20_11, hx_v25, hx_fi25_0, hx_sv25_0, hx_fi25_1, hx_sv25_1, hx_fl, hx_sl, hx_fr25_3, hx_li2, hx_ai2, hx_si2, hx_li6, hx_ai6, hx_si6, hx_li7, hx_ai7, hx_si7, hx_li8, hx_ai8, hx_si8, hx_li9, hx_ai9, hx_si9, hx_li10, hx_ai10, hx_si10, hx_li12, hx_ai12, hx_si12, hx_li13, hx_ai13, hx_si13, hx_li14, hx_ai14, hx_si14, hx_li16, hx_ai16, hx_si16, hx_li17, hx_ai17, hx_si17, hx_li18, hx_ai18, hx_si18, hx_li19, hx_ai19, hx_si19, hx_li21, hx_ai21, hx_si21, hx_li22, hx_ai22, hx_si22, hx_li24, hx_ai24, hx_si24, hx_li26, hx_ai26, hx_si26, hx_li27, hx_ai27, hx_si27, hx_li28, hx_ai28, hx_si28, hx_li29, hx_ai29, hx_si29, hx_li30, hx_ai30, hx_si30, hx_li31, hx_ai31, hx_si31, hx_li32, hx_ai32, hx_si32, hx_li33, hx_ai33, hx_si33, hx_lr4, hx_lr23, hx_sf0, hx_sf1, hx_ss1, hx_sf2, hx_ss2, hx_sf3, hx_ss3, hx_lkli, hx_lksi, hz, nI_ltnn (show i < 1000 by omega), if_false]
      rw [dq_f (by rintro ⟨p, q, h1, h2, h3, -⟩; omega)]
      rfl
    | succ k ih =>
      intro i F hi hF
      obtain ⟨f, rfl⟩ : ∃ f, F = f + 1 := ⟨F - 1, by omega⟩
      have i7 : i < 7 := by omega
      have mi : ∀ f : Nat → Int32, ah_rd f 7 (nI i) = some (f i) := fun f => ah_rdN i7 (by decide)
      have inner : ∀ (m j F : Nat), j + m = n → i < j → 10 * k + 2 + m ≤ F → ah_run (kX6_isBlocked g) F 14 [(0, .ref 20), (1, .int (nI i)), (2, .int (nI j))] [] (hx z w b) = some (some (.int (bI (dq (∃ p q, (i < p ∨ (p = i ∧ j ≤ q)) ∧ rw_B n ok lv r p q)))), hx z w b) := by
        intro m
        induction m with
        | zero =>
          intro j F hj hij hF
          obtain ⟨f, rfl⟩ : ∃ f, F = f + 1 := ⟨F - 1, by omega⟩
          have e : j = n := by omega
          subst e
          simp only [rX6_isBlocked_14, ob_s, ob_n, ar_I, ar_L, ar_V, hx_v0, hx_fr0_0, hx_fr0_1, hx_fr0_2, hx_fr0_3, hx_fr0_4, hx_fi0_5, hx_sv0_5, hx_v1, hx_fr1_0, hx_fi1_1, hx_sv1_1, hx_v3, hx_fr3_0, hx_fr3_1, hx_fi3_2, hx_sv3_2, hx_fi3_3, hx_sv3_3, hx_fi3_4, hx_sv3_4, hx_fi3_5, hx_sv3_5, hx_fi3_6, hx_sv3_6, hx_fr3_7, hx_v5, hx_fi5_0, hx_sv5_0, hx_fr5_1, hx_fr5_2, hx_fr5_3, hx_fr5_4, hx_v11, hx_fi11_0, hx_sv11_0, hx_fr11_1, hx_fr11_2, hx_fr11_3, hx_fr11_4, hx_fi11_5, hx_sv11_5, hx_fi11_6, hx_sv11_6, hx_fi11_7, hx_sv11_7, hx_fi11_8, hx_sv11_8, hx_v15, hx_fi15_0, hx_sv15_0, hx_fr15_1, hx_fr15_2, hx_fr15_3, hx_fr15_4, hx_v20, hx_fi20_0, hx_sv20_0, hx_fi20_1, hx_sv20_1, hx_fi20_2, hx_sv20_2, hx_fi20_3, hx_sv20_3, hx_fr20_4, hx_fr20_5, hx_fr20_6, hx_fr20_7, hx_fi20_8, hx_sv20_8, hx_fi20_9, hx_sv20_9, hx_fi20_10, hx_sv20_10, hx_fi20_11, hx_sv20_11, hx_v25, hx_fi25_0, hx_sv25_0, hx_fi25_1, hx_sv25_1, hx_fl, hx_sl, hx_fr25_3, hx_li2, hx_ai2, hx_si2, hx_li6, hx_ai6, hx_si6, hx_li7, hx_ai7, hx_si7, hx_li8, hx_ai8, hx_si8, hx_li9, hx_ai9, hx_si9, hx_li10, hx_ai10, hx_si10, hx_li12, hx_ai12, hx_si12, hx_li13, hx_ai13, hx_si13, hx_li14, hx_ai14, hx_si14, hx_li16, hx_ai16, hx_si16, hx_li17, hx_ai17, hx_si17, hx_li18, hx_ai18, hx_si18, hx_li19, hx_ai19, hx_si19, hx_li21, hx_ai21, hx_si21, hx_li22, hx_ai22, hx_si22, hx_li24, hx_ai24, hx_si24, hx_li26, hx_ai26, hx_si26, hx_li27, hx_ai27, hx_si27, hx_li28, hx_ai28, hx_si28, hx_li29, hx_ai29, hx_si29, hx_li30, hx_ai30, hx_si30, hx_li31, hx_ai31, hx_si31, hx_li32, hx_ai32, hx_si32, hx_li33, hx_ai33, hx_si33, hx_lr4, hx_lr23, hx_sf0, hx_sf1, hx_ss1, hx_sf2, hx_ss2, hx_sf3, hx_ss3, hx_lkli, hx_lksi, hz, nI_ltnn (show j < 1000 by omega), if_false, nI_1]
          rw [ih (i + 1) f (by omega) (by omega)]
          rw [dq_c (P := ∃ p q, i + 1 ≤ p ∧ rw_B j ok lv r p q) (Q := ∃ p q, (i < p ∨ (p = i ∧ j ≤ q)) ∧ rw_B j ok lv r p q)]
          constructor
          · rintro ⟨p, q, h1, h2⟩
            exact ⟨p, q, Or.inl h1, h2⟩
          · rintro ⟨p, q, h1, h2⟩
            refine ⟨p, q, ?_, h2⟩
            have := h2.2.1
            omega
        | succ m im =>
          intro j F hj hij hF
          obtain ⟨f, rfl⟩ : ∃ f, F = f + 1 := ⟨F - 1, by omega⟩
          have j7 : j < 7 := by omega
          have jn : j < n := by omega
          have mj : ∀ f : Nat → Int32, ah_rd f 7 (nI j) = some (f j) := fun f => ah_rdN j7 (by decide)
          have hrl := hr.lt i
          have next := im (j + 1) f (by omega) (by omega) (by omega)
          have skip : ¬ rw_B n ok lv r i j → dq (∃ p q, (i < p ∨ (p = i ∧ j + 1 ≤ q)) ∧ rw_B n ok lv r p q) = dq (∃ p q, (i < p ∨ (p = i ∧ j ≤ q)) ∧ rw_B n ok lv r p q) := fun hB => by
            apply dq_c
            constructor
            · rintro ⟨p, q, h1, h2⟩
              exact ⟨p, q, by omega, h2⟩
            · rintro ⟨p, q, h1, h2⟩
              refine ⟨p, q, ?_, h2⟩
              by_cases c : p = i ∧ q = j
              · exact absurd (c.1 ▸ c.2 ▸ h2) hB
              · omega
          simp only [rX6_isBlocked_14, ob_s, ob_n, ar_I, ar_L, ar_V, hx_v0, hx_fr0_0, hx_fr0_1, hx_fr0_2, hx_fr0_3, hx_fr0_4, hx_fi0_5, hx_sv0_5, hx_v1, hx_fr1_0, hx_fi1_1, hx_sv1_1, hx_v3, hx_fr3_0, hx_fr3_1, hx_fi3_2, hx_sv3_2, hx_fi3_3, hx_sv3_3, hx_fi3_4, hx_sv3_4, hx_fi3_5, hx_sv3_5, hx_fi3_6, hx_sv3_6, hx_fr3_7, hx_v5, hx_fi5_0, hx_sv5_0, hx_fr5_1, hx_fr5_2, hx_fr5_3, hx_fr5_4, hx_v11, hx_fi11_0, hx_sv11_0, hx_fr11_1, hx_fr11_2, hx_fr11_3, hx_fr11_4, hx_fi11_5, hx_sv11_5, hx_fi11_6, hx_sv11_6, hx_fi11_7, hx_sv11_7, hx_fi11_8, hx_sv11_8, hx_v15, hx_fi15_0, hx_sv15_0, hx_fr15_1, hx_fr15_2, hx_fr15_3, hx_fr15_4, hx_v20, hx_fi20_0, hx_sv20_0, hx_fi20_1, hx_sv20_1, hx_fi20_2, hx_sv20_2, hx_fi20_3, hx_sv20_3, hx_fr20_4, hx_fr20_5, hx_fr20_6, hx_fr20_7, hx_fi20_8, hx_sv20_8, hx_fi20_9, hx_sv20_9, hx_fi20_10, hx_sv20_10, hx_fi20_11, hx_sv20_11, hx_v25, hx_fi25_0, hx_sv25_0, hx_fi25_1, hx_sv25_1, hx_fl, hx_sl, hx_fr25_3, hx_li2, hx_ai2, hx_si2, hx_li6, hx_ai6, hx_si6, hx_li7, hx_ai7, hx_si7, hx_li8, hx_ai8, hx_si8, hx_li9, hx_ai9, hx_si9, hx_li10, hx_ai10, hx_si10, hx_li12, hx_ai12, hx_si12, hx_li13, hx_ai13, hx_si13, hx_li14, hx_ai14, hx_si14, hx_li16, hx_ai16, hx_si16, hx_li17, hx_ai17, hx_si17, hx_li18, hx_ai18, hx_si18, hx_li19, hx_ai19, hx_si19, hx_li21, hx_ai21, hx_si21, hx_li22, hx_ai22, hx_si22, hx_li24, hx_ai24, hx_si24, hx_li26, hx_ai26, hx_si26, hx_li27, hx_ai27, hx_si27, hx_li28, hx_ai28, hx_si28, hx_li29, hx_ai29, hx_si29, hx_li30, hx_ai30, hx_si30, hx_li31, hx_ai31, hx_si31, hx_li32, hx_ai32, hx_si32, hx_li33, hx_ai33, hx_si33, hx_lr4, hx_lr23, hx_sf0, hx_sf1, hx_ss1, hx_sf2, hx_ss2, hx_sf3, hx_ss3, hx_lkli, hx_lksi, hz, nI_ltin jn (show n < 1000 by omega), if_true, i7, mi, mj, hw i j (by omega) jn, gx_lk_1 (hl i j), nI_1, hw14 i i7, en_eq (show r i < 1000 by omega) (show j < 1000 by omega)]
          by_cases c1 : ok i j = true
          · have w1 := sX6_would hg z w b hn hz hl hw hr hw14 i j (by omega) jn c1
            have w2 := sX6_would hg z w b hn hz hl hw hr hw14 j i jn (by omega) (hs _ _ c1)
            rw [if_neg (fun h => h c1)]
            by_cases c2 : r i = j + 1
            · rw [if_pos c2, next, skip (fun h => h.2.2.2.1 c2)]
            · rw [if_neg c2]
              simp only [w1, w2, hx_v20, ob_s, ob_n, ar_I, ar_L, ar_V, bI_0]
              by_cases c3 : rw_pf lv r i j
              · rw [dq_t c3, if_neg (by decide)]
                by_cases c4 : rw_pf lv r j i
                · rw [dq_t c4, if_neg (by decide), dq_t ⟨i, j, Or.inr ⟨rfl, Nat.le_refl _⟩, hij, jn, c1, c2, c3, c4⟩]
                  rfl
                · rw [dq_f c4, if_pos rfl, next, skip (fun h => c4 h.2.2.2.2.2)]
              · rw [dq_f c3, if_pos rfl, next, skip (fun h => c3 h.2.2.2.2.1)]
          · rw [if_pos c1, next, skip (fun h => c1 h.2.2.1)]
      simp only [rX6_isBlocked_2, ob_s, ob_n, ar_I, ar_L, ar_V, hx_v0, hx_fr0_0, hx_fr0_1, hx_fr0_2, hx_fr0_3, hx_fr0_4, hx_fi0_5, hx_sv0_5, hx_v1, hx_fr1_0, hx_fi1_1, hx_sv1_1, hx_v3, hx_fr3_0, hx_fr3_1, hx_fi3_2, hx_sv3_2, hx_fi3_3, hx_sv3_3, hx_fi3_4, hx_sv3_4, hx_fi3_5, hx_sv3_5, hx_fi3_6, hx_sv3_6, hx_fr3_7, hx_v5, hx_fi5_0, hx_sv5_0, hx_fr5_1, hx_fr5_2, hx_fr5_3, hx_fr5_4, hx_v11, hx_fi11_0, hx_sv11_0, hx_fr11_1, hx_fr11_2, hx_fr11_3, hx_fr11_4, hx_fi11_5, hx_sv11_5, hx_fi11_6, hx_sv11_6, hx_fi11_7, hx_sv11_7, hx_fi11_8, hx_sv11_8, hx_v15, hx_fi15_0, hx_sv15_0, hx_fr15_1, hx_fr15_2, hx_fr15_3, hx_fr15_4, hx_v20, hx_fi20_0, hx_sv20_0, hx_fi20_1, hx_sv20_1, hx_fi20_2, hx_sv20_2, hx_fi20_3, hx_sv20_3, hx_fr20_4, hx_fr20_5, hx_fr20_6, hx_fr20_7, hx_fi20_8, hx_sv20_8, hx_fi20_9, hx_sv20_9, hx_fi20_10, hx_sv20_10, hx_fi20_11, hx_sv20_11, hx_v25, hx_fi25_0, hx_sv25_0, hx_fi25_1, hx_sv25_1, hx_fl, hx_sl, hx_fr25_3, hx_li2, hx_ai2, hx_si2, hx_li6, hx_ai6, hx_si6, hx_li7, hx_ai7, hx_si7, hx_li8, hx_ai8, hx_si8, hx_li9, hx_ai9, hx_si9, hx_li10, hx_ai10, hx_si10, hx_li12, hx_ai12, hx_si12, hx_li13, hx_ai13, hx_si13, hx_li14, hx_ai14, hx_si14, hx_li16, hx_ai16, hx_si16, hx_li17, hx_ai17, hx_si17, hx_li18, hx_ai18, hx_si18, hx_li19, hx_ai19, hx_si19, hx_li21, hx_ai21, hx_si21, hx_li22, hx_ai22, hx_si22, hx_li24, hx_ai24, hx_si24, hx_li26, hx_ai26, hx_si26, hx_li27, hx_ai27, hx_si27, hx_li28, hx_ai28, hx_si28, hx_li29, hx_ai29, hx_si29, hx_li30, hx_ai30, hx_si30, hx_li31, hx_ai31, hx_si31, hx_li32, hx_ai32, hx_si32, hx_li33, hx_ai33, hx_si33, hx_lr4, hx_lr23, hx_sf0, hx_sf1, hx_ss1, hx_sf2, hx_ss2, hx_sf3, hx_ss3, hx_lkli, hx_lksi, hz, nI_ltin (show i < n by omega) (show n < 1000 by omega), if_true, nI_1]
      rw [inner k (i + 1) f (by omega) (by omega) (by omega)]
      rw [dq_c (P := ∃ p q, (i < p ∨ (p = i ∧ i + 1 ≤ q)) ∧ rw_B n ok lv r p q) (Q := ∃ p q, i ≤ p ∧ rw_B n ok lv r p q)]
      constructor
      · rintro ⟨p, q, h1, h2⟩
        exact ⟨p, q, by omega, h2⟩
      · rintro ⟨p, q, h1, h2⟩
        refine ⟨p, q, ?_, h2⟩
        have := h2.1
        omega
  have := outer n 0 (g - 1) (by omega) (by omega)
  rw [dq_c (P := ∃ p q, 0 ≤ p ∧ rw_B n ok lv r p q) (Q := rw_b n ok lv r) ⟨fun ⟨p, q, _, h⟩ => ⟨p, q, h⟩, fun ⟨p, q, h⟩ => ⟨p, q, Nat.zero_le _, h⟩⟩, show nI 0 = 0 from rfl] at this
  obtain ⟨f, rfl⟩ : ∃ f, g = f + 100 := ⟨g - 100, by omega⟩
  unfold aX6_isBlocked
  rw [eX6_isBlocked]
  rw [show f + 100 - 1 = f + 99 by omega] at this
  exact this
end RX1
