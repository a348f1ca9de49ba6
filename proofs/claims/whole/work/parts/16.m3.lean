/-! the reference: the page, copies, round, odds -/
theorem gm_up_id {α : Type} (f : Nat → α) (k : Nat) : va_up f k (f k) = f := by
  funext j
  show (if j = k then f k else f j) = f j
  by_cases h : j = k
  · rw [if_pos h, h]
  · rw [if_neg h]
def gm_cpy (f t : Nat → Int32) (n : Nat) : Nat → Int32 := fun j => if j < n then f j else t j
theorem gm_cpy_s (f t : Nat → Int32) (n : Nat) : upd (gm_cpy f t n) n (f n) = gm_cpy f t (n + 1) := by
  funext j
  show (if j = n then f n else (if j < n then f j else t j)) = if j < n + 1 then f j else t j
  by_cases h1 : j = n
  · rw [if_pos h1, h1, if_pos (by omega)]
  · rw [if_neg h1]
    by_cases h2 : j < n
    · rw [if_pos h2, if_pos (by omega)]
    · rw [if_neg h2, if_neg (by omega)]
theorem gm_cpy_0 (f t : Nat → Int32) : gm_cpy f t 0 = t := by
  funext j
  unfold gm_cpy
  rw [if_neg (by omega)]
/-- may this letter stand at this place? -/
def gm_gd (k : Nat) (x : Int32) : Bool :=
  if k % 5 = 0 then decide (¬ ah_ix x = -1)
  else if k % 5 = 1 then decide (48 ≤ x.toInt ∧ x.toInt ≤ 49)
  else if k % 5 = 2 then decide (48 ≤ x.toInt ∧ x.toInt ≤ 57)
  else if k % 5 = 3 then decide (48 ≤ x.toInt ∧ x.toInt ≤ 53)
  else decide (x = 44 ∧ k < 34)
def gm_ft (gd : Nat → Bool) : Nat → Nat → Nat
  | 0, i => i
  | k + 1, i => if gd i = true then gm_ft gd k (i + 1) else i
def gm_rdl (st mt : Nat → Int32) (n : Nat) (s : Int32) : Int32 × Int32 := gm_lp (fun x j => (if mt j = -1 then (if st j < x.1 then st j else x.1) else x.1, if mt j = -1 then (if x.2 < st j then st j else x.2) else x.2)) n 0 (s, s)
def gm_rdf (s : Int32) (x : Int32 × Int32) : Int32 := if s - x.1 < x.2 - s then (x.2 - x.1) + (s - x.1) else (x.2 - x.1) + (x.2 - s)
def gm_od1 (mb : Nat → Nat → Bool) (mt : Nat → Int32) (n a : Nat) (x : Int32 × Int32) : Int32 × Int32 := gm_lp (fun x j => if (decide (mt a = -1) && decide (mt j = -1)) = true then (if mb a j = true then x.1 + 1 else x.1, x.2 + 1) else x) (n - (a + 1)) (a + 1) x
def gm_od (mb : Nat → Nat → Bool) (mt : Nat → Int32) (n : Nat) : Int32 × Int32 := gm_lp (fun x a => gm_od1 mb mt n a x) n 0 (0, 0)
/-- the greatest common part, by turns -/
def gm_gcd : Nat → Nat → Nat → Nat
  | 0, x, _ => x
  | k + 1, x, y => if 0 < y then gm_gcd k y (x % y) else x
theorem nI_gt0 {y : Nat} (hy : y < 1000) : ((0 : Int32) < nI y) = (0 < y) := nI_lti (a := 0) (by omega) hy
section MS4
variable {g : Nat} (z : Nat → Int32) (w : Nat → Nat → Int32) (b : Int64)
theorem sX12_copy (hg : 4000 ≤ g) (pf pt sf st L : Nat) (hL : L ≤ 40) (h1 : ∀ t, ah_ai (hm z (va_up w st t) b) pf 0 = some (L, w sf)) (h2 : ∀ t i x, i < L → ah_si (hm z (va_up w st t) b) pt 0 (nI i) x = some (hm z (va_up w st (upd t i x)) b)) : aX12_copy g [.ref pf, .ref pt] (hm z w b) = some (none, hm z (va_up w st (gm_cpy (w sf) (w st) L)) b) := by
  have loop : ∀ (k i F : Nat), i + k = L → k + 1 ≤ F → ah_run (kX12_copy g) F 2 [(0, .ref pf), (1, .ref pt), (2, .int (nI i))] [] (hm z (va_up w st (gm_cpy (w sf) (w st) i)) b) = some (none, hm z (va_up w st (gm_cpy (w sf) (w st) L)) b) := by
    intro k
    induction k with
    | zero =>
      intro i F hi hF
      obtain ⟨f, rfl⟩ : ∃ f, F = f + 1 := ⟨F - 1, by omega⟩
      have e : i = L := by omega
      subst e
      rw [rX12_copy_2, h1]
      simp only [Option.bind_some]
      rw [if_neg (show ¬ nI i < Int32.ofNat i from by rw [show Int32.ofNat i = nI i from rfl, nI_lti (by omega) (by omega)]; omega)]
    | succ k ih =>
      intro i F hi hF
      obtain ⟨f, rfl⟩ : ∃ f, F = f + 1 := ⟨F - 1, by omega⟩
      rw [rX12_copy_2, h1]
      simp only [Option.bind_some]
      rw [if_pos (show nI i < Int32.ofNat L from by rw [show Int32.ofNat L = nI L from rfl, nI_lti (by omega) (by omega)]; omega)]
      unfold ah_li
      rw [h1]
      simp only [Option.bind_some]
      rw [ah_rdN (by omega) (by omega)]
      simp only [Option.bind_some]
      rw [h2 _ i _ (by omega)]
      simp only [Option.bind_some]
      rw [gm_cpy_s, nI_1]
      exact ih (i + 1) f (by omega) (by omega)
  obtain ⟨f, rfl⟩ : ∃ f, g = f + 60 := ⟨g - 60, by omega⟩
  unfold aX12_copy
  rw [eX12_copy]
  have := loop L 0 (f + 59) (by omega) (by omega)
  rw [gm_cpy_0, gm_up_id] at this
  exact this
theorem sX12_kindBy (hg : 4000 ≤ g) (x : Int32) (h : ah_H) : aX12_kindBy g [.int x] h = some (some (.int (ah_ix x)), h) := by
  obtain ⟨f, rfl⟩ : ∃ f, g = f + 1 := ⟨g - 1, by omega⟩
  unfold aX12_kindBy
  rw [eX12_kindBy]
  unfold ah_ix
  by_cases c1 : x = 103
  · subst c1; rfl
  by_cases c2 : x = 107
  · subst c2; rfl
  by_cases c3 : x = 109
  · subst c3; rfl
  by_cases c4 : x = 114
  · subst c4; rfl
  by_cases c5 : x = 115
  · subst c5; rfl
  simp [c1, c2, c3, c4, c5]
theorem sX12_in2 (hg : 4000 ≤ g) (x lo hi : Int32) (h : ah_H) : aX12_in g [.long x.toInt64, .long lo.toInt64, .long hi.toInt64] h = some (some (.int (bI (decide (lo.toInt ≤ x.toInt ∧ x.toInt ≤ hi.toInt)))), h) := by
  rw [sX12_in hg]
  simp only [i64_lt]
  by_cases c : lo.toInt ≤ x.toInt ∧ x.toInt ≤ hi.toInt
  · rw [if_neg (by omega)]; simp [c, bI]
  · rw [if_pos (by omega)]; simp [c, bI]
theorem sX12_isGood (hg : 4000 ≤ g) (k : Nat) (hk : k < 40) (x : Int32) (h : ah_H) : aX12_isGood g [.int (nI k), .int x] h = some (some (.int (bI (gm_gd k x))), h) := by
  have hr : nI k - nI k / 5 * 5 = nI (k % 5) := pk_rem (a := k) (d := 5) (by omega) (by omega) (by omega)
  have h48 : ∀ hi : Int32, aX12_in g [.long x.toInt64, .long 48, .long hi.toInt64] h = some (some (.int (bI (decide (48 ≤ x.toInt ∧ x.toInt ≤ hi.toInt)))), h) := fun hi => sX12_in2 hg x 48 hi h
  have a49 := h48 49
  have a57 := h48 57
  have a53 := h48 53
  obtain ⟨f, rfl⟩ : ∃ f, g = f + 1 := ⟨g - 1, by omega⟩
  unfold aX12_isGood
  rw [eX12_isGood]
  have e0 : (nI (k % 5) = 0) = (k % 5 = 0) := nI_eqi (b := 0) (by omega) (by omega)
  have e1 : (nI (k % 5) = 1) = (k % 5 = 1) := nI_eqi (b := 1) (by omega) (by omega)
  have e2 : (nI (k % 5) = 2) = (k % 5 = 2) := nI_eqi (b := 2) (by omega) (by omega)
  have e3 : (nI (k % 5) = 3) = (k % 5 = 3) := nI_eqi (b := 3) (by omega) (by omega)
  have e34 : (nI k < 34) = (k < 34) := nI_lti (b := 34) (by omega) (by omega)
  rw [if_neg (by decide), hr]
  simp only [e0, e1, e2, e3, e34, sX12_kindBy hg, Option.bind_some, ah_rI_s]
  rw [show (49 : Int64) = (49 : Int32).toInt64 from rfl, show (57 : Int64) = (57 : Int32).toInt64 from rfl, show (53 : Int64) = (53 : Int32).toInt64 from rfl, a49, a57, a53]
  simp only [ah_rI_s, Option.bind_some, bI_01, if_true]
  unfold gm_gd
  by_cases c0 : k % 5 = 0
  · simp only [c0, if_true]
    by_cases d : ah_ix x = -1 <;> simp [d, bI]
  by_cases c1 : k % 5 = 1
  · simp [c1, show (49 : Int32).toInt = 49 from rfl]
  by_cases c2 : k % 5 = 2
  · simp [c2, show (57 : Int32).toInt = 57 from rfl]
  by_cases c3 : k % 5 = 3
  · simp [c3, show (53 : Int32).toInt = 53 from rfl]
  simp only [c0, c1, c2, c3, if_false]
  by_cases d1 : x = 44 <;> by_cases d2 : k < 34 <;> simp [d1, d2, bI]
theorem sX12_faultOf (hg : 4000 ≤ g) {n : Nat} (hn : n ≤ 36) (hz : z 1 = nI n) : aX12_faultOf g [.ref 0] (hm z w b) = some (some (.int (nI (gm_ft (fun k => gm_gd k (w 0 k)) n 0))), hm z w b) := by
  have loop : ∀ (k i F : Nat), i + k = n → k + 1 ≤ F → ah_run (kX12_faultOf g) F 2 [(0, .ref 0), (1, .int (nI i))] [] (hm z w b) = some (some (.int (nI (gm_ft (fun k => gm_gd k (w 0 k)) k i))), hm z w b) := by
    intro k
    induction k with
    | zero =>
      intro i F hi hF
      obtain ⟨f, rfl⟩ : ∃ f, F = f + 1 := ⟨F - 1, by omega⟩
      have e : i = n := by omega
      subst e
      rw [rX12_faultOf_2]
      simp only [Option.bind_some, Option.bind_none, ah_rI_s, ah_rL_s, ah_rV_s, hm_vI, hm_fr0, hm_li0, hm_ai0, hm_si0, hm_fi1, hm_sv1, hm_fi2, hm_sv2, hm_fi3, hm_sv3, hm_fi4, hm_sv4, hm_fi5, hm_sv5, hm_fi6, hm_sv6, hm_fi7, hm_sv7, hm_fr8, hm_li8, hm_ai8, hm_si8, hm_fr9, hm_li9, hm_ai9, hm_si9, hm_fr10, hm_li10, hm_ai10, hm_si10, hm_fr11, hm_li11, hm_ai11, hm_si11, hm_fr12, hm_li12, hm_ai12, hm_si12, hm_fr13, hm_li13, hm_ai13, hm_si13, hm_fr14, hm_li14, hm_ai14, hm_si14, hm_fi15, hm_sv15, hm_fr16, hm_li16, hm_ai16, hm_si16, hm_fr17, hm_li17, hm_ai17, hm_si17, hm_fi18, hm_sv18, hm_fi19, hm_sv19, hm_fi20, hm_sv20, hm_fi21, hm_sv21, hm_fi22, hm_sv22, hm_fi23, hm_sv23, hm_fi24, hm_sv24, hm_fr25, hm_li25, hm_ai25, hm_si25, hm_fr26, hm_li26, hm_ai26, hm_si26, hm_fr27, hm_li27, hm_ai27, hm_si27, hm_fr28, hm_li28, hm_ai28, hm_si28, hm_fl, hm_sl, hz, nI_lti (show i < 1000 by omega) (show i < 1000 by omega), Nat.lt_irrefl, if_false]
      rfl
    | succ k ih =>
      intro i F hi hF
      obtain ⟨f, rfl⟩ : ∃ f, F = f + 1 := ⟨F - 1, by omega⟩
      rw [rX12_faultOf_2]
      have h1 : ah_rd (w 0) 36 (nI i) = some (w 0 i) := ah_rdN (by omega) (by decide)
      simp only [Option.bind_some, Option.bind_none, ah_rI_s, ah_rL_s, ah_rV_s, hm_vI, hm_fr0, hm_li0, hm_ai0, hm_si0, hm_fi1, hm_sv1, hm_fi2, hm_sv2, hm_fi3, hm_sv3, hm_fi4, hm_sv4, hm_fi5, hm_sv5, hm_fi6, hm_sv6, hm_fi7, hm_sv7, hm_fr8, hm_li8, hm_ai8, hm_si8, hm_fr9, hm_li9, hm_ai9, hm_si9, hm_fr10, hm_li10, hm_ai10, hm_si10, hm_fr11, hm_li11, hm_ai11, hm_si11, hm_fr12, hm_li12, hm_ai12, hm_si12, hm_fr13, hm_li13, hm_ai13, hm_si13, hm_fr14, hm_li14, hm_ai14, hm_si14, hm_fi15, hm_sv15, hm_fr16, hm_li16, hm_ai16, hm_si16, hm_fr17, hm_li17, hm_ai17, hm_si17, hm_fi18, hm_sv18, hm_fi19, hm_sv19, hm_fi20, hm_sv20, hm_fi21, hm_sv21, hm_fi22, hm_sv22, hm_fi23, hm_sv23, hm_fi24, hm_sv24, hm_fr25, hm_li25, hm_ai25, hm_si25, hm_fr26, hm_li26, hm_ai26, hm_si26, hm_fr27, hm_li27, hm_ai27, hm_si27, hm_fr28, hm_li28, hm_ai28, hm_si28, hm_fl, hm_sl, hz, nI_lti (show i < 1000 by omega) (show n < 1000 by omega), show i < n by omega, if_true, h1, sX12_isGood hg i (by omega), bI_0, nI_1]
      unfold gm_ft
      cases c : gm_gd i (w 0 i)
      · simp
      · simp only [Bool.true_eq_false, if_false, if_true]
        exact ih (i + 1) f (by omega) (by omega)
  obtain ⟨f, rfl⟩ : ∃ f, g = f + 60 := ⟨g - 60, by omega⟩
  unfold aX12_faultOf
  rw [eX12_faultOf]
  exact loop n 0 (f + 59) (by omega) (by omega)
theorem sX12_areTwo (hg : 4000 ≤ g) {n : Nat} (hn : n ≤ 7) (hz : z 2 = nI n) (x y : Int32) : aX12_areTwo g [.ref 0, .int x, .int y] (hm z w b) = some (some (.int (bI (gm_is n x && (gm_is n y && decide (¬ x = y))))), hm z w b) := by
  obtain ⟨f, rfl⟩ : ∃ f, g = f + 1 := ⟨g - 1, by omega⟩
  unfold aX12_areTwo
  rw [eX12_areTwo]
  simp only [Option.bind_some, Option.bind_none, ah_rI_s, ah_rL_s, ah_rV_s, hm_vI, hm_fr0, hm_li0, hm_ai0, hm_si0, hm_fi1, hm_sv1, hm_fi2, hm_sv2, hm_fi3, hm_sv3, hm_fi4, hm_sv4, hm_fi5, hm_sv5, hm_fi6, hm_sv6, hm_fi7, hm_sv7, hm_fr8, hm_li8, hm_ai8, hm_si8, hm_fr9, hm_li9, hm_ai9, hm_si9, hm_fr10, hm_li10, hm_ai10, hm_si10, hm_fr11, hm_li11, hm_ai11, hm_si11, hm_fr12, hm_li12, hm_ai12, hm_si12, hm_fr13, hm_li13, hm_ai13, hm_si13, hm_fr14, hm_li14, hm_ai14, hm_si14, hm_fi15, hm_sv15, hm_fr16, hm_li16, hm_ai16, hm_si16, hm_fr17, hm_li17, hm_ai17, hm_si17, hm_fi18, hm_sv18, hm_fi19, hm_sv19, hm_fi20, hm_sv20, hm_fi21, hm_sv21, hm_fi22, hm_sv22, hm_fi23, hm_sv23, hm_fi24, hm_sv24, hm_fr25, hm_li25, hm_ai25, hm_si25, hm_fr26, hm_li26, hm_ai26, hm_si26, hm_fr27, hm_li27, hm_ai27, hm_si27, hm_fr28, hm_li28, hm_ai28, hm_si28, hm_fl, hm_sl, sX12_isSingle z w b hg hn hz, bI_0]
  cases c1 : gm_is n x <;> cases c2 : gm_is n y <;> by_cases c3 : x = y <;> simp [c3, bI]
theorem sX12_roundStep {n : Nat} (hn : n ≤ 7) (hz : z 2 = nI n) (s x y : Int32) (i f : Nat) (hi : i < n) : ah_run (kX12_roundOf g) (f + 1 + 1 + 1 + 1) 7 [(0, .ref 0), (1, .int s), (2, .int x), (3, .int y), (4, .int (nI i))] [] (hm z w b) = ah_run (kX12_roundOf g) f 7 [(0, .ref 0), (1, .int s), (2, .int (if w 11 i = -1 then (if w 10 i < x then w 10 i else x) else x)), (3, .int (if w 11 i = -1 then (if y < w 10 i then w 10 i else y) else y)), (4, .int (nI (i + 1)))] [] (hm z w b) := by
  have h1 : ah_rd (w 11) 7 (nI i) = some (w 11 i) := ah_rdN (by omega) (by decide)
  have h2 : ah_rd (w 10) 7 (nI i) = some (w 10 i) := ah_rdN (by omega) (by decide)
  have n10 : ((1 : Int32) = 0) = False := eq_false (by decide)
  have n00 : ((0 : Int32) = 0) = True := eq_true rfl
  simp only [rX12_roundOf_7, rX12_roundOf_32, rX12_roundOf_61, rX12_roundOf_89, Option.bind_some, Option.bind_none, ah_rI_s, ah_rL_s, ah_rV_s, hm_vI, hm_fr0, hm_li0, hm_ai0, hm_si0, hm_fi1, hm_sv1, hm_fi2, hm_sv2, hm_fi3, hm_sv3, hm_fi4, hm_sv4, hm_fi5, hm_sv5, hm_fi6, hm_sv6, hm_fi7, hm_sv7, hm_fr8, hm_li8, hm_ai8, hm_si8, hm_fr9, hm_li9, hm_ai9, hm_si9, hm_fr10, hm_li10, hm_ai10, hm_si10, hm_fr11, hm_li11, hm_ai11, hm_si11, hm_fr12, hm_li12, hm_ai12, hm_si12, hm_fr13, hm_li13, hm_ai13, hm_si13, hm_fr14, hm_li14, hm_ai14, hm_si14, hm_fi15, hm_sv15, hm_fr16, hm_li16, hm_ai16, hm_si16, hm_fr17, hm_li17, hm_ai17, hm_si17, hm_fi18, hm_sv18, hm_fi19, hm_sv19, hm_fi20, hm_sv20, hm_fi21, hm_sv21, hm_fi22, hm_sv22, hm_fi23, hm_sv23, hm_fi24, hm_sv24, hm_fr25, hm_li25, hm_ai25, hm_si25, hm_fr26, hm_li26, hm_ai26, hm_si26, hm_fr27, hm_li27, hm_ai27, hm_si27, hm_fr28, hm_li28, hm_ai28, hm_si28, hm_fl, hm_sl, hz, nI_lti (show i < 1000 by omega) (show n < 1000 by omega), hi, h1, h2, n10, n00, if_true, if_false, nI_1]
  by_cases c1 : w 11 i = -1 <;> by_cases c2 : w 10 i < x <;> by_cases c3 : y < w 10 i <;> simp only [c1, c2, c3, if_true, if_false]
theorem sX12_roundOf (hg : 4000 ≤ g) {n : Nat} (hn : n ≤ 7) (hz : z 2 = nI n) (s : Int32) : aX12_roundOf g [.ref 0, .int s] (hm z w b) = some (some (.int (gm_rdf s (gm_rdl (w 10) (w 11) n s))), hm z w b) := by
  have loop := gm_loop (n := n) 4 1 (fun F i (t : Int32 × Int32) => ah_run (kX12_roundOf g) F 7 [(0, .ref 0), (1, .int s), (2, .int t.1), (3, .int t.2), (4, .int (nI i))] [] (hm z w b)) (fun x j => (if w 11 j = -1 then (if w 10 j < x.1 then w 10 j else x.1) else x.1, if w 11 j = -1 then (if x.2 < w 10 j then w 10 j else x.2) else x.2)) (fun t => some (some (.int (gm_rdf s t)), hm z w b)) (fun _ _ => True) (fun F t hF hP => by
      obtain ⟨f, rfl⟩ : ∃ f, F = f + 1 := ⟨F - 1, by omega⟩
      rw [rX12_roundOf_7]
      simp only [Option.bind_some, Option.bind_none, ah_rI_s, ah_rL_s, ah_rV_s, hm_vI, hm_fr0, hm_li0, hm_ai0, hm_si0, hm_fi1, hm_sv1, hm_fi2, hm_sv2, hm_fi3, hm_sv3, hm_fi4, hm_sv4, hm_fi5, hm_sv5, hm_fi6, hm_sv6, hm_fi7, hm_sv7, hm_fr8, hm_li8, hm_ai8, hm_si8, hm_fr9, hm_li9, hm_ai9, hm_si9, hm_fr10, hm_li10, hm_ai10, hm_si10, hm_fr11, hm_li11, hm_ai11, hm_si11, hm_fr12, hm_li12, hm_ai12, hm_si12, hm_fr13, hm_li13, hm_ai13, hm_si13, hm_fr14, hm_li14, hm_ai14, hm_si14, hm_fi15, hm_sv15, hm_fr16, hm_li16, hm_ai16, hm_si16, hm_fr17, hm_li17, hm_ai17, hm_si17, hm_fi18, hm_sv18, hm_fi19, hm_sv19, hm_fi20, hm_sv20, hm_fi21, hm_sv21, hm_fi22, hm_sv22, hm_fi23, hm_sv23, hm_fi24, hm_sv24, hm_fr25, hm_li25, hm_ai25, hm_si25, hm_fr26, hm_li26, hm_ai26, hm_si26, hm_fr27, hm_li27, hm_ai27, hm_si27, hm_fr28, hm_li28, hm_ai28, hm_si28, hm_fl, hm_sl, hz, nI_lti (show n < 1000 by omega) (show n < 1000 by omega), Nat.lt_irrefl, if_false]
      unfold gm_rdf
      split <;> rfl) (fun F i t hF hi hP => by
      obtain ⟨f, rfl⟩ : ∃ f, F = f + 1 + 1 + 1 + 1 := ⟨F - 4, by omega⟩
      exact ⟨f, by omega, sX12_roundStep z w b hn hz s t.1 t.2 i f hi, trivial⟩)
  obtain ⟨f, rfl⟩ : ∃ f, g = f + 60 := ⟨g - 60, by omega⟩
  unfold aX12_roundOf
  rw [eX12_roundOf]
  exact loop n 0 (s, s) (f + 59) (by omega) trivial (by omega)
theorem sX12_common (hg : 4000 ≤ g) (x y : Nat) (hx : x < 1000) (hy : y < 100) (h : ah_H) : aX12_common g [.int (nI x), .int (nI y)] h = some (some (.int (nI (gm_gcd 100 x y))), h) := by
  have loop : ∀ (k x y F : Nat), x < 1000 → y < k → k < 1000 → k + 1 ≤ F → ah_run (kX12_common g) F 4 [(2, .int (nI x)), (3, .int (nI y))] [] h = some (some (.int (nI (gm_gcd k x y))), h) := by
    intro k
    induction k with
    | zero => intro x y F _ hy; omega
    | succ k ih =>
      intro x y F hx hy hk hF
      obtain ⟨f, rfl⟩ : ∃ f, F = f + 1 := ⟨F - 1, by omega⟩
      rw [rX12_common_4]
      unfold gm_gcd
      by_cases c : 0 < y
      · have e : nI x - nI x / nI y * nI y = nI (x % y) := pk_rem (by omega) c (by omega)
        simp only [nI_gt0 (show y < 1000 by omega), c, if_true]
        rw [if_neg (show ¬ nI y = 0 from fun z => by rw [show (0 : Int32) = nI 0 from rfl, nI_eqi (by omega) (by omega)] at z; omega), e]
        have := Nat.mod_lt x c
        cases k with
        | zero => omega
        | succ k => exact ih y (x % y) f (by omega) (by omega) (by omega) (by omega)
      · simp only [nI_gt0 (show y < 1000 by omega), c, if_false]
  obtain ⟨f, rfl⟩ : ∃ f, g = f + 200 := ⟨g - 200, by omega⟩
  unfold aX12_common
  rw [eX12_common]
  exact loop 100 x y (f + 199) hx (by omega) (by omega) (by omega)
end MS4
