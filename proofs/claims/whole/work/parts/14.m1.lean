/-! the reference: what may be paired, how like two are -/
/-- a loop from i on, k turns -/
def gm_lp {α : Type} (st : α → Nat → α) : Nat → Nat → α → α
  | 0, _, a => a
  | k + 1, i, a => gm_lp st k (i + 1) (st a i)
theorem gm_lp_s {α : Type} (st : α → Nat → α) (k i : Nat) (a : α) : gm_lp st (k + 1) i a = gm_lp st k (i + 1) (st a i) := rfl
theorem gm_lp_c {α : Type} {st st2 : α → Nat → α} : ∀ {k i : Nat} {a : α}, (∀ a j, i ≤ j → j < i + k → st a j = st2 a j) → gm_lp st k i a = gm_lp st2 k i a
  | 0, _, _, _ => rfl
  | k + 1, i, a, h => by
    rw [gm_lp_s, gm_lp_s, h a i (by omega) (by omega)]
    exact gm_lp_c (fun a j h1 h2 => h a j (by omega) (by omega))
section MS2
variable {g : Nat} (z : Nat → Int32) (w : Nat → Nat → Int32) (b : Int64)
theorem sX12_takes (hg : 4000 ≤ g) (i j : Nat) (hi : i < 7) (hj : j < 7) : aX12_takes g [.ref 0, .int (nI i), .int (nI j)] (hm z w b) = some (some (.int (bI (gm_tk (mw_k w) (mw_h w) (w 9) i j))), hm z w b) := by
  obtain ⟨f, rfl⟩ : ∃ f, g = f + 2 := ⟨g - 2, by omega⟩
  unfold aX12_takes
  rw [eX12_takes]
  have h1 : ah_rd (w 8) 14 (nI (2 * i + 1)) = some (mw_h w i) := ah_rdN (by omega) (by decide)
  have h2 : ah_rd (w 8) 14 (nI (2 * j + 1)) = some (mw_h w j) := ah_rdN (by omega) (by decide)
  have h3 : ah_rd (w 8) 14 (nI (2 * i)) = some (mw_k w i) := ah_rdN (by omega) (by decide)
  have h4 : ah_rd (w 8) 14 (nI (2 * j)) = some (mw_k w j) := ah_rdN (by omega) (by decide)
  have h5 : ah_rd (w 9) 7 (nI i) = some (w 9 i) := ah_rdN (by omega) (by decide)
  have h6 : ah_rd (w 9) 7 (nI j) = some (w 9 j) := ah_rdN (by omega) (by decide)
  simp only [Option.bind_some, Option.bind_none, ah_rI_s, ah_rL_s, ah_rV_s, hm_vI, hm_fr0, hm_li0, hm_ai0, hm_si0, hm_fi1, hm_sv1, hm_fi2, hm_sv2, hm_fi3, hm_sv3, hm_fi4, hm_sv4, hm_fi5, hm_sv5, hm_fi6, hm_sv6, hm_fi7, hm_sv7, hm_fr8, hm_li8, hm_ai8, hm_si8, hm_fr9, hm_li9, hm_ai9, hm_si9, hm_fr10, hm_li10, hm_ai10, hm_si10, hm_fr11, hm_li11, hm_ai11, hm_si11, hm_fr12, hm_li12, hm_ai12, hm_si12, hm_fr13, hm_li13, hm_ai13, hm_si13, hm_fr14, hm_li14, hm_ai14, hm_si14, hm_fi15, hm_sv15, hm_fr16, hm_li16, hm_ai16, hm_si16, hm_fr17, hm_li17, hm_ai17, hm_si17, hm_fi18, hm_sv18, hm_fi19, hm_sv19, hm_fi20, hm_sv20, hm_fi21, hm_sv21, hm_fi22, hm_sv22, hm_fi23, hm_sv23, hm_fi24, hm_sv24, hm_fr25, hm_li25, hm_ai25, hm_si25, hm_fr26, hm_li26, hm_ai26, hm_si26, hm_fr27, hm_li27, hm_ai27, hm_si27, hm_fr28, hm_li28, hm_ai28, hm_si28, hm_fl, hm_sl, nI_2, nI_1, h1, h2]
  rw [rX12_takes_28, rX12_takes_28]
  simp only [Option.bind_some, Option.bind_none, ah_rI_s, ah_rL_s, ah_rV_s, hm_vI, hm_fr0, hm_li0, hm_ai0, hm_si0, hm_fi1, hm_sv1, hm_fi2, hm_sv2, hm_fi3, hm_sv3, hm_fi4, hm_sv4, hm_fi5, hm_sv5, hm_fi6, hm_sv6, hm_fi7, hm_sv7, hm_fr8, hm_li8, hm_ai8, hm_si8, hm_fr9, hm_li9, hm_ai9, hm_si9, hm_fr10, hm_li10, hm_ai10, hm_si10, hm_fr11, hm_li11, hm_ai11, hm_si11, hm_fr12, hm_li12, hm_ai12, hm_si12, hm_fr13, hm_li13, hm_ai13, hm_si13, hm_fr14, hm_li14, hm_ai14, hm_si14, hm_fi15, hm_sv15, hm_fr16, hm_li16, hm_ai16, hm_si16, hm_fr17, hm_li17, hm_ai17, hm_si17, hm_fi18, hm_sv18, hm_fi19, hm_sv19, hm_fi20, hm_sv20, hm_fi21, hm_sv21, hm_fi22, hm_sv22, hm_fi23, hm_sv23, hm_fi24, hm_sv24, hm_fr25, hm_li25, hm_ai25, hm_si25, hm_fr26, hm_li26, hm_ai26, hm_si26, hm_fr27, hm_li27, hm_ai27, hm_si27, hm_fr28, hm_li28, hm_ai28, hm_si28, hm_fl, hm_sl, nI_2, h3, h4, h5, h6, sX12_isGlove z w b hg j hj]
  unfold gm_tk
  by_cases k1 : mw_k w i = 1
  · by_cases c1 : mw_h w i = mw_h w j <;> by_cases q1 : mw_k w j = 1 <;> by_cases q4 : mw_k w j = 4 <;> simp [k1, c1, q1, q4, bI]
  by_cases k4 : mw_k w i = 4
  · by_cases c1 : mw_h w i = mw_h w j <;> by_cases q1 : mw_k w j = 1 <;> by_cases q4 : mw_k w j = 4 <;> simp [k4, c1, q1, q4, bI]
  by_cases k2 : mw_k w i = 2
  · by_cases c1 : mw_h w i = mw_h w j <;> by_cases q2 : mw_k w j = 2 <;> simp [k2, c1, q2, bI]
  by_cases k3 : mw_k w i = 3
  · by_cases c1 : mw_h w i = mw_h w j <;> by_cases q2 : w 9 i = w 9 j <;> simp [k3, c1, q2, bI]
  by_cases c1 : mw_h w i = mw_h w j <;> simp [k1, k2, k3, k4, c1, bI]
theorem sX12_mayBe (hg : 4000 ≤ g) (i j : Nat) (hi : i < 7) (hj : j < 7) : aX12_mayBe g [.ref 0, .int (nI i), .int (nI j)] (hm z w b) = some (some (.int (bI (gm_mb (mw_k w) (mw_h w) (w 9) i j))), hm z w b) := by
  obtain ⟨f, rfl⟩ : ∃ f, g = f + 1 := ⟨g - 1, by omega⟩
  unfold aX12_mayBe
  rw [eX12_mayBe]
  simp only [Option.bind_some, Option.bind_none, ah_rI_s, ah_rL_s, ah_rV_s, hm_vI, hm_fr0, hm_li0, hm_ai0, hm_si0, hm_fi1, hm_sv1, hm_fi2, hm_sv2, hm_fi3, hm_sv3, hm_fi4, hm_sv4, hm_fi5, hm_sv5, hm_fi6, hm_sv6, hm_fi7, hm_sv7, hm_fr8, hm_li8, hm_ai8, hm_si8, hm_fr9, hm_li9, hm_ai9, hm_si9, hm_fr10, hm_li10, hm_ai10, hm_si10, hm_fr11, hm_li11, hm_ai11, hm_si11, hm_fr12, hm_li12, hm_ai12, hm_si12, hm_fr13, hm_li13, hm_ai13, hm_si13, hm_fr14, hm_li14, hm_ai14, hm_si14, hm_fi15, hm_sv15, hm_fr16, hm_li16, hm_ai16, hm_si16, hm_fr17, hm_li17, hm_ai17, hm_si17, hm_fi18, hm_sv18, hm_fi19, hm_sv19, hm_fi20, hm_sv20, hm_fi21, hm_sv21, hm_fi22, hm_sv22, hm_fi23, hm_sv23, hm_fi24, hm_sv24, hm_fr25, hm_li25, hm_ai25, hm_si25, hm_fr26, hm_li26, hm_ai26, hm_si26, hm_fr27, hm_li27, hm_ai27, hm_si27, hm_fr28, hm_li28, hm_ai28, hm_si28, hm_fl, hm_sl, sX12_takes z w b hg i j hi hj, sX12_takes z w b hg j i hj hi, nI_eqi (show i < 1000 by omega) (show j < 1000 by omega), bI_0]
  unfold gm_mb
  by_cases c1 : i = j
  · simp [c1, bI]
  cases c2 : gm_tk (mw_k w) (mw_h w) (w 9) i j <;> cases c3 : gm_tk (mw_k w) (mw_h w) (w 9) j i <;> simp [c1, bI]
theorem sX12_apartOf (hg : 4000 ≤ g) (i j : Nat) (hi : i < 7) (hj : j < 7) : aX12_apartOf g [.ref 0, .int (nI i), .int (nI j)] (hm z w b) = some (some (.int (gm_ap (mw_k w) (w 9) i j)), hm z w b) := by
  obtain ⟨f, rfl⟩ : ∃ f, g = f + 1 := ⟨g - 1, by omega⟩
  unfold aX12_apartOf
  rw [eX12_apartOf]
  have h3 : ah_rd (w 8) 14 (nI (2 * i)) = some (mw_k w i) := ah_rdN (by omega) (by decide)
  have h5 : ah_rd (w 9) 7 (nI i) = some (w 9 i) := ah_rdN (by omega) (by decide)
  have h6 : ah_rd (w 9) 7 (nI j) = some (w 9 j) := ah_rdN (by omega) (by decide)
  simp only [Option.bind_some, Option.bind_none, ah_rI_s, ah_rL_s, ah_rV_s, hm_vI, hm_fr0, hm_li0, hm_ai0, hm_si0, hm_fi1, hm_sv1, hm_fi2, hm_sv2, hm_fi3, hm_sv3, hm_fi4, hm_sv4, hm_fi5, hm_sv5, hm_fi6, hm_sv6, hm_fi7, hm_sv7, hm_fr8, hm_li8, hm_ai8, hm_si8, hm_fr9, hm_li9, hm_ai9, hm_si9, hm_fr10, hm_li10, hm_ai10, hm_si10, hm_fr11, hm_li11, hm_ai11, hm_si11, hm_fr12, hm_li12, hm_ai12, hm_si12, hm_fr13, hm_li13, hm_ai13, hm_si13, hm_fr14, hm_li14, hm_ai14, hm_si14, hm_fi15, hm_sv15, hm_fr16, hm_li16, hm_ai16, hm_si16, hm_fr17, hm_li17, hm_ai17, hm_si17, hm_fi18, hm_sv18, hm_fi19, hm_sv19, hm_fi20, hm_sv20, hm_fi21, hm_sv21, hm_fi22, hm_sv22, hm_fi23, hm_sv23, hm_fi24, hm_sv24, hm_fr25, hm_li25, hm_ai25, hm_si25, hm_fr26, hm_li26, hm_ai26, hm_si26, hm_fr27, hm_li27, hm_ai27, hm_si27, hm_fr28, hm_li28, hm_ai28, hm_si28, hm_fl, hm_sl, nI_2, h3, h5, h6, sX12_far hg]
  unfold gm_ap
  by_cases c1 : mw_k w i = 4 <;> simp [c1]
theorem sX12_likenessOf (hg : 4000 ≤ g) (i j : Nat) (hi : i < 7) (hj : j < 7) : aX12_likenessOf g [.ref 0, .int (nI i), .int (nI j)] (hm z w b) = some (some (.int (gm_lk (mw_k w) (mw_h w) (w 9) i j)), hm z w b) := by
  obtain ⟨f, rfl⟩ : ∃ f, g = f + 1 := ⟨g - 1, by omega⟩
  unfold aX12_likenessOf
  rw [eX12_likenessOf]
  simp only [Option.bind_some, Option.bind_none, ah_rI_s, ah_rL_s, ah_rV_s, hm_vI, hm_fr0, hm_li0, hm_ai0, hm_si0, hm_fi1, hm_sv1, hm_fi2, hm_sv2, hm_fi3, hm_sv3, hm_fi4, hm_sv4, hm_fi5, hm_sv5, hm_fi6, hm_sv6, hm_fi7, hm_sv7, hm_fr8, hm_li8, hm_ai8, hm_si8, hm_fr9, hm_li9, hm_ai9, hm_si9, hm_fr10, hm_li10, hm_ai10, hm_si10, hm_fr11, hm_li11, hm_ai11, hm_si11, hm_fr12, hm_li12, hm_ai12, hm_si12, hm_fr13, hm_li13, hm_ai13, hm_si13, hm_fr14, hm_li14, hm_ai14, hm_si14, hm_fi15, hm_sv15, hm_fr16, hm_li16, hm_ai16, hm_si16, hm_fr17, hm_li17, hm_ai17, hm_si17, hm_fi18, hm_sv18, hm_fi19, hm_sv19, hm_fi20, hm_sv20, hm_fi21, hm_sv21, hm_fi22, hm_sv22, hm_fi23, hm_sv23, hm_fi24, hm_sv24, hm_fr25, hm_li25, hm_ai25, hm_si25, hm_fr26, hm_li26, hm_ai26, hm_si26, hm_fr27, hm_li27, hm_ai27, hm_si27, hm_fr28, hm_li28, hm_ai28, hm_si28, hm_fl, hm_sl, sX12_mayBe z w b hg i j hi hj, sX12_apartOf z w b hg i j hi hj, sX12_apartOf z w b hg j i hj hi, bI_0]
  unfold gm_lk
  cases c2 : gm_mb (mw_k w) (mw_h w) (w 9) i j <;> simp
/-- does a like the one better than the other (-1: none)? -/
def gm_pf (lk : Nat → Nat → Int32) (a one : Nat) (than : Int32) : Bool := if than = -1 then true else decide (0 < lk a one - lk a than.toNatClampNeg) || (decide (lk a one - lk a than.toNatClampNeg = 0) && decide (nI one < than))
theorem sX12_prefers (hg : 4000 ≤ g) (a i : Nat) (t : Int32) (ha : a < 7) (hi : i < 7) (ht : t = -1 ∨ ∃ j, j < 7 ∧ t = nI j) : aX12_prefers g [.ref 0, .int (nI a), .int (nI i), .int t] (hm z w b) = some (some (.int (bI (gm_pf (gm_lk (mw_k w) (mw_h w) (w 9)) a i t))), hm z w b) := by
  obtain ⟨f, rfl⟩ : ∃ f, g = f + 1 := ⟨g - 1, by omega⟩
  unfold aX12_prefers
  rw [eX12_prefers]
  unfold gm_pf
  rcases ht with rfl | ⟨j, hj, rfl⟩
  · simp [bI]
  · have hne : ¬ nI j = -1 := fun e => by
      have := congrArg Int32.toInt e
      rw [nI_toInt (by omega)] at this
      have h2 : (-1 : Int32).toInt = -1 := rfl
      omega
    simp only [Option.bind_some, Option.bind_none, ah_rI_s, ah_rL_s, ah_rV_s, hm_vI, hm_fr0, hm_li0, hm_ai0, hm_si0, hm_fi1, hm_sv1, hm_fi2, hm_sv2, hm_fi3, hm_sv3, hm_fi4, hm_sv4, hm_fi5, hm_sv5, hm_fi6, hm_sv6, hm_fi7, hm_sv7, hm_fr8, hm_li8, hm_ai8, hm_si8, hm_fr9, hm_li9, hm_ai9, hm_si9, hm_fr10, hm_li10, hm_ai10, hm_si10, hm_fr11, hm_li11, hm_ai11, hm_si11, hm_fr12, hm_li12, hm_ai12, hm_si12, hm_fr13, hm_li13, hm_ai13, hm_si13, hm_fr14, hm_li14, hm_ai14, hm_si14, hm_fi15, hm_sv15, hm_fr16, hm_li16, hm_ai16, hm_si16, hm_fr17, hm_li17, hm_ai17, hm_si17, hm_fi18, hm_sv18, hm_fi19, hm_sv19, hm_fi20, hm_sv20, hm_fi21, hm_sv21, hm_fi22, hm_sv22, hm_fi23, hm_sv23, hm_fi24, hm_sv24, hm_fr25, hm_li25, hm_ai25, hm_si25, hm_fr26, hm_li26, hm_ai26, hm_si26, hm_fr27, hm_li27, hm_ai27, hm_si27, hm_fr28, hm_li28, hm_ai28, hm_si28, hm_fl, hm_sl, sX12_likenessOf z w b hg a i ha hi, sX12_likenessOf z w b hg a j ha hj, if_neg hne, nI_clamp (show j < 2 ^ 31 by omega)]
    generalize gm_lk (mw_k w) (mw_h w) (w 9) a i - gm_lk (mw_k w) (mw_h w) (w 9) a j = d
    by_cases c1 : 0 < d <;> by_cases c2 : d = 0 <;> by_cases c3 : nI i < nI j <;> simp [c1, c2, c3, bI]
/-- the bits of those that p takes -/
def gm_bits (p : Nat → Bool) (n : Nat) : Int32 := gm_lp (fun x j => if p j = true then x ||| (1 <<< (nI j &&& 31)) else x) n 0 0
theorem i32_or0 (x : Int32) : x ||| 0 = x := by simp
theorem sX12_mayBits (hg : 4000 ≤ g) {n : Nat} (hn : n ≤ 7) (hz : z 2 = nI n) (a : Nat) (ha : a < 7) : aX12_mayBits g [.ref 0, .int (nI a)] (hm z w b) = some (some (.int (gm_bits (gm_mb (mw_k w) (mw_h w) (w 9) a) n)), hm z w b) := by
  have loop : ∀ (k i : Nat) (x : Int32) (f : Nat), i + k = n → ah_run (kX12_mayBits g) (f + k + 1) 4 [(0, .ref 0), (1, .int (nI a)), (2, .int x), (3, .int (nI i))] [] (hm z w b) = some (some (.int (gm_lp (fun x j => if gm_mb (mw_k w) (mw_h w) (w 9) a j = true then x ||| (1 <<< (nI j &&& 31)) else x) k i x)), hm z w b) := by
    intro k
    induction k with
    | zero =>
      intro i x f hk
      rw [rX12_mayBits_4]
      simp only [Option.bind_some, Option.bind_none, ah_rI_s, ah_rL_s, ah_rV_s, hm_vI, hm_fr0, hm_li0, hm_ai0, hm_si0, hm_fi1, hm_sv1, hm_fi2, hm_sv2, hm_fi3, hm_sv3, hm_fi4, hm_sv4, hm_fi5, hm_sv5, hm_fi6, hm_sv6, hm_fi7, hm_sv7, hm_fr8, hm_li8, hm_ai8, hm_si8, hm_fr9, hm_li9, hm_ai9, hm_si9, hm_fr10, hm_li10, hm_ai10, hm_si10, hm_fr11, hm_li11, hm_ai11, hm_si11, hm_fr12, hm_li12, hm_ai12, hm_si12, hm_fr13, hm_li13, hm_ai13, hm_si13, hm_fr14, hm_li14, hm_ai14, hm_si14, hm_fi15, hm_sv15, hm_fr16, hm_li16, hm_ai16, hm_si16, hm_fr17, hm_li17, hm_ai17, hm_si17, hm_fi18, hm_sv18, hm_fi19, hm_sv19, hm_fi20, hm_sv20, hm_fi21, hm_sv21, hm_fi22, hm_sv22, hm_fi23, hm_sv23, hm_fi24, hm_sv24, hm_fr25, hm_li25, hm_ai25, hm_si25, hm_fr26, hm_li26, hm_ai26, hm_si26, hm_fr27, hm_li27, hm_ai27, hm_si27, hm_fr28, hm_li28, hm_ai28, hm_si28, hm_fl, hm_sl, hz, show i = n by omega, nI_lti (show n < 1000 by omega) (show n < 1000 by omega), Nat.lt_irrefl, if_false]
      rfl
    | succ k ih =>
      intro i x f hk
      rw [show f + (k + 1) + 1 = (f + k + 1) + 1 by omega, rX12_mayBits_4]
      simp only [Option.bind_some, Option.bind_none, ah_rI_s, ah_rL_s, ah_rV_s, hm_vI, hm_fr0, hm_li0, hm_ai0, hm_si0, hm_fi1, hm_sv1, hm_fi2, hm_sv2, hm_fi3, hm_sv3, hm_fi4, hm_sv4, hm_fi5, hm_sv5, hm_fi6, hm_sv6, hm_fi7, hm_sv7, hm_fr8, hm_li8, hm_ai8, hm_si8, hm_fr9, hm_li9, hm_ai9, hm_si9, hm_fr10, hm_li10, hm_ai10, hm_si10, hm_fr11, hm_li11, hm_ai11, hm_si11, hm_fr12, hm_li12, hm_ai12, hm_si12, hm_fr13, hm_li13, hm_ai13, hm_si13, hm_fr14, hm_li14, hm_ai14, hm_si14, hm_fi15, hm_sv15, hm_fr16, hm_li16, hm_ai16, hm_si16, hm_fr17, hm_li17, hm_ai17, hm_si17, hm_fi18, hm_sv18, hm_fi19, hm_sv19, hm_fi20, hm_sv20, hm_fi21, hm_sv21, hm_fi22, hm_sv22, hm_fi23, hm_sv23, hm_fi24, hm_sv24, hm_fr25, hm_li25, hm_ai25, hm_si25, hm_fr26, hm_li26, hm_ai26, hm_si26, hm_fr27, hm_li27, hm_ai27, hm_si27, hm_fr28, hm_li28, hm_ai28, hm_si28, hm_fl, hm_sl, hz, nI_lti (show i < 1000 by omega) (show n < 1000 by omega), show i < n by omega, if_true, sX12_mayBe z w b hg a i ha (by omega), bI_0, i32_or0, nI_1]
      rw [gm_lp_s]
      cases c : gm_mb (mw_k w) (mw_h w) (w 9) a i
      · simp only [if_true, Bool.false_eq_true, if_false]
        exact ih (i + 1) x f (by omega)
      · simp only [Bool.true_eq_false, if_false, if_true]
        exact ih (i + 1) _ f (by omega)
  obtain ⟨f, rfl⟩ : ∃ f, g = f + 10 := ⟨g - 10, by omega⟩
  unfold aX12_mayBits
  rw [eX12_mayBits]
  exact loop n 0 0 (f + 8 - n) (by omega) ▸ (by rw [show f + 9 = f + 8 - n + n + 1 by omega]; rfl)
end MS2
