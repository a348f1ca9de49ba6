/-! numbers, and what both sides are held to -/
theorem lgc_lt (x y : Int64) : (lg_cmp x y < 0) ↔ x < y := by
  unfold lg_cmp
  by_cases h1 : x > y
  · rw [if_pos h1]
    exact ⟨fun h => absurd h (by decide), fun h => absurd h (Int64.lt_asymm h1)⟩
  · rw [if_neg h1]
    by_cases h2 : x = y
    · rw [if_pos h2]
      exact ⟨fun h => absurd h (by decide), fun h => absurd h (by rw [h2]; exact Int64.lt_irrefl)⟩
    · rw [if_neg h2]
      exact ⟨fun _ => Int64.lt_of_le_of_ne (Int64.not_lt.mp h1) h2, fun _ => by decide⟩
theorem lgc_gt (x y : Int64) : (0 < lg_cmp x y) ↔ y < x := by
  unfold lg_cmp
  by_cases h1 : x > y
  · rw [if_pos h1]
    exact ⟨fun _ => h1, fun _ => by decide⟩
  · rw [if_neg h1]
    by_cases h2 : x = y
    · rw [if_pos h2]
      exact ⟨fun h => absurd h (by decide), fun h => absurd h h1⟩
    · rw [if_neg h2]
      exact ⟨fun h => absurd h (by decide), fun h => absurd h h1⟩
theorem i64_lt (x y : Int32) : x.toInt64 < y.toInt64 ↔ x.toInt < y.toInt := by
  rw [Int64.lt_iff_toInt_lt, Int32.toInt_toInt64, Int32.toInt_toInt64]
theorem i32_lt (x y : Int32) : x < y ↔ x.toInt < y.toInt := Int32.lt_iff_toInt_lt
theorem i32_le (x y : Int32) : x ≤ y ↔ x.toInt ≤ y.toInt := Int32.le_iff_toInt_le
theorem i32_eq (x y : Int32) : x = y ↔ x.toInt = y.toInt := Int32.toInt_inj.symm
theorem i32_not (x y : Int32) : ¬ x = y ↔ ¬ x.toInt = y.toInt := by rw [i32_eq]
theorem i32_nI {x : Int32} (h : 0 ≤ x.toInt) : x = nI x.toInt.toNat := by
  have h2 : x.toInt < 2 ^ 31 := Int32.toInt_lt x
  apply Int32.toInt_inj.mp
  rw [nI_toInt (by omega)]
  omega
/-- is x one of n? -/
def gm_is (n : Nat) (x : Int32) : Bool := decide (0 ≤ x.toInt ∧ x.toInt < n)
theorem gm_is_i {n : Nat} {x : Int32} (h : gm_is n x = true) : ∃ j : Nat, j < n ∧ x = nI j := by
  have h := of_decide_eq_true h
  exact ⟨x.toInt.toNat, by omega, i32_nI h.1⟩
theorem gm_is_n {n j : Nat} (h : j < n) (hn : n ≤ 40) : gm_is n (nI j) = true := by
  unfold gm_is
  rw [nI_toInt (by omega)]
  exact decide_eq_true ⟨by omega, by omega⟩
def bI (p : Bool) : Int32 := if p = true then 1 else 0
theorem bI_t : bI true = 1 := rfl
theorem bI_f : bI false = 0 := rfl
theorem bI_0 (p : Bool) : (bI p = 0) = (p = false) := by cases p <;> simp [bI]
theorem bI_1 (p : Bool) : (bI p = 1) = (p = true) := by cases p <;> simp [bI]
theorem bI_01 (p : Bool) : (bI p = 0 ∨ bI p = 1) = True := by cases p <;> simp [bI]
def gm_tk (kd hd sz : Nat → Int32) (a b : Nat) : Bool :=
  if kd a = 1 ∨ kd a = 4 then decide (¬ hd a = hd b) && (decide (kd b = 1) || decide (kd b = 4))
  else if kd a = 2 then decide (kd b = 2)
  else if kd a = 3 then decide (¬ hd a = hd b) && decide (sz a = sz b)
  else decide (¬ hd a = hd b)
def gm_mb (kd hd sz : Nat → Int32) (a b : Nat) : Bool := decide (¬ a = b) && (gm_tk kd hd sz a b && gm_tk kd hd sz b a)
def gm_far (x y : Int32) : Int32 := if x < y then y - x else x - y
def gm_ap (kd sz : Nat → Int32) (a b : Nat) : Int32 := if kd a = 4 then gm_far (sz a) (sz b) / 2 else gm_far (sz a) (sz b)
def gm_lk (kd hd sz : Nat → Int32) (a b : Nat) : Int32 := if gm_mb kd hd sz a b = true then 18 - gm_ap kd sz a b - gm_ap kd sz b a else -1
def mw_k (w : Nat → Nat → Int32) : Nat → Int32 := fun i => w 8 (2 * i)
def mw_h (w : Nat → Nat → Int32) : Nat → Int32 := fun i => w 8 (2 * i + 1)
theorem nI_2 (i : Nat) : (2 : Int32) * nI i = nI (2 * i) := by
  rw [show (2 : Int32) = nI 2 from rfl, pk_mul]
theorem nI_3 (i : Nat) : (3 : Int32) * nI i = nI (3 * i) := by
  rw [show (3 : Int32) = nI 3 from rfl, pk_mul]
theorem nI_a2 (a : Nat) : nI a + 2 = nI (a + 2) := by
  rw [show (2 : Int32) = nI 2 from rfl, nI_add]
theorem nI_eqi {a b : Nat} (ha : a < 1000) (hb : b < 1000) : (nI a = nI b) = (a = b) := propext (nI_eq (by omega) (by omega))
theorem nI_lti {a b : Nat} (ha : a < 1000) (hb : b < 1000) : (nI a < nI b) = (a < b) := propext (nI_ltI (by omega) (by omega))
section MS1
variable {g : Nat} (z : Nat → Int32) (w : Nat → Nat → Int32) (b : Int64)
theorem sX12_in (hg : 4000 ≤ g) (x y v : Int64) (h : ah_H) : aX12_in g [.long x, .long y, .long v] h = some (some (.int (if x < y ∨ v < x then 0 else 1)), h) := by
  obtain ⟨f, rfl⟩ : ∃ f, g = f + 1 := ⟨g - 1, by omega⟩
  unfold aX12_in
  rw [eX12_in]
  simp only [lgc_lt, lgc_gt]
  by_cases h1 : x < y <;> by_cases h2 : v < x <;> simp [h1, h2]
theorem sX12_far (hg : 4000 ≤ g) (x y : Int32) (h : ah_H) : aX12_far g [.int x, .int y] h = some (some (.int (gm_far x y)), h) := by
  obtain ⟨f, rfl⟩ : ∃ f, g = f + 1 := ⟨g - 1, by omega⟩
  unfold aX12_far
  rw [eX12_far]
  unfold gm_far
  split <;> rfl
theorem sX12_lacks (hg : 4000 ≤ g) : aX12_lacks g [.ref 0] (hm z w b) = some (some (.int (bI (decide (z 2 = 0)))), hm z w b) := by
  obtain ⟨f, rfl⟩ : ∃ f, g = f + 1 := ⟨g - 1, by omega⟩
  unfold aX12_lacks
  rw [eX12_lacks]
  simp only [Option.bind_some, Option.bind_none, ah_rI_s, ah_rL_s, ah_rV_s, hm_vI, hm_fr0, hm_li0, hm_ai0, hm_si0, hm_fi1, hm_sv1, hm_fi2, hm_sv2, hm_fi3, hm_sv3, hm_fi4, hm_sv4, hm_fi5, hm_sv5, hm_fi6, hm_sv6, hm_fi7, hm_sv7, hm_fr8, hm_li8, hm_ai8, hm_si8, hm_fr9, hm_li9, hm_ai9, hm_si9, hm_fr10, hm_li10, hm_ai10, hm_si10, hm_fr11, hm_li11, hm_ai11, hm_si11, hm_fr12, hm_li12, hm_ai12, hm_si12, hm_fr13, hm_li13, hm_ai13, hm_si13, hm_fr14, hm_li14, hm_ai14, hm_si14, hm_fi15, hm_sv15, hm_fr16, hm_li16, hm_ai16, hm_si16, hm_fr17, hm_li17, hm_ai17, hm_si17, hm_fi18, hm_sv18, hm_fi19, hm_sv19, hm_fi20, hm_sv20, hm_fi21, hm_sv21, hm_fi22, hm_sv22, hm_fi23, hm_sv23, hm_fi24, hm_sv24, hm_fr25, hm_li25, hm_ai25, hm_si25, hm_fr26, hm_li26, hm_ai26, hm_si26, hm_fr27, hm_li27, hm_ai27, hm_si27, hm_fr28, hm_li28, hm_ai28, hm_si28, hm_fl, hm_sl]
  by_cases h : z 2 = 0 <;> simp [h, bI]
theorem sX12_isSingle (hg : 4000 ≤ g) {n : Nat} (hn : n ≤ 7) (hz : z 2 = nI n) (x : Int32) : aX12_isSingle g [.ref 0, .int x] (hm z w b) = some (some (.int (bI (gm_is n x))), hm z w b) := by
  obtain ⟨f, rfl⟩ : ∃ f, g = f + 1 := ⟨g - 1, by omega⟩
  unfold aX12_isSingle
  rw [eX12_isSingle]
  simp only [Option.bind_some, Option.bind_none, ah_rI_s, ah_rL_s, ah_rV_s, hm_vI, hm_fr0, hm_li0, hm_ai0, hm_si0, hm_fi1, hm_sv1, hm_fi2, hm_sv2, hm_fi3, hm_sv3, hm_fi4, hm_sv4, hm_fi5, hm_sv5, hm_fi6, hm_sv6, hm_fi7, hm_sv7, hm_fr8, hm_li8, hm_ai8, hm_si8, hm_fr9, hm_li9, hm_ai9, hm_si9, hm_fr10, hm_li10, hm_ai10, hm_si10, hm_fr11, hm_li11, hm_ai11, hm_si11, hm_fr12, hm_li12, hm_ai12, hm_si12, hm_fr13, hm_li13, hm_ai13, hm_si13, hm_fr14, hm_li14, hm_ai14, hm_si14, hm_fi15, hm_sv15, hm_fr16, hm_li16, hm_ai16, hm_si16, hm_fr17, hm_li17, hm_ai17, hm_si17, hm_fi18, hm_sv18, hm_fi19, hm_sv19, hm_fi20, hm_sv20, hm_fi21, hm_sv21, hm_fi22, hm_sv22, hm_fi23, hm_sv23, hm_fi24, hm_sv24, hm_fr25, hm_li25, hm_ai25, hm_si25, hm_fr26, hm_li26, hm_ai26, hm_si26, hm_fr27, hm_li27, hm_ai27, hm_si27, hm_fr28, hm_li28, hm_ai28, hm_si28, hm_fl, hm_sl]
  rw [sX12_in hg]
  have e : (x.toInt64 < 0 ∨ (z 2 - 1).toInt64 < x.toInt64) ↔ ¬ (0 ≤ x.toInt ∧ x.toInt < n) := by
    rw [show (0 : Int64) = (0 : Int32).toInt64 from rfl, i64_lt, i64_lt, hz]
    have e1 : (nI n - 1).toInt = (n : Int) - 1 := pk_sub_toInt (a := n) (b := 1) (by omega) (by omega)
    rw [e1, show (0 : Int32).toInt = 0 from rfl]
    omega
  simp only [Option.bind_some, Option.bind_none, ah_rI_s, ah_rL_s, ah_rV_s, e, gm_is]
  by_cases h1 : 0 ≤ x.toInt ∧ x.toInt < n <;> simp [h1, bI]
theorem sX12_isGlove (hg : 4000 ≤ g) (i : Nat) (hi : i < 7) : aX12_isGlove g [.ref 0, .int (nI i)] (hm z w b) = some (some (.int (bI (decide (mw_k w i = 1) || decide (mw_k w i = 4)))), hm z w b) := by
  obtain ⟨f, rfl⟩ : ∃ f, g = f + 1 := ⟨g - 1, by omega⟩
  unfold aX12_isGlove
  rw [eX12_isGlove]
  have h2 : ah_rd (w 8) 14 (nI (2 * i)) = some (mw_k w i) := ah_rdN (by omega) (by decide)
  simp only [Option.bind_some, Option.bind_none, ah_rI_s, ah_rL_s, ah_rV_s, hm_vI, hm_fr0, hm_li0, hm_ai0, hm_si0, hm_fi1, hm_sv1, hm_fi2, hm_sv2, hm_fi3, hm_sv3, hm_fi4, hm_sv4, hm_fi5, hm_sv5, hm_fi6, hm_sv6, hm_fi7, hm_sv7, hm_fr8, hm_li8, hm_ai8, hm_si8, hm_fr9, hm_li9, hm_ai9, hm_si9, hm_fr10, hm_li10, hm_ai10, hm_si10, hm_fr11, hm_li11, hm_ai11, hm_si11, hm_fr12, hm_li12, hm_ai12, hm_si12, hm_fr13, hm_li13, hm_ai13, hm_si13, hm_fr14, hm_li14, hm_ai14, hm_si14, hm_fi15, hm_sv15, hm_fr16, hm_li16, hm_ai16, hm_si16, hm_fr17, hm_li17, hm_ai17, hm_si17, hm_fi18, hm_sv18, hm_fi19, hm_sv19, hm_fi20, hm_sv20, hm_fi21, hm_sv21, hm_fi22, hm_sv22, hm_fi23, hm_sv23, hm_fi24, hm_sv24, hm_fr25, hm_li25, hm_ai25, hm_si25, hm_fr26, hm_li26, hm_ai26, hm_si26, hm_fr27, hm_li27, hm_ai27, hm_si27, hm_fr28, hm_li28, hm_ai28, hm_si28, hm_fl, hm_sl, nI_2, h2]
  by_cases h1 : mw_k w i = 1 <;> by_cases h3 : mw_k w i = 4 <;> simp [h1, h3, bI]
end MS1
