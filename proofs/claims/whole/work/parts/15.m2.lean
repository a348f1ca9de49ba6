/-! the reference: loops over the singles -/
theorem gm_loop {α : Type} {n : Nat} (c d : Nat) (run : Nat → Nat → α → Option ah_R) (st : α → Nat → α) (fin : α → Option ah_R) (P : Nat → α → Prop) (hx : ∀ F a, d ≤ F → P n a → run F n a = fin a)
    (hs : ∀ F i a, c ≤ F → i < n → P i a → ∃ F2, F ≤ F2 + c ∧ run F i a = run F2 (i + 1) (st a i) ∧ P (i + 1) (st a i)) : ∀ k i a F, i + k = n → P i a → c * k + d ≤ F → run F i a = fin (gm_lp st k i a) := by
  intro k
  induction k with
  | zero =>
    intro i a F hi hP hF
    have e : i = n := by omega
    subst e
    exact hx F a (by omega) hP
  | succ k ih =>
    intro i a F hi hP hF
    have e : c * (k + 1) = c * k + c := Nat.mul_succ c k
    obtain ⟨F2, h1, h2, h3⟩ := hs F i a (by omega) (by omega) hP
    rw [h2, gm_lp_s]
    exact ih (i + 1) _ F2 (by omega) h3 (by omega)
theorem i32_a0 (x : Int32) : x + 0 = x := by simp
theorem nI_lt10 {i : Nat} (hi : i < 1000) : (nI i < 10) = (i < 10) := nI_lti (b := 10) hi (by omega)
theorem nI_lt6 {i : Nat} (hi : i < 1000) : (nI i < 6) = (i < 6) := nI_lti (b := 6) hi (by omega)
theorem nI_lt7 {i : Nat} (hi : i < 1000) : (nI i < 7) = (i < 7) := nI_lti (b := 7) hi (by omega)
theorem nI_lt20 {i : Nat} (hi : i < 1000) : (nI i < 20) = (i < 20) := nI_lti (b := 20) hi (by omega)
def gm_sh (p : Bool) (x y : Int32) : Int32 := if p = true then x else y
/-- -1, or one of seven -/
def gm_ok (t : Int32) : Prop := t = -1 ∨ ∃ j : Nat, j < 7 ∧ t = nI j
theorem gm_ok_ne {j : Nat} (hj : j < 1000) : (nI j = -1) = False := by
  refine eq_false (fun e => ?_)
  have := congrArg Int32.toInt e
  rw [nI_toInt (by omega)] at this
  have h2 : (-1 : Int32).toInt = -1 := rfl
  omega
def gm_pr (mb : Nat → Nat → Bool) (lk : Nat → Nat → Int32) (a n : Nat) : Int32 := gm_lp (fun t j => if (mb a j && gm_pf lk a j t) = true then nI j else t) n 0 (-1)
def gm_sf (mb : Nat → Nat → Bool) (st mt : Nat → Int32) (n a : Nat) (s : Int32) : Int32 := gm_lp (fun x j => if (mb a j && (decide (mt j = -1) && decide (gm_far (st j) s < 2))) = true then x + 1 else x) n 0 0
def gm_sp (sf : Int32 → Int32) : Nat := gm_lp (fun t j => if sf (nI t) < sf (nI j) then j else t) 5 1 0
def gm_prs (r : Nat → Int32) (n : Nat) : Int32 := gm_lp (fun x j => if nI j < r j then x + 1 else x) n 0 0
def gm_ln (lk : Nat → Nat → Int32) (mt : Nat → Int32) (n : Nat) : Int32 := gm_lp (fun x j => if nI j < mt j then x + lk j (mt j).toNatClampNeg else x) n 0 0
def gm_al (hd mt : Nat → Int32) (n : Nat) (s : Int32) : Int32 := gm_lp (fun x j => if (decide (mt j = -1) && decide (hd j = s)) = true then x + 1 else x) n 0 0
def gm_on (v : Int32) : Int32 := gm_lp (fun x j => x + ((v >>> (nI j &&& 31)) &&& 1)) 10 0 0
abbrev mw_mb (w : Nat → Nat → Int32) : Nat → Nat → Bool := gm_mb (mw_k w) (mw_h w) (w 9)
abbrev mw_lk (w : Nat → Nat → Int32) : Nat → Nat → Int32 := gm_lk (mw_k w) (mw_h w) (w 9)
section MS3
variable {g : Nat} (z : Nat → Int32) (w : Nat → Nat → Int32) (b : Int64)
theorem sX12_preferredOf (hg : 4000 ≤ g) {n : Nat} (hn : n ≤ 7) (hz : z 2 = nI n) (a : Nat) (ha : a < 7) : aX12_preferredOf g [.ref 0, .int (nI a)] (hm z w b) = some (some (.int (gm_pr (mw_mb w) (mw_lk w) a n)), hm z w b) := by
  have loop := gm_loop (n := n) 1 1 (fun F i t => ah_run (kX12_preferredOf g) F 4 [(0, .ref 0), (1, .int (nI a)), (2, .int t), (3, .int (nI i))] [] (hm z w b)) (fun t j => if (mw_mb w a j && gm_pf (mw_lk w) a j t) = true then nI j else t) (fun t => some (some (.int t), hm z w b)) (fun _ t => gm_ok t) (fun F t hF hP => by
      obtain ⟨f, rfl⟩ : ∃ f, F = f + 1 := ⟨F - 1, by omega⟩
      skip
      rw [rX12_preferredOf_4]
      simp only [Option.bind_some, Option.bind_none, ah_rI_s, ah_rL_s, ah_rV_s, hm_vI, hm_fr0, hm_li0, hm_ai0, hm_si0, hm_fi1, hm_sv1, hm_fi2, hm_sv2, hm_fi3, hm_sv3, hm_fi4, hm_sv4, hm_fi5, hm_sv5, hm_fi6, hm_sv6, hm_fi7, hm_sv7, hm_fr8, hm_li8, hm_ai8, hm_si8, hm_fr9, hm_li9, hm_ai9, hm_si9, hm_fr10, hm_li10, hm_ai10, hm_si10, hm_fr11, hm_li11, hm_ai11, hm_si11, hm_fr12, hm_li12, hm_ai12, hm_si12, hm_fr13, hm_li13, hm_ai13, hm_si13, hm_fr14, hm_li14, hm_ai14, hm_si14, hm_fi15, hm_sv15, hm_fr16, hm_li16, hm_ai16, hm_si16, hm_fr17, hm_li17, hm_ai17, hm_si17, hm_fi18, hm_sv18, hm_fi19, hm_sv19, hm_fi20, hm_sv20, hm_fi21, hm_sv21, hm_fi22, hm_sv22, hm_fi23, hm_sv23, hm_fi24, hm_sv24, hm_fr25, hm_li25, hm_ai25, hm_si25, hm_fr26, hm_li26, hm_ai26, hm_si26, hm_fr27, hm_li27, hm_ai27, hm_si27, hm_fr28, hm_li28, hm_ai28, hm_si28, hm_fl, hm_sl, hz, nI_lti (show n < 1000 by omega) (show n < 1000 by omega), Nat.lt_irrefl, if_false]) (fun F i t hF hi hP => by
      obtain ⟨f, rfl⟩ : ∃ f, F = f + 1 := ⟨F - 1, by omega⟩
      refine ⟨f, by omega, ?_, ?_⟩
      · skip
        rw [rX12_preferredOf_4]
        simp only [Option.bind_some, Option.bind_none, ah_rI_s, ah_rL_s, ah_rV_s, hm_vI, hm_fr0, hm_li0, hm_ai0, hm_si0, hm_fi1, hm_sv1, hm_fi2, hm_sv2, hm_fi3, hm_sv3, hm_fi4, hm_sv4, hm_fi5, hm_sv5, hm_fi6, hm_sv6, hm_fi7, hm_sv7, hm_fr8, hm_li8, hm_ai8, hm_si8, hm_fr9, hm_li9, hm_ai9, hm_si9, hm_fr10, hm_li10, hm_ai10, hm_si10, hm_fr11, hm_li11, hm_ai11, hm_si11, hm_fr12, hm_li12, hm_ai12, hm_si12, hm_fr13, hm_li13, hm_ai13, hm_si13, hm_fr14, hm_li14, hm_ai14, hm_si14, hm_fi15, hm_sv15, hm_fr16, hm_li16, hm_ai16, hm_si16, hm_fr17, hm_li17, hm_ai17, hm_si17, hm_fi18, hm_sv18, hm_fi19, hm_sv19, hm_fi20, hm_sv20, hm_fi21, hm_sv21, hm_fi22, hm_sv22, hm_fi23, hm_sv23, hm_fi24, hm_sv24, hm_fr25, hm_li25, hm_ai25, hm_si25, hm_fr26, hm_li26, hm_ai26, hm_si26, hm_fr27, hm_li27, hm_ai27, hm_si27, hm_fr28, hm_li28, hm_ai28, hm_si28, hm_fl, hm_sl, hz, nI_lti (show i < 1000 by omega) (show n < 1000 by omega), hi, if_true, sX12_mayBe z w b hg a i ha (by omega), sX12_prefers z w b hg a i t ha (by omega) hP, bI_0, nI_1]
        cases c1 : gm_mb (mw_k w) (mw_h w) (w 9) a i <;> cases c2 : gm_pf (gm_lk (mw_k w) (mw_h w) (w 9)) a i t <;> simp [mw_mb, mw_lk, c1, c2]
      · skip
        split
        · exact Or.inr ⟨i, by omega, rfl⟩
        · exact hP)
  obtain ⟨f, rfl⟩ : ∃ f, g = f + 20 := ⟨g - 20, by omega⟩
  unfold aX12_preferredOf
  rw [eX12_preferredOf]
  exact loop n 0 (-1) (f + 19) (by omega) (Or.inl rfl) (by omega)
theorem sX12_seenFrom (hg : 4000 ≤ g) {n : Nat} (hn : n ≤ 7) (hz : z 2 = nI n) (a : Nat) (s : Int32) (ha : a < 7) : aX12_seenFrom g [.ref 0, .int (nI a), .int s] (hm z w b) = some (some (.int (gm_sf (mw_mb w) (w 10) (w 11) n a s)), hm z w b) := by
  have loop := gm_loop (n := n) 1 1 (fun F i t => ah_run (kX12_seenFrom g) F 5 [(0, .ref 0), (1, .int (nI a)), (2, .int s), (3, .int t), (4, .int (nI i))] [] (hm z w b)) (fun x j => if (mw_mb w a j && (decide (w 11 j = -1) && decide (gm_far (w 10 j) s < 2))) = true then x + 1 else x) (fun t => some (some (.int t), hm z w b)) (fun _ _ => True) (fun F t hF hP => by
      obtain ⟨f, rfl⟩ : ∃ f, F = f + 1 := ⟨F - 1, by omega⟩
      skip
      rw [rX12_seenFrom_5]
      simp only [Option.bind_some, Option.bind_none, ah_rI_s, ah_rL_s, ah_rV_s, hm_vI, hm_fr0, hm_li0, hm_ai0, hm_si0, hm_fi1, hm_sv1, hm_fi2, hm_sv2, hm_fi3, hm_sv3, hm_fi4, hm_sv4, hm_fi5, hm_sv5, hm_fi6, hm_sv6, hm_fi7, hm_sv7, hm_fr8, hm_li8, hm_ai8, hm_si8, hm_fr9, hm_li9, hm_ai9, hm_si9, hm_fr10, hm_li10, hm_ai10, hm_si10, hm_fr11, hm_li11, hm_ai11, hm_si11, hm_fr12, hm_li12, hm_ai12, hm_si12, hm_fr13, hm_li13, hm_ai13, hm_si13, hm_fr14, hm_li14, hm_ai14, hm_si14, hm_fi15, hm_sv15, hm_fr16, hm_li16, hm_ai16, hm_si16, hm_fr17, hm_li17, hm_ai17, hm_si17, hm_fi18, hm_sv18, hm_fi19, hm_sv19, hm_fi20, hm_sv20, hm_fi21, hm_sv21, hm_fi22, hm_sv22, hm_fi23, hm_sv23, hm_fi24, hm_sv24, hm_fr25, hm_li25, hm_ai25, hm_si25, hm_fr26, hm_li26, hm_ai26, hm_si26, hm_fr27, hm_li27, hm_ai27, hm_si27, hm_fr28, hm_li28, hm_ai28, hm_si28, hm_fl, hm_sl, hz, nI_lti (show n < 1000 by omega) (show n < 1000 by omega), Nat.lt_irrefl, if_false]) (fun F i t hF hi hP => by
      obtain ⟨f, rfl⟩ : ∃ f, F = f + 1 := ⟨F - 1, by omega⟩
      refine ⟨f, by omega, ?_, trivial⟩
      skip
      rw [rX12_seenFrom_5]
      have h1 : ah_rd (w 11) 7 (nI i) = some (w 11 i) := ah_rdN (by omega) (by decide)
      have h2 : ah_rd (w 10) 7 (nI i) = some (w 10 i) := ah_rdN (by omega) (by decide)
      simp only [Option.bind_some, Option.bind_none, ah_rI_s, ah_rL_s, ah_rV_s, hm_vI, hm_fr0, hm_li0, hm_ai0, hm_si0, hm_fi1, hm_sv1, hm_fi2, hm_sv2, hm_fi3, hm_sv3, hm_fi4, hm_sv4, hm_fi5, hm_sv5, hm_fi6, hm_sv6, hm_fi7, hm_sv7, hm_fr8, hm_li8, hm_ai8, hm_si8, hm_fr9, hm_li9, hm_ai9, hm_si9, hm_fr10, hm_li10, hm_ai10, hm_si10, hm_fr11, hm_li11, hm_ai11, hm_si11, hm_fr12, hm_li12, hm_ai12, hm_si12, hm_fr13, hm_li13, hm_ai13, hm_si13, hm_fr14, hm_li14, hm_ai14, hm_si14, hm_fi15, hm_sv15, hm_fr16, hm_li16, hm_ai16, hm_si16, hm_fr17, hm_li17, hm_ai17, hm_si17, hm_fi18, hm_sv18, hm_fi19, hm_sv19, hm_fi20, hm_sv20, hm_fi21, hm_sv21, hm_fi22, hm_sv22, hm_fi23, hm_sv23, hm_fi24, hm_sv24, hm_fr25, hm_li25, hm_ai25, hm_si25, hm_fr26, hm_li26, hm_ai26, hm_si26, hm_fr27, hm_li27, hm_ai27, hm_si27, hm_fr28, hm_li28, hm_ai28, hm_si28, hm_fl, hm_sl, hz, nI_lti (show i < 1000 by omega) (show n < 1000 by omega), hi, if_true, sX12_mayBe z w b hg a i ha (by omega), sX12_far hg, h1, h2, bI_0, nI_1, i32_a0]
      cases c1 : gm_mb (mw_k w) (mw_h w) (w 9) a i <;> by_cases c2 : w 11 i = -1 <;> by_cases c3 : gm_far (w 10 i) s < 2 <;> simp [mw_mb, c1, c2, c3])
  obtain ⟨f, rfl⟩ : ∃ f, g = f + 20 := ⟨g - 20, by omega⟩
  unfold aX12_seenFrom
  rw [eX12_seenFrom]
  exact loop n 0 0 (f + 19) (by omega) trivial (by omega)
theorem sX12_spikeOf (hg : 4000 ≤ g) {n : Nat} (hn : n ≤ 7) (hz : z 2 = nI n) (a : Nat) (v : Int32) (ha : a < 7) : aX12_spikeOf g [.ref 0, .int (nI a), .int v] (hm z w b) = some (some (.int (if v = 7 then nI (gm_sp (gm_sf (mw_mb w) (w 10) (w 11) n a)) else gm_sf (mw_mb w) (w 10) (w 11) n a (nI (gm_sp (gm_sf (mw_mb w) (w 10) (w 11) n a))))), hm z w b) := by
  have loop := gm_loop (n := 6) 1 1 (fun F i t => ah_run (kX12_spikeOf g) F 5 [(0, .ref 0), (1, .int (nI a)), (2, .int v), (3, .int (nI t)), (4, .int (nI i))] [] (hm z w b)) (fun t j => if gm_sf (mw_mb w) (w 10) (w 11) n a (nI t) < gm_sf (mw_mb w) (w 10) (w 11) n a (nI j) then j else t) (fun t => some (some (.int (if v = 7 then nI t else gm_sf (mw_mb w) (w 10) (w 11) n a (nI t))), hm z w b)) (fun _ _ => True) (fun F t hF hP => by
      obtain ⟨f, rfl⟩ : ∃ f, F = f + 1 := ⟨F - 1, by omega⟩
      skip
      rw [rX12_spikeOf_5]
      simp only [Option.bind_some, Option.bind_none, ah_rI_s, ah_rL_s, ah_rV_s, hm_vI, hm_fr0, hm_li0, hm_ai0, hm_si0, hm_fi1, hm_sv1, hm_fi2, hm_sv2, hm_fi3, hm_sv3, hm_fi4, hm_sv4, hm_fi5, hm_sv5, hm_fi6, hm_sv6, hm_fi7, hm_sv7, hm_fr8, hm_li8, hm_ai8, hm_si8, hm_fr9, hm_li9, hm_ai9, hm_si9, hm_fr10, hm_li10, hm_ai10, hm_si10, hm_fr11, hm_li11, hm_ai11, hm_si11, hm_fr12, hm_li12, hm_ai12, hm_si12, hm_fr13, hm_li13, hm_ai13, hm_si13, hm_fr14, hm_li14, hm_ai14, hm_si14, hm_fi15, hm_sv15, hm_fr16, hm_li16, hm_ai16, hm_si16, hm_fr17, hm_li17, hm_ai17, hm_si17, hm_fi18, hm_sv18, hm_fi19, hm_sv19, hm_fi20, hm_sv20, hm_fi21, hm_sv21, hm_fi22, hm_sv22, hm_fi23, hm_sv23, hm_fi24, hm_sv24, hm_fr25, hm_li25, hm_ai25, hm_si25, hm_fr26, hm_li26, hm_ai26, hm_si26, hm_fr27, hm_li27, hm_ai27, hm_si27, hm_fr28, hm_li28, hm_ai28, hm_si28, hm_fl, hm_sl, nI_lt6 (show 6 < 1000 by omega), Nat.lt_irrefl, if_false, sX12_seenFrom z w b hg hn hz a _ ha]
      by_cases c : v = 7 <;> simp [c]) (fun F i t hF hi hP => by
      obtain ⟨f, rfl⟩ : ∃ f, F = f + 1 := ⟨F - 1, by omega⟩
      refine ⟨f, by omega, ?_, trivial⟩
      skip
      rw [rX12_spikeOf_5]
      simp only [Option.bind_some, Option.bind_none, ah_rI_s, ah_rL_s, ah_rV_s, hm_vI, hm_fr0, hm_li0, hm_ai0, hm_si0, hm_fi1, hm_sv1, hm_fi2, hm_sv2, hm_fi3, hm_sv3, hm_fi4, hm_sv4, hm_fi5, hm_sv5, hm_fi6, hm_sv6, hm_fi7, hm_sv7, hm_fr8, hm_li8, hm_ai8, hm_si8, hm_fr9, hm_li9, hm_ai9, hm_si9, hm_fr10, hm_li10, hm_ai10, hm_si10, hm_fr11, hm_li11, hm_ai11, hm_si11, hm_fr12, hm_li12, hm_ai12, hm_si12, hm_fr13, hm_li13, hm_ai13, hm_si13, hm_fr14, hm_li14, hm_ai14, hm_si14, hm_fi15, hm_sv15, hm_fr16, hm_li16, hm_ai16, hm_si16, hm_fr17, hm_li17, hm_ai17, hm_si17, hm_fi18, hm_sv18, hm_fi19, hm_sv19, hm_fi20, hm_sv20, hm_fi21, hm_sv21, hm_fi22, hm_sv22, hm_fi23, hm_sv23, hm_fi24, hm_sv24, hm_fr25, hm_li25, hm_ai25, hm_si25, hm_fr26, hm_li26, hm_ai26, hm_si26, hm_fr27, hm_li27, hm_ai27, hm_si27, hm_fr28, hm_li28, hm_ai28, hm_si28, hm_fl, hm_sl, nI_lt6 (show i < 1000 by omega), hi, if_true, sX12_seenFrom z w b hg hn hz a _ ha, nI_1]
      split <;> rfl)
  obtain ⟨f, rfl⟩ : ∃ f, g = f + 20 := ⟨g - 20, by omega⟩
  unfold aX12_spikeOf
  rw [eX12_spikeOf]
  exact loop 5 1 0 (f + 19) (by omega) trivial (by omega)
theorem sX12_ones (hg : 4000 ≤ g) (v : Int32) (h : ah_H) : aX12_ones g [.int v] h = some (some (.int (gm_on v)), h) := by
  have loop := gm_loop (n := 10) 1 1 (fun F i t => ah_run (kX12_ones g) F 4 [(0, .int v), (1, .int t), (2, .int (nI i))] [] h) (fun x j => x + ((v >>> (nI j &&& 31)) &&& 1)) (fun t => some (some (.int t), h)) (fun _ _ => True) (fun F t hF hP => by
      obtain ⟨f, rfl⟩ : ∃ f, F = f + 1 := ⟨F - 1, by omega⟩
      skip
      rw [rX12_ones_4]
      simp only [nI_lt10 (show 10 < 1000 by omega), Nat.lt_irrefl, if_false]) (fun F i t hF hi hP => by
      obtain ⟨f, rfl⟩ : ∃ f, F = f + 1 := ⟨F - 1, by omega⟩
      refine ⟨f, by omega, ?_, trivial⟩
      skip
      rw [rX12_ones_4]
      simp only [nI_lt10 (show i < 1000 by omega), hi, if_true, nI_1])
  obtain ⟨f, rfl⟩ : ∃ f, g = f + 20 := ⟨g - 20, by omega⟩
  unfold aX12_ones
  rw [eX12_ones]
  exact loop 10 0 0 (f + 19) (by omega) trivial (by omega)
theorem sX12_pairsOf (hg : 4000 ≤ g) {n : Nat} (hn : n ≤ 7) (hz : z 2 = nI n) (pl : Nat) (r : Nat → Int32) (hr : ∀ i, ah_li (hm z w b) pl 0 i = ah_rd r 7 i) : aX12_pairsOf g [.ref 0, .ref pl] (hm z w b) = some (some (.int (gm_prs r n)), hm z w b) := by
  have loop := gm_loop (n := n) 1 1 (fun F i t => ah_run (kX12_pairsOf g) F 4 [(0, .ref 0), (1, .ref pl), (2, .int t), (3, .int (nI i))] [] (hm z w b)) (fun x j => if nI j < r j then x + 1 else x) (fun t => some (some (.int t), hm z w b)) (fun _ _ => True) (fun F t hF hP => by
      obtain ⟨f, rfl⟩ : ∃ f, F = f + 1 := ⟨F - 1, by omega⟩
      skip
      rw [rX12_pairsOf_4]
      simp only [Option.bind_some, Option.bind_none, ah_rI_s, ah_rL_s, ah_rV_s, hm_vI, hm_fr0, hm_li0, hm_ai0, hm_si0, hm_fi1, hm_sv1, hm_fi2, hm_sv2, hm_fi3, hm_sv3, hm_fi4, hm_sv4, hm_fi5, hm_sv5, hm_fi6, hm_sv6, hm_fi7, hm_sv7, hm_fr8, hm_li8, hm_ai8, hm_si8, hm_fr9, hm_li9, hm_ai9, hm_si9, hm_fr10, hm_li10, hm_ai10, hm_si10, hm_fr11, hm_li11, hm_ai11, hm_si11, hm_fr12, hm_li12, hm_ai12, hm_si12, hm_fr13, hm_li13, hm_ai13, hm_si13, hm_fr14, hm_li14, hm_ai14, hm_si14, hm_fi15, hm_sv15, hm_fr16, hm_li16, hm_ai16, hm_si16, hm_fr17, hm_li17, hm_ai17, hm_si17, hm_fi18, hm_sv18, hm_fi19, hm_sv19, hm_fi20, hm_sv20, hm_fi21, hm_sv21, hm_fi22, hm_sv22, hm_fi23, hm_sv23, hm_fi24, hm_sv24, hm_fr25, hm_li25, hm_ai25, hm_si25, hm_fr26, hm_li26, hm_ai26, hm_si26, hm_fr27, hm_li27, hm_ai27, hm_si27, hm_fr28, hm_li28, hm_ai28, hm_si28, hm_fl, hm_sl, hz, nI_lti (show n < 1000 by omega) (show n < 1000 by omega), Nat.lt_irrefl, if_false]) (fun F i t hF hi hP => by
      obtain ⟨f, rfl⟩ : ∃ f, F = f + 1 := ⟨F - 1, by omega⟩
      refine ⟨f, by omega, ?_, trivial⟩
      skip
      rw [rX12_pairsOf_4]
      have h1 : ah_rd r 7 (nI i) = some (r i) := ah_rdN (by omega) (by decide)
      simp only [Option.bind_some, Option.bind_none, ah_rI_s, ah_rL_s, ah_rV_s, hm_vI, hm_fr0, hm_li0, hm_ai0, hm_si0, hm_fi1, hm_sv1, hm_fi2, hm_sv2, hm_fi3, hm_sv3, hm_fi4, hm_sv4, hm_fi5, hm_sv5, hm_fi6, hm_sv6, hm_fi7, hm_sv7, hm_fr8, hm_li8, hm_ai8, hm_si8, hm_fr9, hm_li9, hm_ai9, hm_si9, hm_fr10, hm_li10, hm_ai10, hm_si10, hm_fr11, hm_li11, hm_ai11, hm_si11, hm_fr12, hm_li12, hm_ai12, hm_si12, hm_fr13, hm_li13, hm_ai13, hm_si13, hm_fr14, hm_li14, hm_ai14, hm_si14, hm_fi15, hm_sv15, hm_fr16, hm_li16, hm_ai16, hm_si16, hm_fr17, hm_li17, hm_ai17, hm_si17, hm_fi18, hm_sv18, hm_fi19, hm_sv19, hm_fi20, hm_sv20, hm_fi21, hm_sv21, hm_fi22, hm_sv22, hm_fi23, hm_sv23, hm_fi24, hm_sv24, hm_fr25, hm_li25, hm_ai25, hm_si25, hm_fr26, hm_li26, hm_ai26, hm_si26, hm_fr27, hm_li27, hm_ai27, hm_si27, hm_fr28, hm_li28, hm_ai28, hm_si28, hm_fl, hm_sl, hz, nI_lti (show i < 1000 by omega) (show n < 1000 by omega), hi, if_true, hr, h1, nI_1, i32_a0]
      split <;> rfl)
  obtain ⟨f, rfl⟩ : ∃ f, g = f + 20 := ⟨g - 20, by omega⟩
  unfold aX12_pairsOf
  rw [eX12_pairsOf]
  exact loop n 0 0 (f + 19) (by omega) trivial (by omega)
theorem sX12_likenessNow (hg : 4000 ≤ g) {n : Nat} (hn : n ≤ 7) (hz : z 2 = nI n) (hm1 : ∀ i, i < n → gm_ok (w 11 i)) : aX12_likenessNow g [.ref 0] (hm z w b) = some (some (.int (gm_ln (mw_lk w) (w 11) n)), hm z w b) := by
  have loop := gm_loop (n := n) 1 1 (fun F i t => ah_run (kX12_likenessNow g) F 4 [(0, .ref 0), (1, .int t), (2, .int (nI i))] [] (hm z w b)) (fun x j => if nI j < w 11 j then x + mw_lk w j (w 11 j).toNatClampNeg else x) (fun t => some (some (.int t), hm z w b)) (fun _ _ => True) (fun F t hF hP => by
      obtain ⟨f, rfl⟩ : ∃ f, F = f + 1 := ⟨F - 1, by omega⟩
      skip
      rw [rX12_likenessNow_4]
      simp only [Option.bind_some, Option.bind_none, ah_rI_s, ah_rL_s, ah_rV_s, hm_vI, hm_fr0, hm_li0, hm_ai0, hm_si0, hm_fi1, hm_sv1, hm_fi2, hm_sv2, hm_fi3, hm_sv3, hm_fi4, hm_sv4, hm_fi5, hm_sv5, hm_fi6, hm_sv6, hm_fi7, hm_sv7, hm_fr8, hm_li8, hm_ai8, hm_si8, hm_fr9, hm_li9, hm_ai9, hm_si9, hm_fr10, hm_li10, hm_ai10, hm_si10, hm_fr11, hm_li11, hm_ai11, hm_si11, hm_fr12, hm_li12, hm_ai12, hm_si12, hm_fr13, hm_li13, hm_ai13, hm_si13, hm_fr14, hm_li14, hm_ai14, hm_si14, hm_fi15, hm_sv15, hm_fr16, hm_li16, hm_ai16, hm_si16, hm_fr17, hm_li17, hm_ai17, hm_si17, hm_fi18, hm_sv18, hm_fi19, hm_sv19, hm_fi20, hm_sv20, hm_fi21, hm_sv21, hm_fi22, hm_sv22, hm_fi23, hm_sv23, hm_fi24, hm_sv24, hm_fr25, hm_li25, hm_ai25, hm_si25, hm_fr26, hm_li26, hm_ai26, hm_si26, hm_fr27, hm_li27, hm_ai27, hm_si27, hm_fr28, hm_li28, hm_ai28, hm_si28, hm_fl, hm_sl, hz, nI_lti (show n < 1000 by omega) (show n < 1000 by omega), Nat.lt_irrefl, if_false]) (fun F i t hF hi hP => by
      obtain ⟨f, rfl⟩ : ∃ f, F = f + 1 := ⟨F - 1, by omega⟩
      refine ⟨f, by omega, ?_, trivial⟩
      skip
      rw [rX12_likenessNow_4]
      have h1 : ah_rd (w 11) 7 (nI i) = some (w 11 i) := ah_rdN (by omega) (by decide)
      simp only [Option.bind_some, Option.bind_none, ah_rI_s, ah_rL_s, ah_rV_s, hm_vI, hm_fr0, hm_li0, hm_ai0, hm_si0, hm_fi1, hm_sv1, hm_fi2, hm_sv2, hm_fi3, hm_sv3, hm_fi4, hm_sv4, hm_fi5, hm_sv5, hm_fi6, hm_sv6, hm_fi7, hm_sv7, hm_fr8, hm_li8, hm_ai8, hm_si8, hm_fr9, hm_li9, hm_ai9, hm_si9, hm_fr10, hm_li10, hm_ai10, hm_si10, hm_fr11, hm_li11, hm_ai11, hm_si11, hm_fr12, hm_li12, hm_ai12, hm_si12, hm_fr13, hm_li13, hm_ai13, hm_si13, hm_fr14, hm_li14, hm_ai14, hm_si14, hm_fi15, hm_sv15, hm_fr16, hm_li16, hm_ai16, hm_si16, hm_fr17, hm_li17, hm_ai17, hm_si17, hm_fi18, hm_sv18, hm_fi19, hm_sv19, hm_fi20, hm_sv20, hm_fi21, hm_sv21, hm_fi22, hm_sv22, hm_fi23, hm_sv23, hm_fi24, hm_sv24, hm_fr25, hm_li25, hm_ai25, hm_si25, hm_fr26, hm_li26, hm_ai26, hm_si26, hm_fr27, hm_li27, hm_ai27, hm_si27, hm_fr28, hm_li28, hm_ai28, hm_si28, hm_fl, hm_sl, hz, nI_lti (show i < 1000 by omega) (show n < 1000 by omega), hi, if_true, h1, nI_1, i32_a0]
      by_cases c : nI i < w 11 i
      · rcases hm1 i hi with e | ⟨j, hj, e⟩
        · rw [e] at c
          exact absurd c (by rw [i32_lt, nI_toInt (by omega)]; have h2 : (-1 : Int32).toInt = -1 := rfl; omega)
        · simp only [c, if_true]
          rw [e, sX12_likenessOf z w b hg i j (by omega) hj, nI_clamp (by omega)]
          rfl
      · simp only [c, if_false])
  obtain ⟨f, rfl⟩ : ∃ f, g = f + 20 := ⟨g - 20, by omega⟩
  unfold aX12_likenessNow
  rw [eX12_likenessNow]
  exact loop n 0 0 (f + 19) (by omega) trivial (by omega)
theorem sX12_mayTwos (hg : 4000 ≤ g) {n : Nat} (hn : n ≤ 7) (hz : z 2 = nI n) : aX12_mayTwos g [.ref 0] (hm z w b) = some (some (.int (gm_lp (fun x j => x + gm_on (gm_bits (mw_mb w j) n)) n 0 0 / 2)), hm z w b) := by
  have loop := gm_loop (n := n) 1 1 (fun F i t => ah_run (kX12_mayTwos g) F 4 [(0, .ref 0), (1, .int t), (2, .int (nI i))] [] (hm z w b)) (fun x j => x + gm_on (gm_bits (mw_mb w j) n)) (fun t => some (some (.int (t / 2)), hm z w b)) (fun _ _ => True) (fun F t hF hP => by
      obtain ⟨f, rfl⟩ : ∃ f, F = f + 1 := ⟨F - 1, by omega⟩
      skip
      rw [rX12_mayTwos_4]
      simp only [Option.bind_some, Option.bind_none, ah_rI_s, ah_rL_s, ah_rV_s, hm_vI, hm_fr0, hm_li0, hm_ai0, hm_si0, hm_fi1, hm_sv1, hm_fi2, hm_sv2, hm_fi3, hm_sv3, hm_fi4, hm_sv4, hm_fi5, hm_sv5, hm_fi6, hm_sv6, hm_fi7, hm_sv7, hm_fr8, hm_li8, hm_ai8, hm_si8, hm_fr9, hm_li9, hm_ai9, hm_si9, hm_fr10, hm_li10, hm_ai10, hm_si10, hm_fr11, hm_li11, hm_ai11, hm_si11, hm_fr12, hm_li12, hm_ai12, hm_si12, hm_fr13, hm_li13, hm_ai13, hm_si13, hm_fr14, hm_li14, hm_ai14, hm_si14, hm_fi15, hm_sv15, hm_fr16, hm_li16, hm_ai16, hm_si16, hm_fr17, hm_li17, hm_ai17, hm_si17, hm_fi18, hm_sv18, hm_fi19, hm_sv19, hm_fi20, hm_sv20, hm_fi21, hm_sv21, hm_fi22, hm_sv22, hm_fi23, hm_sv23, hm_fi24, hm_sv24, hm_fr25, hm_li25, hm_ai25, hm_si25, hm_fr26, hm_li26, hm_ai26, hm_si26, hm_fr27, hm_li27, hm_ai27, hm_si27, hm_fr28, hm_li28, hm_ai28, hm_si28, hm_fl, hm_sl, hz, nI_lti (show n < 1000 by omega) (show n < 1000 by omega), Nat.lt_irrefl, if_false]
      rfl) (fun F i t hF hi hP => by
      obtain ⟨f, rfl⟩ : ∃ f, F = f + 1 := ⟨F - 1, by omega⟩
      refine ⟨f, by omega, ?_, trivial⟩
      skip
      rw [rX12_mayTwos_4]
      simp only [Option.bind_some, Option.bind_none, ah_rI_s, ah_rL_s, ah_rV_s, hm_vI, hm_fr0, hm_li0, hm_ai0, hm_si0, hm_fi1, hm_sv1, hm_fi2, hm_sv2, hm_fi3, hm_sv3, hm_fi4, hm_sv4, hm_fi5, hm_sv5, hm_fi6, hm_sv6, hm_fi7, hm_sv7, hm_fr8, hm_li8, hm_ai8, hm_si8, hm_fr9, hm_li9, hm_ai9, hm_si9, hm_fr10, hm_li10, hm_ai10, hm_si10, hm_fr11, hm_li11, hm_ai11, hm_si11, hm_fr12, hm_li12, hm_ai12, hm_si12, hm_fr13, hm_li13, hm_ai13, hm_si13, hm_fr14, hm_li14, hm_ai14, hm_si14, hm_fi15, hm_sv15, hm_fr16, hm_li16, hm_ai16, hm_si16, hm_fr17, hm_li17, hm_ai17, hm_si17, hm_fi18, hm_sv18, hm_fi19, hm_sv19, hm_fi20, hm_sv20, hm_fi21, hm_sv21, hm_fi22, hm_sv22, hm_fi23, hm_sv23, hm_fi24, hm_sv24, hm_fr25, hm_li25, hm_ai25, hm_si25, hm_fr26, hm_li26, hm_ai26, hm_si26, hm_fr27, hm_li27, hm_ai27, hm_si27, hm_fr28, hm_li28, hm_ai28, hm_si28, hm_fl, hm_sl, hz, nI_lti (show i < 1000 by omega) (show n < 1000 by omega), hi, if_true, sX12_mayBits z w b hg hn hz i (by omega), sX12_ones hg, nI_1])
  obtain ⟨f, rfl⟩ : ∃ f, g = f + 20 := ⟨g - 20, by omega⟩
  unfold aX12_mayTwos
  rw [eX12_mayTwos]
  exact loop n 0 0 (f + 19) (by omega) trivial (by omega)
theorem sX12_aloneOf (hg : 4000 ≤ g) {n : Nat} (hn : n ≤ 7) (hz : z 2 = nI n) (s : Int32) : aX12_aloneOf g [.ref 0, .int s] (hm z w b) = some (some (.int (gm_al (mw_h w) (w 11) n s)), hm z w b) := by
  have loop := gm_loop (n := n) 1 1 (fun F i t => ah_run (kX12_aloneOf g) F 4 [(0, .ref 0), (1, .int s), (2, .int t), (3, .int (nI i))] [] (hm z w b)) (fun x j => if (decide (w 11 j = -1) && decide (mw_h w j = s)) = true then x + 1 else x) (fun t => some (some (.int t), hm z w b)) (fun _ _ => True) (fun F t hF hP => by
      obtain ⟨f, rfl⟩ : ∃ f, F = f + 1 := ⟨F - 1, by omega⟩
      skip
      rw [rX12_aloneOf_4]
      simp only [Option.bind_some, Option.bind_none, ah_rI_s, ah_rL_s, ah_rV_s, hm_vI, hm_fr0, hm_li0, hm_ai0, hm_si0, hm_fi1, hm_sv1, hm_fi2, hm_sv2, hm_fi3, hm_sv3, hm_fi4, hm_sv4, hm_fi5, hm_sv5, hm_fi6, hm_sv6, hm_fi7, hm_sv7, hm_fr8, hm_li8, hm_ai8, hm_si8, hm_fr9, hm_li9, hm_ai9, hm_si9, hm_fr10, hm_li10, hm_ai10, hm_si10, hm_fr11, hm_li11, hm_ai11, hm_si11, hm_fr12, hm_li12, hm_ai12, hm_si12, hm_fr13, hm_li13, hm_ai13, hm_si13, hm_fr14, hm_li14, hm_ai14, hm_si14, hm_fi15, hm_sv15, hm_fr16, hm_li16, hm_ai16, hm_si16, hm_fr17, hm_li17, hm_ai17, hm_si17, hm_fi18, hm_sv18, hm_fi19, hm_sv19, hm_fi20, hm_sv20, hm_fi21, hm_sv21, hm_fi22, hm_sv22, hm_fi23, hm_sv23, hm_fi24, hm_sv24, hm_fr25, hm_li25, hm_ai25, hm_si25, hm_fr26, hm_li26, hm_ai26, hm_si26, hm_fr27, hm_li27, hm_ai27, hm_si27, hm_fr28, hm_li28, hm_ai28, hm_si28, hm_fl, hm_sl, hz, nI_lti (show n < 1000 by omega) (show n < 1000 by omega), Nat.lt_irrefl, if_false]) (fun F i t hF hi hP => by
      obtain ⟨f, rfl⟩ : ∃ f, F = f + 1 := ⟨F - 1, by omega⟩
      refine ⟨f, by omega, ?_, trivial⟩
      skip
      rw [rX12_aloneOf_4]
      have h1 : ah_rd (w 11) 7 (nI i) = some (w 11 i) := ah_rdN (by omega) (by decide)
      have h2 : ah_rd (w 8) 14 (nI (2 * i + 1)) = some (mw_h w i) := ah_rdN (by omega) (by decide)
      simp only [Option.bind_some, Option.bind_none, ah_rI_s, ah_rL_s, ah_rV_s, hm_vI, hm_fr0, hm_li0, hm_ai0, hm_si0, hm_fi1, hm_sv1, hm_fi2, hm_sv2, hm_fi3, hm_sv3, hm_fi4, hm_sv4, hm_fi5, hm_sv5, hm_fi6, hm_sv6, hm_fi7, hm_sv7, hm_fr8, hm_li8, hm_ai8, hm_si8, hm_fr9, hm_li9, hm_ai9, hm_si9, hm_fr10, hm_li10, hm_ai10, hm_si10, hm_fr11, hm_li11, hm_ai11, hm_si11, hm_fr12, hm_li12, hm_ai12, hm_si12, hm_fr13, hm_li13, hm_ai13, hm_si13, hm_fr14, hm_li14, hm_ai14, hm_si14, hm_fi15, hm_sv15, hm_fr16, hm_li16, hm_ai16, hm_si16, hm_fr17, hm_li17, hm_ai17, hm_si17, hm_fi18, hm_sv18, hm_fi19, hm_sv19, hm_fi20, hm_sv20, hm_fi21, hm_sv21, hm_fi22, hm_sv22, hm_fi23, hm_sv23, hm_fi24, hm_sv24, hm_fr25, hm_li25, hm_ai25, hm_si25, hm_fr26, hm_li26, hm_ai26, hm_si26, hm_fr27, hm_li27, hm_ai27, hm_si27, hm_fr28, hm_li28, hm_ai28, hm_si28, hm_fl, hm_sl, hz, nI_lti (show i < 1000 by omega) (show n < 1000 by omega), hi, if_true, h1, h2, nI_1, nI_2, i32_a0]
      by_cases c2 : w 11 i = -1 <;> by_cases c3 : mw_h w i = s <;> simp [c2, c3])
  obtain ⟨f, rfl⟩ : ∃ f, g = f + 20 := ⟨g - 20, by omega⟩
  unfold aX12_aloneOf
  rw [eX12_aloneOf]
  exact loop n 0 0 (f + 19) (by omega) trivial (by omega)
end MS3
