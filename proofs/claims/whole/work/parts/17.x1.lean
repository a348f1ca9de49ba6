/-! the class: the singles, what may be paired, how like two are -/
theorem hx_k1 {k : Int32} (h : k = 1) : hx_kc k = 1 := by rw [h]; rfl
theorem hx_k2 {k : Int32} (h : k = 2) : hx_kc k = 9 := by rw [h]; rfl
theorem hx_k3 {k : Int32} (h : k = 3) : hx_kc k = 5 := by rw [h]; rfl
theorem hx_k4 {k : Int32} (h : k = 4) : hx_kc k = 3 := by rw [h]; rfl
theorem hx_k0 {k : Int32} (h1 : ¬ k = 1) (h2 : ¬ k = 2) (h3 : ¬ k = 3) (h4 : ¬ k = 4) : hx_kc k = 8 := by
  unfold hx_kc
  rw [if_neg h1, if_neg h2, if_neg h3, if_neg h4]
theorem gm_absf : ∀ a b : Fin 10, (if (0 : Int32) ≤ nI a.val - nI b.val then nI a.val - nI b.val else 0 - (nI a.val - nI b.val)) = gm_far (nI a.val) (nI b.val) := by decide
theorem gm_abs {x y : Int32} (hx : 0 ≤ x.toInt ∧ x.toInt ≤ 9) (hy : 0 ≤ y.toInt ∧ y.toInt ≤ 9) : (if (0 : Int32) ≤ x - y then x - y else 0 - (x - y)) = gm_far x y := by
  rw [i32_nI hx.1, i32_nI hy.1]
  exact gm_absf ⟨x.toInt.toNat, by omega⟩ ⟨y.toInt.toNat, by omega⟩
def hx_rg (w : Nat → Nat → Int32) : Prop := ∀ i, i < 7 → 0 ≤ (w 19 i).toInt ∧ (w 19 i).toInt ≤ 9
def hx_mo (w : Nat → Nat → Int32) (n : Nat) : Prop := ∀ i, i < n → w 21 i = -1 ∨ ∃ j : Nat, j < n ∧ w 21 i = nI j
abbrev xw_mb (w : Nat → Nat → Int32) : Nat → Nat → Bool := gm_mb (w 17) (w 18) (w 19)
abbrev xw_lk (w : Nat → Nat → Int32) : Nat → Nat → Int32 := gm_lk (w 17) (w 18) (w 19)
theorem n32_10 : ((1 : Int32) = 0) = False := eq_false (by decide)
theorem n32_00 : ((0 : Int32) = 0) = True := eq_true rfl
theorem n32_20 : ((2 : Int32) = 0) = False := eq_false (by decide)
theorem n32_mm : ((-1 : Int32) = -1) = True := eq_true rfl
section XS1
variable {g : Nat} (z : Nat → Int32) (w : Nat → Nat → Int32) (b : Int64)
theorem hx_is (i : Nat) (hi : i < 7) (cs : List Nat) : ah_is (hx z w b) (34 + i) cs = ah_in (hx_kc (w 17 i)) cs := by
  unfold ah_is
  rw [hx_sob z w b i hi]
theorem hx_sfc (i : Nat) (hi : i < 7) (cs : List Nat) (j : Nat) (hc : ah_in (hx_kc (w 17 i)) cs = true) : ah_fi (hx z w b) (34 + i) cs j = ah_aI ([Value.int (w 18 i), .int (w 19 i), .int (w 20 i), .int (w 21 i)][j]?) := by
  show ah_aI ((ah_ob (hx z w b) (34 + i)).bind fun q => bif ah_in q.1 cs then q.2[j]? else none) = _
  rw [hx_sob z w b i hi]
  show ah_aI (bif ah_in (hx_kc (w 17 i)) cs then _ else none) = _
  rw [hc]
  rfl
theorem hx_gl (k : Int32) : ah_in (hx_kc k) [1, 3] = (decide (k = 1) || decide (k = 4)) := by
  by_cases h1 : k = 1
  · subst h1; rfl
  by_cases h2 : k = 2
  · subst h2; rfl
  by_cases h3 : k = 3
  · subst h3; rfl
  by_cases h4 : k = 4
  · subst h4; rfl
  rw [hx_k0 h1 h2 h3 h4, show ah_in 8 [1, 3] = false from rfl]
  simp [h1, h4]
theorem hx_so (k : Int32) : ah_in (hx_kc k) [9] = decide (k = 2) := by
  by_cases h1 : k = 1
  · subst h1; rfl
  by_cases h2 : k = 2
  · subst h2; rfl
  by_cases h3 : k = 3
  · subst h3; rfl
  by_cases h4 : k = 4
  · subst h4; rfl
  rw [hx_k0 h1 h2 h3 h4, show ah_in 8 [9] = false from rfl]
  simp [h2]
theorem hx_ri (k : Int32) : ah_in (hx_kc k) [5] = decide (k = 3) := by
  by_cases h1 : k = 1
  · subst h1; rfl
  by_cases h2 : k = 2
  · subst h2; rfl
  by_cases h3 : k = 3
  · subst h3; rfl
  by_cases h4 : k = 4
  · subst h4; rfl
  rw [hx_k0 h1 h2 h3 h4, show ah_in 8 [5] = false from rfl]
  simp [h3]
theorem hx_mi (k : Int32) : ah_in (hx_kc k) [3] = decide (k = 4) := by
  by_cases h1 : k = 1
  · subst h1; rfl
  by_cases h2 : k = 2
  · subst h2; rfl
  by_cases h3 : k = 3
  · subst h3; rfl
  by_cases h4 : k = 4
  · subst h4; rfl
  rw [hx_k0 h1 h2 h3 h4, show ah_in 8 [3] = false from rfl]
  simp [h4]
theorem hx_ngl (k : Int32) : ah_in (hx_kc k) [5, 8, 9] = !(decide (k = 1) || decide (k = 4)) := by
  by_cases h1 : k = 1
  · subst h1; rfl
  by_cases h2 : k = 2
  · subst h2; rfl
  by_cases h3 : k = 3
  · subst h3; rfl
  by_cases h4 : k = 4
  · subst h4; rfl
  rw [hx_k0 h1 h2 h3 h4]
  simp [h1, h4, ah_in]
theorem hx_nso (k : Int32) : ah_in (hx_kc k) [1, 3, 5, 8] = !decide (k = 2) := by
  by_cases h1 : k = 1
  · subst h1; rfl
  by_cases h2 : k = 2
  · subst h2; rfl
  by_cases h3 : k = 3
  · subst h3; rfl
  by_cases h4 : k = 4
  · subst h4; rfl
  rw [hx_k0 h1 h2 h3 h4]
  simp [h2, ah_in]
theorem hx_takes (hg : 4000 ≤ g) (i j : Nat) (hi : i < 7) (hj : j < 7) : ∃ F : ah_F, (∀ {α : Type} (K : ah_F → Option α), ((ah_ob (hx z w b) (34 + i)).bind fun o => (ah_sel [(1, aX1_takes g), (3, aX1_takes g), (5, aX5_takes g), (8, aX8_takes g), (9, aX9_takes g)] o.1).bind K) = K F) ∧ F [.ref (34 + i), .ref (34 + j)] (hx z w b) = some (some (.int (bI (gm_tk (w 17) (w 18) (w 19) i j))), hx z w b) := by
  obtain ⟨f, rfl⟩ : ∃ f, g = f + 1 := ⟨g - 1, by omega⟩
  have gl : (w 17 i = 1 ∨ w 17 i = 4) → aX1_takes (f + 1) [.ref (34 + i), .ref (34 + j)] (hx z w b) = some (some (.int (bI (gm_tk (w 17) (w 18) (w 19) i j))), hx z w b) := fun hk => by
    unfold aX1_takes
    rw [eX1_takes, hx_sfc z w b i hi [1, 3] 0 (by rw [hx_gl]; rcases hk with e | e <;> rw [e] <;> rfl), hx_sf0 z w b j hj, hx_is z w b j hj, hx_is z w b j hj, hx_gl, hx_ngl]
    unfold gm_tk
    rw [if_pos hk]
    show (if w 18 i = w 18 j then _ else _) = _
    by_cases c1 : w 18 i = w 18 j <;> by_cases q1 : w 17 j = 1 <;> by_cases q4 : w 17 j = 4 <;> simp [c1, q1, q4, bI]
  by_cases k1 : w 17 i = 1
  · refine ⟨aX1_takes (f + 1), fun K => ?_, gl (Or.inl k1)⟩
    rw [hx_sob z w b i hi, Option.bind_some, hx_k1 k1]; rfl
  by_cases k4 : w 17 i = 4
  · refine ⟨aX1_takes (f + 1), fun K => ?_, gl (Or.inr k4)⟩
    rw [hx_sob z w b i hi, Option.bind_some, hx_k4 k4]; rfl
  by_cases k2 : w 17 i = 2
  · refine ⟨aX9_takes (f + 1), fun K => ?_, ?_⟩
    · rw [hx_sob z w b i hi, Option.bind_some, hx_k2 k2]; rfl
    · unfold aX9_takes
      rw [eX9_takes, hx_is z w b j hj, hx_is z w b j hj, hx_so, hx_nso]
      unfold gm_tk
      by_cases q2 : w 17 j = 2 <;> simp [k2, q2, bI]
  by_cases k3 : w 17 i = 3
  · refine ⟨aX5_takes (f + 1), fun K => ?_, ?_⟩
    · rw [hx_sob z w b i hi, Option.bind_some, hx_k3 k3]; rfl
    · unfold aX5_takes
      rw [eX5_takes, hx_sfc z w b i hi [5] 0 (by rw [hx_ri, k3]; rfl), hx_sf0 z w b j hj, hx_sfc z w b i hi [5] 1 (by rw [hx_ri, k3]; rfl), hx_sf1 z w b j hj]
      unfold gm_tk
      show (if w 18 i = w 18 j then _ else if w 19 i = w 19 j then _ else _) = _
      by_cases c1 : w 18 i = w 18 j <;> by_cases q2 : w 19 i = w 19 j <;> simp [k3, c1, q2, bI]
  · refine ⟨aX8_takes (f + 1), fun K => ?_, ?_⟩
    · rw [hx_sob z w b i hi, Option.bind_some, hx_k0 k1 k2 k3 k4]; rfl
    · unfold aX8_takes
      rw [eX8_takes, hx_sf0 z w b i hi, hx_sf0 z w b j hj]
      unfold gm_tk
      show (if w 18 i = w 18 j then _ else _) = _
      by_cases c1 : w 18 i = w 18 j <;> simp [k1, k2, k3, k4, c1, bI]
theorem hx_dist (hg : 4000 ≤ g) (hr : hx_rg w) (i j : Nat) (hi : i < 7) (hj : j < 7) : ∃ F : ah_F, (∀ {α : Type} (K : ah_F → Option α), ((ah_ob (hx z w b) (34 + i)).bind fun o => (ah_sel [(1, aX8_distanceTo g), (3, aX3_distanceTo g), (5, aX8_distanceTo g), (8, aX8_distanceTo g), (9, aX8_distanceTo g)] o.1).bind K) = K F) ∧ F [.ref (34 + i), .ref (34 + j)] (hx z w b) = some (some (.int (gm_ap (w 17) (w 19) i j)), hx z w b) := by
  obtain ⟨f, rfl⟩ : ∃ f, g = f + 1 := ⟨g - 1, by omega⟩
  have gl : ¬ w 17 i = 4 → aX8_distanceTo (f + 1) [.ref (34 + i), .ref (34 + j)] (hx z w b) = some (some (.int (gm_ap (w 17) (w 19) i j)), hx z w b) := fun hk => by
    unfold aX8_distanceTo
    rw [eX8_distanceTo, hx_sf1 z w b i hi, hx_sf1 z w b j hj]
    unfold gm_ap
    rw [if_neg hk, ← gm_abs (hr i hi) (hr j hj)]
    rfl
  by_cases k4 : w 17 i = 4
  · refine ⟨aX3_distanceTo (f + 1), fun K => ?_, ?_⟩
    · rw [hx_sob z w b i hi, Option.bind_some, hx_k4 k4]; rfl
    · unfold aX3_distanceTo
      rw [eX3_distanceTo, hx_sfc z w b i hi [3] 1 (by rw [hx_mi, k4]; rfl), hx_sf1 z w b j hj]
      unfold gm_ap
      rw [if_pos k4, ← gm_abs (hr i hi) (hr j hj)]
      rfl
  · refine ⟨aX8_distanceTo (f + 1), fun K => ?_, gl k4⟩
    rw [hx_sob z w b i hi, Option.bind_some]
    by_cases k1 : w 17 i = 1
    · rw [hx_k1 k1]; rfl
    by_cases k2 : w 17 i = 2
    · rw [hx_k2 k2]; rfl
    by_cases k3 : w 17 i = 3
    · rw [hx_k3 k3]; rfl
    rw [hx_k0 k1 k2 k3 k4]; rfl
theorem hx_kind (hg : 4000 ≤ g) (i : Nat) (hi : i < 7) (hk : 0 ≤ (w 17 i).toInt ∧ (w 17 i).toInt ≤ 4) : ∃ F : ah_F, (∀ {α : Type} (K : ah_F → Option α), ((ah_ob (hx z w b) (34 + i)).bind fun o => (ah_sel [(1, aX1_kindNumber g), (3, aX3_kindNumber g), (5, aX5_kindNumber g), (8, aX8_kindNumber g), (9, aX9_kindNumber g)] o.1).bind K) = K F) ∧ F [.ref (34 + i)] (hx z w b) = some (some (.int (w 17 i)), hx z w b) := by
  obtain ⟨f, rfl⟩ : ∃ f, g = f + 1 := ⟨g - 1, by omega⟩
  by_cases k1 : w 17 i = 1
  · refine ⟨aX1_kindNumber (f + 1), fun K => ?_, ?_⟩
    · rw [hx_sob z w b i hi, Option.bind_some, hx_k1 k1]; rfl
    · unfold aX1_kindNumber; rw [eX1_kindNumber, k1]
  by_cases k4 : w 17 i = 4
  · refine ⟨aX3_kindNumber (f + 1), fun K => ?_, ?_⟩
    · rw [hx_sob z w b i hi, Option.bind_some, hx_k4 k4]; rfl
    · unfold aX3_kindNumber; rw [eX3_kindNumber, k4]
  by_cases k2 : w 17 i = 2
  · refine ⟨aX9_kindNumber (f + 1), fun K => ?_, ?_⟩
    · rw [hx_sob z w b i hi, Option.bind_some, hx_k2 k2]; rfl
    · unfold aX9_kindNumber; rw [eX9_kindNumber, k2]
  by_cases k3 : w 17 i = 3
  · refine ⟨aX5_kindNumber (f + 1), fun K => ?_, ?_⟩
    · rw [hx_sob z w b i hi, Option.bind_some, hx_k3 k3]; rfl
    · unfold aX5_kindNumber; rw [eX5_kindNumber, k3]
  · refine ⟨aX8_kindNumber (f + 1), fun K => ?_, ?_⟩
    · rw [hx_sob z w b i hi, Option.bind_some, hx_k0 k1 k2 k3 k4]; rfl
    · unfold aX8_kindNumber; rw [eX8_kindNumber]
      have e : w 17 i = 0 := by
        rw [i32_eq] at k1 k2 k3 k4 ⊢
        have e1 : (1 : Int32).toInt = 1 := rfl
        have e2 : (2 : Int32).toInt = 2 := rfl
        have e3 : (3 : Int32).toInt = 3 := rfl
        have e4 : (4 : Int32).toInt = 4 := rfl
        have e0 : (0 : Int32).toInt = 0 := rfl
        omega
      rw [e]
theorem sX0_likenessOf (hg : 4000 ≤ g) (hr : hx_rg w) (i j : Nat) (hi : i < 7) (hj : j < 7) : aX0_likenessOf g [.ref 3, .int (nI i), .int (nI j)] (hx z w b) = some (some (.int (xw_lk w i j)), hx z w b) := by
  obtain ⟨F1, a1, a2⟩ := hx_takes z w b hg i j hi hj
  obtain ⟨F2, b1, b2⟩ := hx_takes z w b hg j i hj hi
  obtain ⟨F3, c1, c2⟩ := hx_dist z w b hg hr i j hi hj
  obtain ⟨F4, d1, d2⟩ := hx_dist z w b hg hr j i hj hi
  obtain ⟨f, rfl⟩ : ∃ f, g = f + 1 := ⟨g - 1, by omega⟩
  unfold aX0_likenessOf
  rw [eX0_likenessOf]
  simp only [Option.bind_some, Option.bind_none, ah_rI_s, ah_rL_s, ah_rV_s, hx_fr3_0, hx_lr4 z w b i hi, hx_lr4 z w b j hj, a1, a2, b1, b2, c1, c2, d1, d2, nI_eqi (show i < 1000 by omega) (show j < 1000 by omega), bI_0]
  unfold xw_lk gm_lk gm_mb
  by_cases e : i = j
  · simp [e]
  cases e2 : gm_tk (w 17) (w 18) (w 19) i j <;> cases e3 : gm_tk (w 17) (w 18) (w 19) j i <;> simp [e]
end XS1
/-- a likeness is -1 just where two may not be paired -/
theorem gm_lkf : ∀ a b c d : Fin 10, ¬ (18 - (if (a.val % 2 = 0) then gm_far (nI b.val) (nI c.val) / 2 else gm_far (nI b.val) (nI c.val)) - (if (d.val % 2 = 0) then gm_far (nI c.val) (nI b.val) / 2 else gm_far (nI c.val) (nI b.val))) = (-1 : Int32) := by decide +kernel
theorem gm_lk_ne {kd hd sz : Nat → Int32} (hr : ∀ i, i < 7 → 0 ≤ (sz i).toInt ∧ (sz i).toInt ≤ 9) {i j : Nat} (hi : i < 7) (hj : j < 7) : (gm_lk kd hd sz i j = -1) = (gm_mb kd hd sz i j = false) := by
  unfold gm_lk
  cases c : gm_mb kd hd sz i j
  · simp
  · simp only [if_true, Bool.true_eq_false, eq_iff_iff, iff_false]
    have h1 := hr i hi
    have h2 := hr j hj
    have := gm_lkf (if kd i = 4 then 0 else 1) ⟨(sz i).toInt.toNat, by omega⟩ ⟨(sz j).toInt.toNat, by omega⟩ (if kd j = 4 then 0 else 1)
    dsimp only at this
    rw [← i32_nI h1.1, ← i32_nI h2.1] at this
    unfold gm_ap
    by_cases q1 : kd i = 4 <;> by_cases q2 : kd j = 4 <;> simpa [q1, q2] using this
