/-! what depends on n singles alone; happy, round, count -/
theorem gm_pr_c {mb mb2 : Nat → Nat → Bool} {lk lk2 : Nat → Nat → Int32} {a n : Nat} (hn : n ≤ 7) (h1 : ∀ j, j < n → mb a j = mb2 a j) (h2 : ∀ j, j < n → lk a j = lk2 a j) : gm_pr mb lk a n = gm_pr mb2 lk2 a n := by
  have := gm_lp_sim (st := fun t j => if (mb a j && gm_pf lk a j t) = true then nI j else t) (st2 := fun t j => if (mb2 a j && gm_pf lk2 a j t) = true then nI j else t) (fun _ x t => x = t ∧ (t = -1 ∨ ∃ m : Nat, m < n ∧ t = nI m)) n 0 (-1) (-1) ⟨rfl, Or.inl rfl⟩ (fun j x t q1 q2 q3 => by
    obtain ⟨rfl, q3⟩ := q3
    have e : gm_pf lk a j x = gm_pf lk2 a j x := by
      unfold gm_pf
      rcases q3 with e | ⟨m, hm, e⟩
      · rw [if_pos e, if_pos e]
      · rw [e, nI_clamp (by omega), h2 j (by omega), h2 m hm]
    rw [h1 j (by omega), e]
    refine ⟨rfl, ?_⟩
    split
    · exact Or.inr ⟨j, by omega, rfl⟩
    · exact q3)
  exact this.1
theorem gm_pr_ok {mb : Nat → Nat → Bool} {lk : Nat → Nat → Int32} {a n : Nat} : gm_pr mb lk a n = -1 ∨ ∃ m : Nat, m < n ∧ gm_pr mb lk a n = nI m := by
  refine gm_lp_inv (st := fun t j => if (mb a j && gm_pf lk a j t) = true then nI j else t) (fun j t => t = -1 ∨ ∃ m : Nat, m < n ∧ t = nI m) n 0 (-1) (Or.inl rfl) (fun j t q1 q2 q3 => ?_)
  split
  · exact Or.inr ⟨j, by omega, rfl⟩
  · exact q3
theorem gm_bits_c {p q : Nat → Bool} {n : Nat} (h : ∀ j, j < n → p j = q j) : gm_bits p n = gm_bits q n := gm_lp_c (fun x j _ hj => by rw [h j (by omega)])
theorem gm_sf_c {mb mb2 : Nat → Nat → Bool} {st st2 mt mt2 : Nat → Int32} {n a : Nat} {s : Int32} (h1 : ∀ j, j < n → mb a j = mb2 a j) (h2 : ∀ j, j < n → st j = st2 j) (h3 : ∀ j, j < n → mt j = mt2 j) : gm_sf mb st mt n a s = gm_sf mb2 st2 mt2 n a s := gm_lp_c (fun x j _ hj => by rw [h1 j (by omega), h2 j (by omega), h3 j (by omega)])
theorem gm_prs_c {r r2 : Nat → Int32} {n : Nat} (h : ∀ j, j < n → r j = r2 j) : gm_prs r n = gm_prs r2 n := gm_lp_c (fun x j _ hj => by rw [h j (by omega)])
theorem gm_al_c {hd hd2 mt mt2 : Nat → Int32} {n : Nat} {s : Int32} (h1 : ∀ j, j < n → hd j = hd2 j) (h2 : ∀ j, j < n → mt j = mt2 j) : gm_al hd mt n s = gm_al hd2 mt2 n s := gm_lp_c (fun x j _ hj => by rw [h1 j (by omega), h2 j (by omega)])
theorem gm_ln_c {lk lk2 : Nat → Nat → Int32} {mt mt2 : Nat → Int32} {n : Nat} (hn : n ≤ 7) (h1 : ∀ i j, i < n → j < n → lk i j = lk2 i j) (h2 : ∀ j, j < n → mt j = mt2 j) (hM : gm_Mt n mt) : gm_ln lk mt n = gm_ln lk2 mt2 n := gm_lp_c (fun x j _ hj => by
  rw [← h2 j (by omega)]
  rcases hM j (by omega) with e | ⟨k, hk, -, e, -⟩
  · have c : ¬ nI j < -1 := by rw [i32_lt, nI_toInt (by omega), i32_m1]; omega
    rw [e, if_neg c, if_neg c]
  · rw [e, nI_clamp (by omega), h1 j k (by omega) hk])
theorem gm_bit1 : ∀ (i : Fin 7) (k : Fin 64), k.val < 2 ^ i.val → nI k.val ||| (1 <<< (nI i.val &&& 31)) = nI (k.val + 2 ^ i.val) := by decide +kernel
theorem gm_bits_n (p : Nat → Bool) {n : Nat} (hn : n ≤ 7) : ∃ k : Nat, k < 2 ^ n ∧ gm_bits p n = nI k := by
  have := gm_lp_inv (st := fun (x : Int32) j => if p j = true then x ||| (1 <<< (nI j &&& 31)) else x) (fun j x => ∃ k : Nat, k < 2 ^ j ∧ x = nI k) n 0 0 ⟨0, by omega, rfl⟩ (fun j x q1 q2 q3 => by
    obtain ⟨k, hk, rfl⟩ := q3
    have h6 : 2 ^ j ≤ 2 ^ 6 := Nat.pow_le_pow_right (by omega) (by omega)
    have e2 : 2 ^ (j + 1) = 2 ^ j + 2 ^ j := by rw [Nat.pow_succ]; omega
    by_cases c : p j = true
    · refine ⟨k + 2 ^ j, by omega, ?_⟩
      simp only [c, if_true]
      exact gm_bit1 ⟨j, by omega⟩ ⟨k, by omega⟩ hk
    · refine ⟨k, by omega, ?_⟩
      simp only [c]
      rfl)
  rw [Nat.zero_add] at this
  exact this
def gm_b1 (x : Int32) : Int32 := x - ((((x : Int32).toUInt32 >>> ((1 : Int32).toUInt32 &&& Int32.toUInt32 31)).toInt32) &&& 1431655765)
def gm_b2 (x0 : Int32) : Int32 := (x0 &&& 858993459) + ((((x0 : Int32).toUInt32 >>> ((2 : Int32).toUInt32 &&& Int32.toUInt32 31)).toInt32) &&& 858993459)
def gm_b3 (x0 : Int32) : Int32 := (x0 + (((x0 : Int32).toUInt32 >>> ((4 : Int32).toUInt32 &&& Int32.toUInt32 31)).toInt32)) &&& 252645135
def gm_b4 (x0 : Int32) : Int32 := x0 + (((x0 : Int32).toUInt32 >>> ((8 : Int32).toUInt32 &&& Int32.toUInt32 31)).toInt32)
def gm_b5 (x0 : Int32) : Int32 := x0 + (((x0 : Int32).toUInt32 >>> ((16 : Int32).toUInt32 &&& Int32.toUInt32 31)).toInt32)
theorem gm_bc : ∀ k : Fin 128, (gm_b5 (gm_b4 (gm_b3 (gm_b2 (gm_b1 (nI k.val))))) &&& 63) = gm_on (nI k.val) := by decide +kernel
/-- the class's way round -/
def gm_rx (s : Int32) (x : Int32 × Int32) : Int32 := if x.2 = -1 then 0 else (((if (0 : Int32) < (s - x.1) then (s - x.1) else 0) + (if (0 : Int32) < (x.2 - s) then (x.2 - s) else 0)) + (if ((if (0 : Int32) < (x.2 - s) then (x.2 - s) else 0) : Int32) < (if (0 : Int32) < (s - x.1) then (s - x.1) else 0) then (if (0 : Int32) < (x.2 - s) then (x.2 - s) else 0) else (if (0 : Int32) < (s - x.1) then (s - x.1) else 0)))
def gm_rxl (st mt : Nat → Int32) (n : Nat) : Int32 × Int32 := gm_lp (fun (x : Int32 × Int32) j => if mt j = -1 then (if st j < x.1 then st j else x.1, if x.2 < st j then st j else x.2) else x) n 0 (6, -1)
/-- by hand over all small numbers: with the least and the greatest of those alone -/
theorem gm_rdx : ∀ s l h : Fin 6, l.val ≤ h.val → gm_rx (nI s.val) (nI l.val, nI h.val) = gm_rdf (nI s.val) (if nI l.val < nI s.val then nI l.val else nI s.val, if nI s.val < nI h.val then nI h.val else nI s.val) := by decide +kernel
theorem gm_rd_eq {st mt : Nat → Int32} {n : Nat} (hs : ∀ i, i < n → 0 ≤ (st i).toInt ∧ (st i).toInt ≤ 5) {s : Int32} (hq : 0 ≤ s.toInt ∧ s.toInt ≤ 5) : gm_rx s (gm_rxl st mt n) = gm_rdf s (gm_rdl st mt n s) := by
  have := gm_lp_sim (st := fun (x : Int32 × Int32) j => if mt j = -1 then (if st j < x.1 then st j else x.1, if x.2 < st j then st j else x.2) else x) (st2 := fun (x : Int32 × Int32) j => (if mt j = -1 then (if st j < x.1 then st j else x.1) else x.1, if mt j = -1 then (if x.2 < st j then st j else x.2) else x.2)) (fun _ x t => (x = (6, -1) ∧ t = (s, s)) ∨ (0 ≤ x.1.toInt ∧ x.1.toInt ≤ x.2.toInt ∧ x.2.toInt ≤ 5 ∧ t = (if x.1 < s then x.1 else s, if s < x.2 then x.2 else s))) n 0 (6, -1) (s, s) (Or.inl ⟨rfl, rfl⟩) (fun j x t q1 q2 q3 => by
    have hj := hs j (by omega)
    by_cases c : mt j = -1
    · simp only [c, if_true]
      right
      rcases q3 with ⟨rfl, rfl⟩ | ⟨a1, a2, a3, rfl⟩
      · have d1 : st j < 6 := by rw [i32_lt, show (6 : Int32).toInt = 6 from rfl]; omega
        have d2 : (-1 : Int32) < st j := by rw [i32_lt, i32_m1]; omega
        simp only [d1, d2, if_true]
        exact ⟨hj.1, Int.le_refl _, hj.2, trivial⟩
      · obtain ⟨x1, x2⟩ := x
        dsimp only at a1 a2 a3 ⊢
        refine ⟨?_, ?_, ?_, ?_⟩
        · split
          · exact hj.1
          · exact a1
        · by_cases d1 : st j < x1 <;> by_cases d2 : x2 < st j <;> simp only [d1, d2, if_true, if_false] <;> rw [i32_lt] at d1 d2 <;> omega
        · split
          · exact hj.2
          · exact a3
        · refine Prod.ext ?_ ?_
          · dsimp only
            by_cases d1 : st j < x1 <;> by_cases d2 : x1 < s <;> by_cases d3 : st j < s <;> simp only [d1, d2, d3, if_true, if_false] <;> (try rfl) <;> rw [i32_lt] at d1 d2 d3 <;> first | omega | (rw [i32_eq]; omega)
          · dsimp only
            by_cases d1 : x2 < st j <;> by_cases d2 : s < x2 <;> by_cases d3 : s < st j <;> simp only [d1, d2, d3, if_true, if_false] <;> (try rfl) <;> rw [i32_lt] at d1 d2 d3 <;> first | omega | (rw [i32_eq]; omega)
    · simp only [c, if_false]
      exact q3)
  unfold gm_rxl gm_rdl
  rcases this with ⟨e1, e2⟩ | ⟨a1, a2, a3, e2⟩
  · rw [e1, e2]
    unfold gm_rx gm_rdf
    rw [if_pos rfl]
    simp
  · rw [e2]
    generalize gm_lp (fun (x : Int32 × Int32) j => if mt j = -1 then (if st j < x.1 then st j else x.1, if x.2 < st j then st j else x.2) else x) n 0 (6, -1) = x at a1 a2 a3
    obtain ⟨x1, x2⟩ := x
    dsimp only at a1 a2 a3 ⊢
    have := gm_rdx ⟨s.toInt.toNat, by omega⟩ ⟨x1.toInt.toNat, by omega⟩ ⟨x2.toInt.toNat, by omega⟩ (by show x1.toInt.toNat ≤ x2.toInt.toNat; omega)
    dsimp only at this
    rw [← i32_nI (by omega), ← i32_nI (by omega), ← i32_nI (by omega)] at this
    exact this
theorem gm_rdl_c {st st2 mt mt2 : Nat → Int32} {n : Nat} {s : Int32} (h1 : ∀ j, j < n → st j = st2 j) (h2 : ∀ j, j < n → mt j = mt2 j) : gm_rdl st mt n s = gm_rdl st2 mt2 n s := gm_lp_c (fun x j _ hj => by rw [h1 j (by omega), h2 j (by omega)])
section PR5
variable {g : Nat}
theorem sJ6_bitCount (hg : 4000 ≤ g) (k : Nat) (hk : k < 128) (h : ah_H) : aJ6_bitCount_0f7a4 g [.int (nI k)] h = some (some (.int (gm_on (nI k))), h) := by
  obtain ⟨f, rfl⟩ : ∃ f, g = f + 6 := ⟨g - 6, by omega⟩
  unfold aJ6_bitCount_0f7a4
  rw [eJ6_bitCount_0f7a4]
  show ah_run (kJ6_bitCount_0f7a4 (f + 6)) (f + 5) 10 [(0, .int (gm_b1 (nI k)))] [] h = _
  rw [rJ6_bitCount_0f7a4_10]
  show ah_run (kJ6_bitCount_0f7a4 (f + 6)) (f + 4) 24 [(0, .int (gm_b2 (gm_b1 (nI k))))] [] h = _
  rw [rJ6_bitCount_0f7a4_24]
  show ah_run (kJ6_bitCount_0f7a4 (f + 6)) (f + 3) 34 [(0, .int (gm_b3 (gm_b2 (gm_b1 (nI k)))))] [] h = _
  rw [rJ6_bitCount_0f7a4_34]
  show ah_run (kJ6_bitCount_0f7a4 (f + 6)) (f + 2) 41 [(0, .int (gm_b4 (gm_b3 (gm_b2 (gm_b1 (nI k))))))] [] h = _
  rw [rJ6_bitCount_0f7a4_41]
  show ah_run (kJ6_bitCount_0f7a4 (f + 6)) (f + 1) 48 [(0, .int (gm_b5 (gm_b4 (gm_b3 (gm_b2 (gm_b1 (nI k)))))))] [] h = _
  rw [rJ6_bitCount_0f7a4_48, gm_bc ⟨k, hk⟩]
theorem sX0_matches (hg : 4000 ≤ g) (z : Nat → Int32) (w : Nat → Nat → Int32) (b : Int64) (hr : hx_rg w) {n : Nat} (hn : n ≤ 7) (hz : z 2 = nI n) : aX0_matches g [.ref 3] (hx z w b) = some (some (.int (gm_lp (fun x j => x + gm_on (gm_bits (xw_mb w j) n)) n 0 0 / 2)), hx z w b) := by
  have loop := gm_loopx (n := n) (fun F i x => ah_run (kX0_matches g) F 4 [(0, .ref 3), (1, .int x), (2, .int (nI i))] [] (hx z w b)) (fun x j => x + gm_on (gm_bits (xw_mb w j) n)) (fun x => some (some (.int (x / 2)), hx z w b)) (fun _ _ => True) (fun f x _ => by
      simp only [rX0_matches_4, Option.bind_some, Option.bind_none, ah_rI_s, ah_rL_s, ah_rV_s, hx_v0, hx_fr0_0, hx_fr0_1, hx_fr0_2, hx_fr0_3, hx_fr0_4, hx_fi0_5, hx_sv0_5, hx_v1, hx_fr1_0, hx_fi1_1, hx_sv1_1, hx_v3, hx_fr3_0, hx_fr3_1, hx_fi3_2, hx_sv3_2, hx_fi3_3, hx_sv3_3, hx_fi3_4, hx_sv3_4, hx_fi3_5, hx_sv3_5, hx_fi3_6, hx_sv3_6, hx_fr3_7, hx_v5, hx_fi5_0, hx_sv5_0, hx_fr5_1, hx_fr5_2, hx_fr5_3, hx_fr5_4, hx_v11, hx_fi11_0, hx_sv11_0, hx_fr11_1, hx_fr11_2, hx_fr11_3, hx_fr11_4, hx_fi11_5, hx_sv11_5, hx_fi11_6, hx_sv11_6, hx_fi11_7, hx_sv11_7, hx_fi11_8, hx_sv11_8, hx_v15, hx_fi15_0, hx_sv15_0, hx_fr15_1, hx_fr15_2, hx_fr15_3, hx_fr15_4, hx_v20, hx_fi20_0, hx_sv20_0, hx_fi20_1, hx_sv20_1, hx_fi20_2, hx_sv20_2, hx_fi20_3, hx_sv20_3, hx_fr20_4, hx_fr20_5, hx_fr20_6, hx_fr20_7, hx_fi20_8, hx_sv20_8, hx_fi20_9, hx_sv20_9, hx_fi20_10, hx_sv20_10, hx_fi20_11, hx_sv20_11, hx_v25, hx_fi25_0, hx_sv25_0, hx_fi25_1, hx_sv25_1, hx_fl, hx_sl, hx_fr25_3, hx_li2, hx_ai2, hx_si2, hx_li6, hx_ai6, hx_si6, hx_li7, hx_ai7, hx_si7, hx_li8, hx_ai8, hx_si8, hx_li9, hx_ai9, hx_si9, hx_li10, hx_ai10, hx_si10, hx_li12, hx_ai12, hx_si12, hx_li13, hx_ai13, hx_si13, hx_li14, hx_ai14, hx_si14, hx_li16, hx_ai16, hx_si16, hx_li17, hx_ai17, hx_si17, hx_li18, hx_ai18, hx_si18, hx_li19, hx_ai19, hx_si19, hx_li21, hx_ai21, hx_si21, hx_li22, hx_ai22, hx_si22, hx_li24, hx_ai24, hx_si24, hx_li26, hx_ai26, hx_si26, hx_li27, hx_ai27, hx_si27, hx_li28, hx_ai28, hx_si28, hx_li29, hx_ai29, hx_si29, hx_li30, hx_ai30, hx_si30, hx_li31, hx_ai31, hx_si31, hx_li32, hx_ai32, hx_si32, hx_li33, hx_ai33, hx_si33, hx_lr4, hx_lr23, hx_sf0, hx_sf1, hx_ss1, hx_sf2, hx_ss2, hx_sf3, hx_ss3, hx_lkli, hx_lksi, hz, nI_ltnn (show n < 1000 by omega), if_false, n32_20]) (fun f i x hi _ => ⟨by
      obtain ⟨k, hk, ek⟩ := gm_bits_n (xw_mb w i) hn
      have hp : 2 ^ n ≤ 2 ^ 7 := Nat.pow_le_pow_right (by omega) hn
      simp only [rX0_matches_4, Option.bind_some, Option.bind_none, ah_rI_s, ah_rL_s, ah_rV_s, hx_v0, hx_fr0_0, hx_fr0_1, hx_fr0_2, hx_fr0_3, hx_fr0_4, hx_fi0_5, hx_sv0_5, hx_v1, hx_fr1_0, hx_fi1_1, hx_sv1_1, hx_v3, hx_fr3_0, hx_fr3_1, hx_fi3_2, hx_sv3_2, hx_fi3_3, hx_sv3_3, hx_fi3_4, hx_sv3_4, hx_fi3_5, hx_sv3_5, hx_fi3_6, hx_sv3_6, hx_fr3_7, hx_v5, hx_fi5_0, hx_sv5_0, hx_fr5_1, hx_fr5_2, hx_fr5_3, hx_fr5_4, hx_v11, hx_fi11_0, hx_sv11_0, hx_fr11_1, hx_fr11_2, hx_fr11_3, hx_fr11_4, hx_fi11_5, hx_sv11_5, hx_fi11_6, hx_sv11_6, hx_fi11_7, hx_sv11_7, hx_fi11_8, hx_sv11_8, hx_v15, hx_fi15_0, hx_sv15_0, hx_fr15_1, hx_fr15_2, hx_fr15_3, hx_fr15_4, hx_v20, hx_fi20_0, hx_sv20_0, hx_fi20_1, hx_sv20_1, hx_fi20_2, hx_sv20_2, hx_fi20_3, hx_sv20_3, hx_fr20_4, hx_fr20_5, hx_fr20_6, hx_fr20_7, hx_fi20_8, hx_sv20_8, hx_fi20_9, hx_sv20_9, hx_fi20_10, hx_sv20_10, hx_fi20_11, hx_sv20_11, hx_v25, hx_fi25_0, hx_sv25_0, hx_fi25_1, hx_sv25_1, hx_fl, hx_sl, hx_fr25_3, hx_li2, hx_ai2, hx_si2, hx_li6, hx_ai6, hx_si6, hx_li7, hx_ai7, hx_si7, hx_li8, hx_ai8, hx_si8, hx_li9, hx_ai9, hx_si9, hx_li10, hx_ai10, hx_si10, hx_li12, hx_ai12, hx_si12, hx_li13, hx_ai13, hx_si13, hx_li14, hx_ai14, hx_si14, hx_li16, hx_ai16, hx_si16, hx_li17, hx_ai17, hx_si17, hx_li18, hx_ai18, hx_si18, hx_li19, hx_ai19, hx_si19, hx_li21, hx_ai21, hx_si21, hx_li22, hx_ai22, hx_si22, hx_li24, hx_ai24, hx_si24, hx_li26, hx_ai26, hx_si26, hx_li27, hx_ai27, hx_si27, hx_li28, hx_ai28, hx_si28, hx_li29, hx_ai29, hx_si29, hx_li30, hx_ai30, hx_si30, hx_li31, hx_ai31, hx_si31, hx_li32, hx_ai32, hx_si32, hx_li33, hx_ai33, hx_si33, hx_lr4, hx_lr23, hx_sf0, hx_sf1, hx_ss1, hx_sf2, hx_ss2, hx_sf3, hx_ss3, hx_lkli, hx_lksi, hz, nI_ltin hi (show n < 1000 by omega), if_true, sX0_matchesOf z w b hg hr hn hz i (by omega), ek, sJ6_bitCount hg k (by omega), nI_1], trivial⟩)
  obtain ⟨f, rfl⟩ : ∃ f, g = f + 20 := ⟨g - 20, by omega⟩
  unfold aX0_matches
  rw [eX0_matches]
  exact loop 0 trivial (f + 19) (by omega)
theorem sX0_roundFrom (hg : 4000 ≤ g) (z : Nat → Int32) (w : Nat → Nat → Int32) (b : Int64) {n : Nat} (hn : n ≤ 7) (hz : z 2 = nI n) (hmo : hx_mo w n) (s : Int32) : aX0_roundFrom g [.ref 3, .int s] (hx z w b) = some (some (.int (gm_rx s (gm_rxl (w 20) (w 21) n))), hx z w b) := by
  have loop := gm_loopx (n := n) (fun F i (x : Int32 × Int32) => ah_run (kX0_roundFrom g) F 8 [(0, .ref 3), (1, .int s), (2, .int x.1), (3, .int x.2), (4, .int (nI i))] [] (hx z w b)) (fun x j => if w 21 j = -1 then (if w 20 j < x.1 then w 20 j else x.1, if x.2 < w 20 j then w 20 j else x.2) else x) (fun x => some (some (.int (gm_rx s x)), hx z w b)) (fun _ _ => True) (fun f x _ => by
      simp only [rX0_roundFrom_8, Option.bind_some, Option.bind_none, ah_rI_s, ah_rL_s, ah_rV_s, hx_v0, hx_fr0_0, hx_fr0_1, hx_fr0_2, hx_fr0_3, hx_fr0_4, hx_fi0_5, hx_sv0_5, hx_v1, hx_fr1_0, hx_fi1_1, hx_sv1_1, hx_v3, hx_fr3_0, hx_fr3_1, hx_fi3_2, hx_sv3_2, hx_fi3_3, hx_sv3_3, hx_fi3_4, hx_sv3_4, hx_fi3_5, hx_sv3_5, hx_fi3_6, hx_sv3_6, hx_fr3_7, hx_v5, hx_fi5_0, hx_sv5_0, hx_fr5_1, hx_fr5_2, hx_fr5_3, hx_fr5_4, hx_v11, hx_fi11_0, hx_sv11_0, hx_fr11_1, hx_fr11_2, hx_fr11_3, hx_fr11_4, hx_fi11_5, hx_sv11_5, hx_fi11_6, hx_sv11_6, hx_fi11_7, hx_sv11_7, hx_fi11_8, hx_sv11_8, hx_v15, hx_fi15_0, hx_sv15_0, hx_fr15_1, hx_fr15_2, hx_fr15_3, hx_fr15_4, hx_v20, hx_fi20_0, hx_sv20_0, hx_fi20_1, hx_sv20_1, hx_fi20_2, hx_sv20_2, hx_fi20_3, hx_sv20_3, hx_fr20_4, hx_fr20_5, hx_fr20_6, hx_fr20_7, hx_fi20_8, hx_sv20_8, hx_fi20_9, hx_sv20_9, hx_fi20_10, hx_sv20_10, hx_fi20_11, hx_sv20_11, hx_v25, hx_fi25_0, hx_sv25_0, hx_fi25_1, hx_sv25_1, hx_fl, hx_sl, hx_fr25_3, hx_li2, hx_ai2, hx_si2, hx_li6, hx_ai6, hx_si6, hx_li7, hx_ai7, hx_si7, hx_li8, hx_ai8, hx_si8, hx_li9, hx_ai9, hx_si9, hx_li10, hx_ai10, hx_si10, hx_li12, hx_ai12, hx_si12, hx_li13, hx_ai13, hx_si13, hx_li14, hx_ai14, hx_si14, hx_li16, hx_ai16, hx_si16, hx_li17, hx_ai17, hx_si17, hx_li18, hx_ai18, hx_si18, hx_li19, hx_ai19, hx_si19, hx_li21, hx_ai21, hx_si21, hx_li22, hx_ai22, hx_si22, hx_li24, hx_ai24, hx_si24, hx_li26, hx_ai26, hx_si26, hx_li27, hx_ai27, hx_si27, hx_li28, hx_ai28, hx_si28, hx_li29, hx_ai29, hx_si29, hx_li30, hx_ai30, hx_si30, hx_li31, hx_ai31, hx_si31, hx_li32, hx_ai32, hx_si32, hx_li33, hx_ai33, hx_si33, hx_lr4, hx_lr23, hx_sf0, hx_sf1, hx_ss1, hx_sf2, hx_ss2, hx_sf3, hx_ss3, hx_lkli, hx_lksi, hz, nI_ltnn (show n < 1000 by omega), if_false]
      unfold gm_rx
      by_cases c : x.2 = -1
      · rw [if_pos c, if_pos c]
      · rw [if_neg c, if_neg c]) (fun f i x hi _ => ⟨by
      have h7 : i < 7 := by omega
      simp only [rX0_roundFrom_8, Option.bind_some, Option.bind_none, ah_rI_s, ah_rL_s, ah_rV_s, hx_v0, hx_fr0_0, hx_fr0_1, hx_fr0_2, hx_fr0_3, hx_fr0_4, hx_fi0_5, hx_sv0_5, hx_v1, hx_fr1_0, hx_fi1_1, hx_sv1_1, hx_v3, hx_fr3_0, hx_fr3_1, hx_fi3_2, hx_sv3_2, hx_fi3_3, hx_sv3_3, hx_fi3_4, hx_sv3_4, hx_fi3_5, hx_sv3_5, hx_fi3_6, hx_sv3_6, hx_fr3_7, hx_v5, hx_fi5_0, hx_sv5_0, hx_fr5_1, hx_fr5_2, hx_fr5_3, hx_fr5_4, hx_v11, hx_fi11_0, hx_sv11_0, hx_fr11_1, hx_fr11_2, hx_fr11_3, hx_fr11_4, hx_fi11_5, hx_sv11_5, hx_fi11_6, hx_sv11_6, hx_fi11_7, hx_sv11_7, hx_fi11_8, hx_sv11_8, hx_v15, hx_fi15_0, hx_sv15_0, hx_fr15_1, hx_fr15_2, hx_fr15_3, hx_fr15_4, hx_v20, hx_fi20_0, hx_sv20_0, hx_fi20_1, hx_sv20_1, hx_fi20_2, hx_sv20_2, hx_fi20_3, hx_sv20_3, hx_fr20_4, hx_fr20_5, hx_fr20_6, hx_fr20_7, hx_fi20_8, hx_sv20_8, hx_fi20_9, hx_sv20_9, hx_fi20_10, hx_sv20_10, hx_fi20_11, hx_sv20_11, hx_v25, hx_fi25_0, hx_sv25_0, hx_fi25_1, hx_sv25_1, hx_fl, hx_sl, hx_fr25_3, hx_li2, hx_ai2, hx_si2, hx_li6, hx_ai6, hx_si6, hx_li7, hx_ai7, hx_si7, hx_li8, hx_ai8, hx_si8, hx_li9, hx_ai9, hx_si9, hx_li10, hx_ai10, hx_si10, hx_li12, hx_ai12, hx_si12, hx_li13, hx_ai13, hx_si13, hx_li14, hx_ai14, hx_si14, hx_li16, hx_ai16, hx_si16, hx_li17, hx_ai17, hx_si17, hx_li18, hx_ai18, hx_si18, hx_li19, hx_ai19, hx_si19, hx_li21, hx_ai21, hx_si21, hx_li22, hx_ai22, hx_si22, hx_li24, hx_ai24, hx_si24, hx_li26, hx_ai26, hx_si26, hx_li27, hx_ai27, hx_si27, hx_li28, hx_ai28, hx_si28, hx_li29, hx_ai29, hx_si29, hx_li30, hx_ai30, hx_si30, hx_li31, hx_ai31, hx_si31, hx_li32, hx_ai32, hx_si32, hx_li33, hx_ai33, hx_si33, hx_lr4, hx_lr23, hx_sf0, hx_sf1, hx_ss1, hx_sf2, hx_ss2, hx_sf3, hx_ss3, hx_lkli, hx_lksi, hz, h7, nI_ltin hi (show n < 1000 by omega), if_true, sX0_isPaired z w b hg hn hz hmo i hi, bI_0, nI_1]
      by_cases c2 : w 21 i = -1
      · simp only [c2, decide_true, Bool.not_true, if_true]
      · simp only [c2, decide_false, Bool.not_false, Bool.true_eq_false, if_false], trivial⟩)
  obtain ⟨f, rfl⟩ : ∃ f, g = f + 20 := ⟨g - 20, by omega⟩
  unfold aX0_roundFrom
  rw [eX0_roundFrom]
  exact loop (6, -1) trivial (f + 19) (by omega)
theorem gp_round (hg : 4000 ≤ g) (p : Int32) : gm_Pair (aX11_round g) (aX12_round g) [.ref 0, .int p] := by
  intro K n ln sn z w b y v c hR
  have h7 := hR.n7
  have hin : aX12_in g [.long p.toInt64, .long 0, .long 5] (hm y v c) = some (some (.int (bI (decide (0 ≤ p.toInt ∧ p.toInt ≤ 5)))), hm y v c) := sX12_in2 hg p 0 5 (hm y v c)
  have hzy : y 2 = z 2 := by rw [hR.zm, hR.zx]
  by_cases hq : 0 ≤ p.toInt ∧ p.toInt ≤ 5
  · by_cases h0 : z 2 = 0
    · refine gm_same hR (-101) ?_ ?_
      · obtain ⟨f, rfl⟩ : ∃ f, g = f + 1 := ⟨g - 1, by omega⟩
        unfold aX11_round
        rw [eX11_round]
        simp only [Option.bind_some, Option.bind_none, ah_rI_s, ah_rL_s, ah_rV_s, hx_v0, hx_fr0_0, hx_fr0_1, hx_fr0_2, hx_fr0_3, hx_fr0_4, hx_fi0_5, hx_sv0_5, hx_v1, hx_fr1_0, hx_fi1_1, hx_sv1_1, hx_v3, hx_fr3_0, hx_fr3_1, hx_fi3_2, hx_sv3_2, hx_fi3_3, hx_sv3_3, hx_fi3_4, hx_sv3_4, hx_fi3_5, hx_sv3_5, hx_fi3_6, hx_sv3_6, hx_fr3_7, hx_v5, hx_fi5_0, hx_sv5_0, hx_fr5_1, hx_fr5_2, hx_fr5_3, hx_fr5_4, hx_v11, hx_fi11_0, hx_sv11_0, hx_fr11_1, hx_fr11_2, hx_fr11_3, hx_fr11_4, hx_fi11_5, hx_sv11_5, hx_fi11_6, hx_sv11_6, hx_fi11_7, hx_sv11_7, hx_fi11_8, hx_sv11_8, hx_v15, hx_fi15_0, hx_sv15_0, hx_fr15_1, hx_fr15_2, hx_fr15_3, hx_fr15_4, hx_v20, hx_fi20_0, hx_sv20_0, hx_fi20_1, hx_sv20_1, hx_fi20_2, hx_sv20_2, hx_fi20_3, hx_sv20_3, hx_fr20_4, hx_fr20_5, hx_fr20_6, hx_fr20_7, hx_fi20_8, hx_sv20_8, hx_fi20_9, hx_sv20_9, hx_fi20_10, hx_sv20_10, hx_fi20_11, hx_sv20_11, hx_v25, hx_fi25_0, hx_sv25_0, hx_fi25_1, hx_sv25_1, hx_fl, hx_sl, hx_fr25_3, hx_li2, hx_ai2, hx_si2, hx_li6, hx_ai6, hx_si6, hx_li7, hx_ai7, hx_si7, hx_li8, hx_ai8, hx_si8, hx_li9, hx_ai9, hx_si9, hx_li10, hx_ai10, hx_si10, hx_li12, hx_ai12, hx_si12, hx_li13, hx_ai13, hx_si13, hx_li14, hx_ai14, hx_si14, hx_li16, hx_ai16, hx_si16, hx_li17, hx_ai17, hx_si17, hx_li18, hx_ai18, hx_si18, hx_li19, hx_ai19, hx_si19, hx_li21, hx_ai21, hx_si21, hx_li22, hx_ai22, hx_si22, hx_li24, hx_ai24, hx_si24, hx_li26, hx_ai26, hx_si26, hx_li27, hx_ai27, hx_si27, hx_li28, hx_ai28, hx_si28, hx_li29, hx_ai29, hx_si29, hx_li30, hx_ai30, hx_si30, hx_li31, hx_ai31, hx_si31, hx_li32, hx_ai32, hx_si32, hx_li33, hx_ai33, hx_si33, hx_lr4, hx_lr23, hx_sf0, hx_sf1, hx_ss1, hx_sf2, hx_ss2, hx_sf3, hx_ss3, hx_lkli, hx_lksi, sX11_isStation hg, hq, and_self, decide_true, bI_0, Bool.true_eq_false, if_false, sX0_isMissing z w b hg, h0]
      · obtain ⟨f, rfl⟩ : ∃ f, g = f + 1 := ⟨g - 1, by omega⟩
        unfold aX12_round
        rw [eX12_round]
        simp only [Option.bind_some, Option.bind_none, ah_rI_s, ah_rL_s, ah_rV_s, hm_vI, hm_fr0, hm_li0, hm_ai0, hm_si0, hm_fi1, hm_sv1, hm_fi2, hm_sv2, hm_fi3, hm_sv3, hm_fi4, hm_sv4, hm_fi5, hm_sv5, hm_fi6, hm_sv6, hm_fi7, hm_sv7, hm_fr8, hm_li8, hm_ai8, hm_si8, hm_fr9, hm_li9, hm_ai9, hm_si9, hm_fr10, hm_li10, hm_ai10, hm_si10, hm_fr11, hm_li11, hm_ai11, hm_si11, hm_fr12, hm_li12, hm_ai12, hm_si12, hm_fr13, hm_li13, hm_ai13, hm_si13, hm_fr14, hm_li14, hm_ai14, hm_si14, hm_fi15, hm_sv15, hm_fr16, hm_li16, hm_ai16, hm_si16, hm_fr17, hm_li17, hm_ai17, hm_si17, hm_fi18, hm_sv18, hm_fi19, hm_sv19, hm_fi20, hm_sv20, hm_fi21, hm_sv21, hm_fi22, hm_sv22, hm_fi23, hm_sv23, hm_fi24, hm_sv24, hm_fr25, hm_li25, hm_ai25, hm_si25, hm_fr26, hm_li26, hm_ai26, hm_si26, hm_fr27, hm_li27, hm_ai27, hm_si27, hm_fr28, hm_li28, hm_ai28, hm_si28, hm_fl, hm_sl, sX12_lacks y v c hg, hzy, h0, decide_true, bI_0, Bool.true_eq_false, if_false]
    · refine gm_same hR (gm_rx p (gm_rxl (w 20) (w 21) n)) ?_ ?_
      · obtain ⟨f, rfl⟩ : ∃ f, g = f + 1 := ⟨g - 1, by omega⟩
        unfold aX11_round
        rw [eX11_round]
        simp only [Option.bind_some, Option.bind_none, ah_rI_s, ah_rL_s, ah_rV_s, hx_v0, hx_fr0_0, hx_fr0_1, hx_fr0_2, hx_fr0_3, hx_fr0_4, hx_fi0_5, hx_sv0_5, hx_v1, hx_fr1_0, hx_fi1_1, hx_sv1_1, hx_v3, hx_fr3_0, hx_fr3_1, hx_fi3_2, hx_sv3_2, hx_fi3_3, hx_sv3_3, hx_fi3_4, hx_sv3_4, hx_fi3_5, hx_sv3_5, hx_fi3_6, hx_sv3_6, hx_fr3_7, hx_v5, hx_fi5_0, hx_sv5_0, hx_fr5_1, hx_fr5_2, hx_fr5_3, hx_fr5_4, hx_v11, hx_fi11_0, hx_sv11_0, hx_fr11_1, hx_fr11_2, hx_fr11_3, hx_fr11_4, hx_fi11_5, hx_sv11_5, hx_fi11_6, hx_sv11_6, hx_fi11_7, hx_sv11_7, hx_fi11_8, hx_sv11_8, hx_v15, hx_fi15_0, hx_sv15_0, hx_fr15_1, hx_fr15_2, hx_fr15_3, hx_fr15_4, hx_v20, hx_fi20_0, hx_sv20_0, hx_fi20_1, hx_sv20_1, hx_fi20_2, hx_sv20_2, hx_fi20_3, hx_sv20_3, hx_fr20_4, hx_fr20_5, hx_fr20_6, hx_fr20_7, hx_fi20_8, hx_sv20_8, hx_fi20_9, hx_sv20_9, hx_fi20_10, hx_sv20_10, hx_fi20_11, hx_sv20_11, hx_v25, hx_fi25_0, hx_sv25_0, hx_fi25_1, hx_sv25_1, hx_fl, hx_sl, hx_fr25_3, hx_li2, hx_ai2, hx_si2, hx_li6, hx_ai6, hx_si6, hx_li7, hx_ai7, hx_si7, hx_li8, hx_ai8, hx_si8, hx_li9, hx_ai9, hx_si9, hx_li10, hx_ai10, hx_si10, hx_li12, hx_ai12, hx_si12, hx_li13, hx_ai13, hx_si13, hx_li14, hx_ai14, hx_si14, hx_li16, hx_ai16, hx_si16, hx_li17, hx_ai17, hx_si17, hx_li18, hx_ai18, hx_si18, hx_li19, hx_ai19, hx_si19, hx_li21, hx_ai21, hx_si21, hx_li22, hx_ai22, hx_si22, hx_li24, hx_ai24, hx_si24, hx_li26, hx_ai26, hx_si26, hx_li27, hx_ai27, hx_si27, hx_li28, hx_ai28, hx_si28, hx_li29, hx_ai29, hx_si29, hx_li30, hx_ai30, hx_si30, hx_li31, hx_ai31, hx_si31, hx_li32, hx_ai32, hx_si32, hx_li33, hx_ai33, hx_si33, hx_lr4, hx_lr23, hx_sf0, hx_sf1, hx_ss1, hx_sf2, hx_ss2, hx_sf3, hx_ss3, hx_lkli, hx_lksi, sX11_isStation hg, hq, and_self, decide_true, bI_0, Bool.true_eq_false, if_false, sX0_isMissing z w b hg, h0, decide_false, if_true, sX0_roundFrom hg z w b h7 hR.zx hR.mo p]
      · rw [gm_rd_eq (fun i hi => (hR.sg hi).2.2.2.2.2.2.2) hq, gm_rdl_c (fun j hj => hR.st hj) (fun j hj => hR.mt hj)]
        obtain ⟨f, rfl⟩ : ∃ f, g = f + 1 := ⟨g - 1, by omega⟩
        unfold aX12_round
        rw [eX12_round]
        simp only [Option.bind_some, Option.bind_none, ah_rI_s, ah_rL_s, ah_rV_s, hm_vI, hm_fr0, hm_li0, hm_ai0, hm_si0, hm_fi1, hm_sv1, hm_fi2, hm_sv2, hm_fi3, hm_sv3, hm_fi4, hm_sv4, hm_fi5, hm_sv5, hm_fi6, hm_sv6, hm_fi7, hm_sv7, hm_fr8, hm_li8, hm_ai8, hm_si8, hm_fr9, hm_li9, hm_ai9, hm_si9, hm_fr10, hm_li10, hm_ai10, hm_si10, hm_fr11, hm_li11, hm_ai11, hm_si11, hm_fr12, hm_li12, hm_ai12, hm_si12, hm_fr13, hm_li13, hm_ai13, hm_si13, hm_fr14, hm_li14, hm_ai14, hm_si14, hm_fi15, hm_sv15, hm_fr16, hm_li16, hm_ai16, hm_si16, hm_fr17, hm_li17, hm_ai17, hm_si17, hm_fi18, hm_sv18, hm_fi19, hm_sv19, hm_fi20, hm_sv20, hm_fi21, hm_sv21, hm_fi22, hm_sv22, hm_fi23, hm_sv23, hm_fi24, hm_sv24, hm_fr25, hm_li25, hm_ai25, hm_si25, hm_fr26, hm_li26, hm_ai26, hm_si26, hm_fr27, hm_li27, hm_ai27, hm_si27, hm_fr28, hm_li28, hm_ai28, hm_si28, hm_fl, hm_sl, sX12_lacks y v c hg, hzy, h0, decide_false, bI_0, if_true, hin, hq, and_self, decide_true, Bool.true_eq_false, if_false, sX12_roundOf y v c hg h7 hR.zm p]
  · refine gm_same hR (-101) ?_ ?_
    · obtain ⟨f, rfl⟩ : ∃ f, g = f + 1 := ⟨g - 1, by omega⟩
      unfold aX11_round
      rw [eX11_round]
      simp only [Option.bind_some, Option.bind_none, ah_rI_s, ah_rL_s, ah_rV_s, hx_v0, hx_fr0_0, hx_fr0_1, hx_fr0_2, hx_fr0_3, hx_fr0_4, hx_fi0_5, hx_sv0_5, hx_v1, hx_fr1_0, hx_fi1_1, hx_sv1_1, hx_v3, hx_fr3_0, hx_fr3_1, hx_fi3_2, hx_sv3_2, hx_fi3_3, hx_sv3_3, hx_fi3_4, hx_sv3_4, hx_fi3_5, hx_sv3_5, hx_fi3_6, hx_sv3_6, hx_fr3_7, hx_v5, hx_fi5_0, hx_sv5_0, hx_fr5_1, hx_fr5_2, hx_fr5_3, hx_fr5_4, hx_v11, hx_fi11_0, hx_sv11_0, hx_fr11_1, hx_fr11_2, hx_fr11_3, hx_fr11_4, hx_fi11_5, hx_sv11_5, hx_fi11_6, hx_sv11_6, hx_fi11_7, hx_sv11_7, hx_fi11_8, hx_sv11_8, hx_v15, hx_fi15_0, hx_sv15_0, hx_fr15_1, hx_fr15_2, hx_fr15_3, hx_fr15_4, hx_v20, hx_fi20_0, hx_sv20_0, hx_fi20_1, hx_sv20_1, hx_fi20_2, hx_sv20_2, hx_fi20_3, hx_sv20_3, hx_fr20_4, hx_fr20_5, hx_fr20_6, hx_fr20_7, hx_fi20_8, hx_sv20_8, hx_fi20_9, hx_sv20_9, hx_fi20_10, hx_sv20_10, hx_fi20_11, hx_sv20_11, hx_v25, hx_fi25_0, hx_sv25_0, hx_fi25_1, hx_sv25_1, hx_fl, hx_sl, hx_fr25_3, hx_li2, hx_ai2, hx_si2, hx_li6, hx_ai6, hx_si6, hx_li7, hx_ai7, hx_si7, hx_li8, hx_ai8, hx_si8, hx_li9, hx_ai9, hx_si9, hx_li10, hx_ai10, hx_si10, hx_li12, hx_ai12, hx_si12, hx_li13, hx_ai13, hx_si13, hx_li14, hx_ai14, hx_si14, hx_li16, hx_ai16, hx_si16, hx_li17, hx_ai17, hx_si17, hx_li18, hx_ai18, hx_si18, hx_li19, hx_ai19, hx_si19, hx_li21, hx_ai21, hx_si21, hx_li22, hx_ai22, hx_si22, hx_li24, hx_ai24, hx_si24, hx_li26, hx_ai26, hx_si26, hx_li27, hx_ai27, hx_si27, hx_li28, hx_ai28, hx_si28, hx_li29, hx_ai29, hx_si29, hx_li30, hx_ai30, hx_si30, hx_li31, hx_ai31, hx_si31, hx_li32, hx_ai32, hx_si32, hx_li33, hx_ai33, hx_si33, hx_lr4, hx_lr23, hx_sf0, hx_sf1, hx_ss1, hx_sf2, hx_ss2, hx_sf3, hx_ss3, hx_lkli, hx_lksi, sX11_isStation hg, hq, decide_false, bI_0, if_true]
    · obtain ⟨f, rfl⟩ : ∃ f, g = f + 1 := ⟨g - 1, by omega⟩
      unfold aX12_round
      rw [eX12_round]
      simp only [Option.bind_some, Option.bind_none, ah_rI_s, ah_rL_s, ah_rV_s, hm_vI, hm_fr0, hm_li0, hm_ai0, hm_si0, hm_fi1, hm_sv1, hm_fi2, hm_sv2, hm_fi3, hm_sv3, hm_fi4, hm_sv4, hm_fi5, hm_sv5, hm_fi6, hm_sv6, hm_fi7, hm_sv7, hm_fr8, hm_li8, hm_ai8, hm_si8, hm_fr9, hm_li9, hm_ai9, hm_si9, hm_fr10, hm_li10, hm_ai10, hm_si10, hm_fr11, hm_li11, hm_ai11, hm_si11, hm_fr12, hm_li12, hm_ai12, hm_si12, hm_fr13, hm_li13, hm_ai13, hm_si13, hm_fr14, hm_li14, hm_ai14, hm_si14, hm_fi15, hm_sv15, hm_fr16, hm_li16, hm_ai16, hm_si16, hm_fr17, hm_li17, hm_ai17, hm_si17, hm_fi18, hm_sv18, hm_fi19, hm_sv19, hm_fi20, hm_sv20, hm_fi21, hm_sv21, hm_fi22, hm_sv22, hm_fi23, hm_sv23, hm_fi24, hm_sv24, hm_fr25, hm_li25, hm_ai25, hm_si25, hm_fr26, hm_li26, hm_ai26, hm_si26, hm_fr27, hm_li27, hm_ai27, hm_si27, hm_fr28, hm_li28, hm_ai28, hm_si28, hm_fl, hm_sl, sX12_lacks y v c hg, bI_0, hin, hq, decide_false, if_true]
      split <;> rfl
theorem gp_happy (hg : 4000 ≤ g) (p : Int32) : gm_Pair (aX11_happy g) (aX12_happy g) [.ref 0, .int p] := by
  intro K n ln sn z w b y v c hR
  have h7 := hR.n7
  cases e : gm_is n p with
  | false =>
    refine gm_same hR (-101) ?_ ?_
    · obtain ⟨f, rfl⟩ : ∃ f, g = f + 1 := ⟨g - 1, by omega⟩
      unfold aX11_happy
      rw [eX11_happy]
      simp only [Option.bind_some, Option.bind_none, ah_rI_s, ah_rL_s, ah_rV_s, hx_v0, hx_fr0_0, hx_fr0_1, hx_fr0_2, hx_fr0_3, hx_fr0_4, hx_fi0_5, hx_sv0_5, hx_v1, hx_fr1_0, hx_fi1_1, hx_sv1_1, hx_v3, hx_fr3_0, hx_fr3_1, hx_fi3_2, hx_sv3_2, hx_fi3_3, hx_sv3_3, hx_fi3_4, hx_sv3_4, hx_fi3_5, hx_sv3_5, hx_fi3_6, hx_sv3_6, hx_fr3_7, hx_v5, hx_fi5_0, hx_sv5_0, hx_fr5_1, hx_fr5_2, hx_fr5_3, hx_fr5_4, hx_v11, hx_fi11_0, hx_sv11_0, hx_fr11_1, hx_fr11_2, hx_fr11_3, hx_fr11_4, hx_fi11_5, hx_sv11_5, hx_fi11_6, hx_sv11_6, hx_fi11_7, hx_sv11_7, hx_fi11_8, hx_sv11_8, hx_v15, hx_fi15_0, hx_sv15_0, hx_fr15_1, hx_fr15_2, hx_fr15_3, hx_fr15_4, hx_v20, hx_fi20_0, hx_sv20_0, hx_fi20_1, hx_sv20_1, hx_fi20_2, hx_sv20_2, hx_fi20_3, hx_sv20_3, hx_fr20_4, hx_fr20_5, hx_fr20_6, hx_fr20_7, hx_fi20_8, hx_sv20_8, hx_fi20_9, hx_sv20_9, hx_fi20_10, hx_sv20_10, hx_fi20_11, hx_sv20_11, hx_v25, hx_fi25_0, hx_sv25_0, hx_fi25_1, hx_sv25_1, hx_fl, hx_sl, hx_fr25_3, hx_li2, hx_ai2, hx_si2, hx_li6, hx_ai6, hx_si6, hx_li7, hx_ai7, hx_si7, hx_li8, hx_ai8, hx_si8, hx_li9, hx_ai9, hx_si9, hx_li10, hx_ai10, hx_si10, hx_li12, hx_ai12, hx_si12, hx_li13, hx_ai13, hx_si13, hx_li14, hx_ai14, hx_si14, hx_li16, hx_ai16, hx_si16, hx_li17, hx_ai17, hx_si17, hx_li18, hx_ai18, hx_si18, hx_li19, hx_ai19, hx_si19, hx_li21, hx_ai21, hx_si21, hx_li22, hx_ai22, hx_si22, hx_li24, hx_ai24, hx_si24, hx_li26, hx_ai26, hx_si26, hx_li27, hx_ai27, hx_si27, hx_li28, hx_ai28, hx_si28, hx_li29, hx_ai29, hx_si29, hx_li30, hx_ai30, hx_si30, hx_li31, hx_ai31, hx_si31, hx_li32, hx_ai32, hx_si32, hx_li33, hx_ai33, hx_si33, hx_lr4, hx_lr23, hx_sf0, hx_sf1, hx_ss1, hx_sf2, hx_ss2, hx_sf3, hx_ss3, hx_lkli, hx_lksi, sX0_has z w b hg h7 hR.zx, bI_0, e, if_true]
    · obtain ⟨f, rfl⟩ : ∃ f, g = f + 1 := ⟨g - 1, by omega⟩
      unfold aX12_happy
      rw [eX12_happy]
      simp only [Option.bind_some, Option.bind_none, ah_rI_s, ah_rL_s, ah_rV_s, hm_vI, hm_fr0, hm_li0, hm_ai0, hm_si0, hm_fi1, hm_sv1, hm_fi2, hm_sv2, hm_fi3, hm_sv3, hm_fi4, hm_sv4, hm_fi5, hm_sv5, hm_fi6, hm_sv6, hm_fi7, hm_sv7, hm_fr8, hm_li8, hm_ai8, hm_si8, hm_fr9, hm_li9, hm_ai9, hm_si9, hm_fr10, hm_li10, hm_ai10, hm_si10, hm_fr11, hm_li11, hm_ai11, hm_si11, hm_fr12, hm_li12, hm_ai12, hm_si12, hm_fr13, hm_li13, hm_ai13, hm_si13, hm_fr14, hm_li14, hm_ai14, hm_si14, hm_fi15, hm_sv15, hm_fr16, hm_li16, hm_ai16, hm_si16, hm_fr17, hm_li17, hm_ai17, hm_si17, hm_fi18, hm_sv18, hm_fi19, hm_sv19, hm_fi20, hm_sv20, hm_fi21, hm_sv21, hm_fi22, hm_sv22, hm_fi23, hm_sv23, hm_fi24, hm_sv24, hm_fr25, hm_li25, hm_ai25, hm_si25, hm_fr26, hm_li26, hm_ai26, hm_si26, hm_fr27, hm_li27, hm_ai27, hm_si27, hm_fr28, hm_li28, hm_ai28, hm_si28, hm_fl, hm_sl, sX12_isSingle y v c hg h7 hR.zm, bI_0, e, if_true]
  | true =>
    obtain ⟨i, hi, rfl⟩ := gm_is_i e
    have i7 : i < 7 := by omega
    have m1 : ah_rd (v 11) 7 (nI i) = some (v 11 i) := ah_rdN i7 (by decide)
    rcases hR.2.1.2.2.2.2.2 i hi with hp | ⟨j, hj, hji, hp, hpj⟩
    · refine gm_same hR (-103) ?_ ?_
      · obtain ⟨f, rfl⟩ : ∃ f, g = f + 1 := ⟨g - 1, by omega⟩
        unfold aX11_happy
        rw [eX11_happy]
        simp only [Option.bind_some, Option.bind_none, ah_rI_s, ah_rL_s, ah_rV_s, hx_v0, hx_fr0_0, hx_fr0_1, hx_fr0_2, hx_fr0_3, hx_fr0_4, hx_fi0_5, hx_sv0_5, hx_v1, hx_fr1_0, hx_fi1_1, hx_sv1_1, hx_v3, hx_fr3_0, hx_fr3_1, hx_fi3_2, hx_sv3_2, hx_fi3_3, hx_sv3_3, hx_fi3_4, hx_sv3_4, hx_fi3_5, hx_sv3_5, hx_fi3_6, hx_sv3_6, hx_fr3_7, hx_v5, hx_fi5_0, hx_sv5_0, hx_fr5_1, hx_fr5_2, hx_fr5_3, hx_fr5_4, hx_v11, hx_fi11_0, hx_sv11_0, hx_fr11_1, hx_fr11_2, hx_fr11_3, hx_fr11_4, hx_fi11_5, hx_sv11_5, hx_fi11_6, hx_sv11_6, hx_fi11_7, hx_sv11_7, hx_fi11_8, hx_sv11_8, hx_v15, hx_fi15_0, hx_sv15_0, hx_fr15_1, hx_fr15_2, hx_fr15_3, hx_fr15_4, hx_v20, hx_fi20_0, hx_sv20_0, hx_fi20_1, hx_sv20_1, hx_fi20_2, hx_sv20_2, hx_fi20_3, hx_sv20_3, hx_fr20_4, hx_fr20_5, hx_fr20_6, hx_fr20_7, hx_fi20_8, hx_sv20_8, hx_fi20_9, hx_sv20_9, hx_fi20_10, hx_sv20_10, hx_fi20_11, hx_sv20_11, hx_v25, hx_fi25_0, hx_sv25_0, hx_fi25_1, hx_sv25_1, hx_fl, hx_sl, hx_fr25_3, hx_li2, hx_ai2, hx_si2, hx_li6, hx_ai6, hx_si6, hx_li7, hx_ai7, hx_si7, hx_li8, hx_ai8, hx_si8, hx_li9, hx_ai9, hx_si9, hx_li10, hx_ai10, hx_si10, hx_li12, hx_ai12, hx_si12, hx_li13, hx_ai13, hx_si13, hx_li14, hx_ai14, hx_si14, hx_li16, hx_ai16, hx_si16, hx_li17, hx_ai17, hx_si17, hx_li18, hx_ai18, hx_si18, hx_li19, hx_ai19, hx_si19, hx_li21, hx_ai21, hx_si21, hx_li22, hx_ai22, hx_si22, hx_li24, hx_ai24, hx_si24, hx_li26, hx_ai26, hx_si26, hx_li27, hx_ai27, hx_si27, hx_li28, hx_ai28, hx_si28, hx_li29, hx_ai29, hx_si29, hx_li30, hx_ai30, hx_si30, hx_li31, hx_ai31, hx_si31, hx_li32, hx_ai32, hx_si32, hx_li33, hx_ai33, hx_si33, hx_lr4, hx_lr23, hx_sf0, hx_sf1, hx_ss1, hx_sf2, hx_ss2, hx_sf3, hx_ss3, hx_lkli, hx_lksi, sX0_has z w b hg h7 hR.zx, bI_0, e, Bool.true_eq_false, if_false, sX0_isPaired z w b hg h7 hR.zx hR.mo i hi, hp, n32_mm, decide_true, Bool.not_true, if_true]
      · obtain ⟨f, rfl⟩ : ∃ f, g = f + 1 := ⟨g - 1, by omega⟩
        unfold aX12_happy
        rw [eX12_happy]
        simp only [Option.bind_some, Option.bind_none, ah_rI_s, ah_rL_s, ah_rV_s, hm_vI, hm_fr0, hm_li0, hm_ai0, hm_si0, hm_fi1, hm_sv1, hm_fi2, hm_sv2, hm_fi3, hm_sv3, hm_fi4, hm_sv4, hm_fi5, hm_sv5, hm_fi6, hm_sv6, hm_fi7, hm_sv7, hm_fr8, hm_li8, hm_ai8, hm_si8, hm_fr9, hm_li9, hm_ai9, hm_si9, hm_fr10, hm_li10, hm_ai10, hm_si10, hm_fr11, hm_li11, hm_ai11, hm_si11, hm_fr12, hm_li12, hm_ai12, hm_si12, hm_fr13, hm_li13, hm_ai13, hm_si13, hm_fr14, hm_li14, hm_ai14, hm_si14, hm_fi15, hm_sv15, hm_fr16, hm_li16, hm_ai16, hm_si16, hm_fr17, hm_li17, hm_ai17, hm_si17, hm_fi18, hm_sv18, hm_fi19, hm_sv19, hm_fi20, hm_sv20, hm_fi21, hm_sv21, hm_fi22, hm_sv22, hm_fi23, hm_sv23, hm_fi24, hm_sv24, hm_fr25, hm_li25, hm_ai25, hm_si25, hm_fr26, hm_li26, hm_ai26, hm_si26, hm_fr27, hm_li27, hm_ai27, hm_si27, hm_fr28, hm_li28, hm_ai28, hm_si28, hm_fl, hm_sl, sX12_isSingle y v c hg h7 hR.zm, bI_0, e, Bool.true_eq_false, if_false, m1, ← hR.mt hi, hp, n32_mm, if_true]
    · have j7 : j < 7 := by omega
      have hne := gm_ok_ne (show j < 1000 by omega)
      refine gm_same hR (if gm_pr (xw_mb w) (xw_lk w) i n = nI j then (if gm_pr (xw_mb w) (xw_lk w) j n = nI i then 1 else 0) else 0) ?_ ?_
      · obtain ⟨f, rfl⟩ : ∃ f, g = f + 1 := ⟨g - 1, by omega⟩
        unfold aX11_happy
        rw [eX11_happy]
        simp only [Option.bind_some, Option.bind_none, ah_rI_s, ah_rL_s, ah_rV_s, hx_v0, hx_fr0_0, hx_fr0_1, hx_fr0_2, hx_fr0_3, hx_fr0_4, hx_fi0_5, hx_sv0_5, hx_v1, hx_fr1_0, hx_fi1_1, hx_sv1_1, hx_v3, hx_fr3_0, hx_fr3_1, hx_fi3_2, hx_sv3_2, hx_fi3_3, hx_sv3_3, hx_fi3_4, hx_sv3_4, hx_fi3_5, hx_sv3_5, hx_fi3_6, hx_sv3_6, hx_fr3_7, hx_v5, hx_fi5_0, hx_sv5_0, hx_fr5_1, hx_fr5_2, hx_fr5_3, hx_fr5_4, hx_v11, hx_fi11_0, hx_sv11_0, hx_fr11_1, hx_fr11_2, hx_fr11_3, hx_fr11_4, hx_fi11_5, hx_sv11_5, hx_fi11_6, hx_sv11_6, hx_fi11_7, hx_sv11_7, hx_fi11_8, hx_sv11_8, hx_v15, hx_fi15_0, hx_sv15_0, hx_fr15_1, hx_fr15_2, hx_fr15_3, hx_fr15_4, hx_v20, hx_fi20_0, hx_sv20_0, hx_fi20_1, hx_sv20_1, hx_fi20_2, hx_sv20_2, hx_fi20_3, hx_sv20_3, hx_fr20_4, hx_fr20_5, hx_fr20_6, hx_fr20_7, hx_fi20_8, hx_sv20_8, hx_fi20_9, hx_sv20_9, hx_fi20_10, hx_sv20_10, hx_fi20_11, hx_sv20_11, hx_v25, hx_fi25_0, hx_sv25_0, hx_fi25_1, hx_sv25_1, hx_fl, hx_sl, hx_fr25_3, hx_li2, hx_ai2, hx_si2, hx_li6, hx_ai6, hx_si6, hx_li7, hx_ai7, hx_si7, hx_li8, hx_ai8, hx_si8, hx_li9, hx_ai9, hx_si9, hx_li10, hx_ai10, hx_si10, hx_li12, hx_ai12, hx_si12, hx_li13, hx_ai13, hx_si13, hx_li14, hx_ai14, hx_si14, hx_li16, hx_ai16, hx_si16, hx_li17, hx_ai17, hx_si17, hx_li18, hx_ai18, hx_si18, hx_li19, hx_ai19, hx_si19, hx_li21, hx_ai21, hx_si21, hx_li22, hx_ai22, hx_si22, hx_li24, hx_ai24, hx_si24, hx_li26, hx_ai26, hx_si26, hx_li27, hx_ai27, hx_si27, hx_li28, hx_ai28, hx_si28, hx_li29, hx_ai29, hx_si29, hx_li30, hx_ai30, hx_si30, hx_li31, hx_ai31, hx_si31, hx_li32, hx_ai32, hx_si32, hx_li33, hx_ai33, hx_si33, hx_lr4, hx_lr23, hx_sf0, hx_sf1, hx_ss1, hx_sf2, hx_ss2, hx_sf3, hx_ss3, hx_lkli, hx_lksi, i7, sX0_has z w b hg h7 hR.zx, bI_0, e, Bool.true_eq_false, if_false, sX0_isPaired z w b hg h7 hR.zx hR.mo i hi, hp, hne, decide_false, Bool.not_false, sX0_favouriteOf z w b hg hR.rg h7 hR.zx i i7, sX0_favouriteOf z w b hg hR.rg h7 hR.zx j j7]
        split
        · split <;> rfl
        · rfl
      · rw [gm_pr_c (a := i) h7 (fun k hk => hR.mb hi hk) (fun k hk => hR.lk hi hk), gm_pr_c (a := j) h7 (fun k hk => hR.mb hj hk) (fun k hk => hR.lk hj hk)]
        obtain ⟨f, rfl⟩ : ∃ f, g = f + 1 := ⟨g - 1, by omega⟩
        unfold aX12_happy
        rw [eX12_happy]
        simp only [Option.bind_some, Option.bind_none, ah_rI_s, ah_rL_s, ah_rV_s, hm_vI, hm_fr0, hm_li0, hm_ai0, hm_si0, hm_fi1, hm_sv1, hm_fi2, hm_sv2, hm_fi3, hm_sv3, hm_fi4, hm_sv4, hm_fi5, hm_sv5, hm_fi6, hm_sv6, hm_fi7, hm_sv7, hm_fr8, hm_li8, hm_ai8, hm_si8, hm_fr9, hm_li9, hm_ai9, hm_si9, hm_fr10, hm_li10, hm_ai10, hm_si10, hm_fr11, hm_li11, hm_ai11, hm_si11, hm_fr12, hm_li12, hm_ai12, hm_si12, hm_fr13, hm_li13, hm_ai13, hm_si13, hm_fr14, hm_li14, hm_ai14, hm_si14, hm_fi15, hm_sv15, hm_fr16, hm_li16, hm_ai16, hm_si16, hm_fr17, hm_li17, hm_ai17, hm_si17, hm_fi18, hm_sv18, hm_fi19, hm_sv19, hm_fi20, hm_sv20, hm_fi21, hm_sv21, hm_fi22, hm_sv22, hm_fi23, hm_sv23, hm_fi24, hm_sv24, hm_fr25, hm_li25, hm_ai25, hm_si25, hm_fr26, hm_li26, hm_ai26, hm_si26, hm_fr27, hm_li27, hm_ai27, hm_si27, hm_fr28, hm_li28, hm_ai28, hm_si28, hm_fl, hm_sl, sX12_isSingle y v c hg h7 hR.zm, bI_0, e, Bool.true_eq_false, if_false, m1, ← hR.mt hi, hp, hne, sX12_preferredOf y v c hg h7 hR.zm i i7, sX12_preferredOf y v c hg h7 hR.zm j j7]
        split
        · split <;> rfl
        · rfl
end PR5
