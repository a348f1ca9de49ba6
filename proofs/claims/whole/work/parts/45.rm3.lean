/-! the reference's rows beside the class's: most, best -/
def gx_an (q a b : Int32) (f : Nat → Int32) : Int32 := if q = 0 then a else if q = 1 then b else f (q - 10).toNatClampNeg
def gx_q (q : Int32) : Prop := q = 0 ∨ q = 1 ∨ ∃ i : Nat, i < 7 ∧ q = nI (10 + i)
theorem gx_q10 (i : Nat) : nI (10 + i) - 10 = nI i := by
  rw [show (10 : Int32) = nI 10 from rfl, ← nI_add, Int32.add_comm, Int32.add_sub_cancel]
theorem rw_M30 {n : Nat} {ok : Nat → Nat → Bool} {lv dv : Nat → Nat → Nat} {r : Nat → Nat} {P K M : Nat} (h : rw_I n ok lv dv n r P K M) (hn : n ≤ 7) (hl : ∀ i j, lv i j ≤ 18) (hd : ∀ i j, dv i j ≤ 5) : P ≤ 7 ∧ K ≤ 126 ∧ M ≤ 30 := by
  obtain ⟨h1, h2, h3, h4, h5⟩ := h
  refine ⟨?_, ?_, ?_⟩
  · have := rw_s_le (f := rw_P r) (c := 1) n (fun i _ => by unfold rw_P; split <;> omega)
    omega
  · have := rw_s_le (f := rw_K lv r) (c := 18) n (fun i _ => by unfold rw_K; split; exact hl _ _; omega)
    omega
  · by_cases e : n = 7
    · subst e
      have h6 : rw_s (rw_K dv r) 7 = rw_s (rw_K dv r) 6 + rw_K dv r 6 := rfl
      have h7 : rw_K dv r 6 = 0 := by
        unfold rw_K
        have := h1.lt 6
        rw [if_neg (by omega)]
      have := rw_s_le (f := rw_K dv r) (c := 5) 6 (fun i _ => by unfold rw_K; split; exact hd _ _; omega)
      omega
    · have := rw_s_le (f := rw_K dv r) (c := 5) n (fun i _ => by unfold rw_K; split; exact hd _ _; omega)
      omega
theorem nI_h1 {h : Nat} (hh : h < 100000) : ¬ (nI (h + 1) + 1 = (1 : Int32)) := by
  intro e
  rw [nI_1, show (1 : Int32) = nI 1 from rfl, nI_eq (by omega) (by omega)] at e
  omega
theorem gx_rk0 (P K M : Nat) : gx_rk 0 P K M = nI (P * 1000 + K) := by
  unfold gx_rk
  rw [if_pos rfl, show (1000 : Int32) = nI 1000 from rfl, pk_mul, nI_add]
theorem gx_rk1 (P K M : Nat) : gx_rk 1 P K M = nI (K * 1000) - nI M := by
  unfold gx_rk
  rw [if_neg (by decide), if_pos rfl, show (1000 : Int32) = nI 1000 from rfl, pk_mul]
theorem gx_st0 {n : Nat} {ok : Nat → Nat → Bool} {lv : Nat → Nat → Nat} {X : gx_S} {h P K : Nat} (hh : h < 100000) (h1 : X.1.1 = nI (h + 1)) (h2 : X.1.2.1 = nI (P * 1000 + K)) (hP : P ≤ 7) (hK : K ≤ 126) (r : Nat → Nat) {P2 K2 M2 : Nat} (hP2 : P2 ≤ 7) (hK2 : K2 ≤ 126) (hM2 : M2 ≤ 30) : gx_st 0 n 30 ok lv X (r, P2, K2, M2) = if P < P2 ∨ (P2 = P ∧ K < K2) then ((nI (h + 2), nI (P2 * 1000 + K2), nI P2, nI K2, nI M2), gm_cpy (enr r) X.2 7) else ((nI (h + 2), X.1.2), X.2) := by
  unfold gx_st gx_j
  dsimp only
  rw [if_neg (by omega), show decide ((0 : Int32) = 2) = false from rfl, Bool.false_and, if_neg (by decide), h1, h2, gx_rk0, nI_1]
  have e1 : ¬ nI (h + 1 + 1) = (1 : Int32) := by rw [← nI_1]; exact nI_h1 hh
  by_cases c : P < P2 ∨ (P2 = P ∧ K < K2)
  · rw [if_pos c, if_pos (Or.inr ((nI_ltI (by omega) (by omega)).mpr (by omega)))]
  · rw [if_neg c, if_neg]
    rintro (h3 | h3)
    · exact e1 h3
    · rw [nI_ltI (by omega) (by omega)] at h3
      omega
theorem gx_st1 {n A : Nat} {ok : Nat → Nat → Bool} {lv : Nat → Nat → Nat} {X : gx_S} {h K M : Nat} (hh : h < 100000) (h1 : X.1.1 = nI (h + 1)) (h2 : X.1.2.1 = nI (K * 1000) - nI M) (hK : K ≤ 126) (hM : M ≤ 30) (r : Nat → Nat) {P2 K2 M2 : Nat} (hK2 : K2 ≤ 126) (hM2 : M2 ≤ 30) : gx_st 1 n A ok lv X (r, P2, K2, M2) = if A < M2 then X else if K < K2 ∨ (K2 = K ∧ M2 < M) then ((nI (h + 2), nI (K2 * 1000) - nI M2, nI P2, nI K2, nI M2), gm_cpy (enr r) X.2 7) else ((nI (h + 2), X.1.2), X.2) := by
  unfold gx_st gx_j
  dsimp only
  by_cases c0 : A < M2
  · rw [if_pos c0, if_pos c0]
  · rw [if_neg c0, if_neg c0]
    rw [show decide ((1 : Int32) = 2) = false from rfl, Bool.false_and, if_neg (by decide), h1, h2, gx_rk1, nI_1]
    have e1 : ¬ nI (h + 1 + 1) = (1 : Int32) := by rw [← nI_1]; exact nI_h1 hh
    have t1 : (nI (K * 1000) - nI M).toInt = ((K * 1000 : Nat) : Int) - M := pk_sub_toInt (by omega) (by omega)
    have t2 : (nI (K2 * 1000) - nI M2).toInt = ((K2 * 1000 : Nat) : Int) - M2 := pk_sub_toInt (by omega) (by omega)
    by_cases c : K < K2 ∨ (K2 = K ∧ M2 < M)
    · rw [if_pos c, if_pos (Or.inr (by rw [i32_lt, t1, t2]; omega))]
    · rw [if_neg c, if_neg]
      rintro (h3 | h3)
      · exact e1 h3
      · rw [i32_lt, t1, t2] at h3
        omega
section RM3
variable {g : Nat}
theorem hm_told (y : Nat → Int32) (v : Nat → Nat → Int32) (c : Int64) (t t2 : Nat → Int32) (r : Nat → Nat) {q : Int32} (hq : gx_q q) (a b : Int32) (ht : ∀ i, i < 7 → t i = t2 i) : (if q = 0 then some (some (Value.int a), hm y (mx_w v r t) c) else if q = 1 then some (some (Value.int b), hm y (mx_w v r t) c) else (ah_rd t 7 (q - 10)).bind fun v5 => some (some (Value.int v5), hm y (mx_w v r t) c)) = some (some (Value.int (gx_an q a b t2)), hm y (mx_w v r t) c) := by
  unfold gx_an
  rcases hq with e | e | ⟨i, hi, e⟩
  · rw [if_pos e, if_pos e]
  · have : ¬ q = 0 := by rw [e]; decide
    rw [if_neg this, if_neg this, if_pos e, if_pos e]
  · have e0 : ¬ q = 0 := by
      rw [e, show (0 : Int32) = nI 0 from rfl, nI_eq (by omega) (by omega)]
      omega
    have e1 : ¬ q = 1 := by
      rw [e, show (1 : Int32) = nI 1 from rfl, nI_eq (by omega) (by omega)]
      omega
    rw [if_neg e0, if_neg e0, if_neg e1, if_neg e1, e, gx_q10, ah_rdN hi (by decide), ob_s, nI_clamp (by omega), ht i hi]
theorem sX12_mostL (hg : 4000 ≤ g) (y : Nat → Int32) (v : Nat → Nat → Int32) (c : Int64) {n : Nat} (hn : n ≤ 7) (hz : y 2 = nI n) {ok : Nat → Nat → Bool} {lv dv : Nat → Nat → Nat} (hD : mx_D n v ok lv dv) {q : Int32} (hq : gx_q q) (re : Nat → Nat) : ∀ (l : List ((Nat → Nat) × Nat × Nat × Nat)) (x : (Nat → Nat) × Nat × Nat × Nat) (F h P K : Nat) (X : gx_S) (t : Nat → Int32), rw_c (rw_N n ok n) (x :: l) (false, re) → (∀ i ∈ x :: l, rw_I n ok lv dv n i.1 i.2.1 i.2.2.1 i.2.2.2) → l.length + 1 ≤ F → h + l.length < 10000 → X.1.1 = nI (h + 1) → X.1.2.1 = nI (P * 1000 + K) → X.1.2.2.1 = nI P → X.1.2.2.2.1 = nI K → P ≤ 7 → K ≤ 126 → (∀ i, i < 7 → t i = X.2 i) → ∃ r2 t2, ah_run (kX12_mostOf g) F 8 [(0, .ref 0), (1, .int q), (2, .int (nI P)), (3, .int (nI K))] [] (hm y (mx_w v x.1 t) c) = some (some (.int (gx_an q (l.foldl (gx_st 0 n 30 ok lv) X).1.2.2.1 (l.foldl (gx_st 0 n 30 ok lv) X).1.2.2.2.1 (l.foldl (gx_st 0 n 30 ok lv) X).2)), hm y (mx_w v r2 t2) c) := by
  intro l
  induction l with
  | nil =>
    intro x F h P K X t hc hI hF hh h1 h2 h3 h4 hP hK ht
    obtain ⟨f, rfl⟩ : ∃ f, F = f + 1 := ⟨F - 1, by omega⟩
    have hN := sX12_nextRow hg y v c t hn hz hD (hI x List.mem_cons_self).1
    rw [show rw_N n ok n x.1 = (false, re) from hc] at hN
    refine ⟨re, t, ?_⟩
    rw [List.foldl_nil, h3, h4]
    simp only [rX12_mostOf_8, ob_s, ob_n, ar_I, ar_L, ar_V, hm_vI, hm_fr0, hm_li0, hm_ai0, hm_si0, hm_fi1, hm_sv1, hm_fi2, hm_sv2, hm_fi3, hm_sv3, hm_fi4, hm_sv4, hm_fi5, hm_sv5, hm_fi6, hm_sv6, hm_fi7, hm_sv7, hm_fr8, hm_li8, hm_ai8, hm_si8, hm_fr9, hm_li9, hm_ai9, hm_si9, hm_fr10, hm_li10, hm_ai10, hm_si10, hm_fr11, hm_li11, hm_ai11, hm_si11, hm_fr12, hm_li12, hm_ai12, hm_si12, hm_fr13, hm_li13, hm_ai13, hm_si13, hm_fr14, hm_li14, hm_ai14, hm_si14, hm_fi15, hm_sv15, hm_fr16, hm_li16, hm_ai16, hm_si16, hm_fr17, hm_li17, hm_ai17, hm_si17, hm_fi18, hm_sv18, hm_fi19, hm_sv19, hm_fi20, hm_sv20, hm_fi21, hm_sv21, hm_fi22, hm_sv22, hm_fi23, hm_sv23, hm_fi24, hm_sv24, hm_fr25, hm_li25, hm_ai25, hm_si25, hm_fr26, hm_li26, hm_ai26, hm_si26, hm_fr27, hm_li27, hm_ai27, hm_si27, hm_fr28, hm_li28, hm_ai28, hm_si28, hm_fl, hm_sl, hN, bI_f, n32_00, if_true, mx_w14]
    exact hm_told y v c t X.2 re hq (nI P) (nI K) ht
  | cons x2 l ih =>
    intro x F h P K X t hc hI hF hh h1 h2 h3 h4 hP hK ht
    rw [List.length_cons] at hF hh
    obtain ⟨f, rfl⟩ : ∃ f, F = f + 1 := ⟨F - 1, by omega⟩
    have hN := sX12_nextRow hg y v c t hn hz hD (hI x List.mem_cons_self).1
    rw [hc.1] at hN
    have hI2 : ∀ i ∈ x2 :: l, rw_I n ok lv dv n i.1 i.2.1 i.2.2.1 i.2.2.2 := fun i hi => hI i (List.mem_cons_of_mem _ hi)
    have i2 := hI2 x2 List.mem_cons_self
    obtain ⟨b1, b2, b3⟩ := rw_M30 i2 hn hD.2.2.2.1 hD.2.2.2.2.1
    have p1 := sX12_pairsRow hg y v c t hn hz i2.1
    have p2 := sX12_likenessRow hg y v c t hn hz hD i2.1
    rw [← i2.2.2.1] at p1
    rw [← i2.2.2.2.1] at p2
    have cp := hm_cp13_14 hg y (mx_w v x2.1 t) c
    rw [mx_w13, mx_w14, gm_cpy_cpy, mx_ub] at cp
    rw [List.foldl_cons]
    have est := gx_st0 (n := n) (ok := ok) (lv := lv) (by omega) h1 h2 hP hK x2.1 b1 b2 b3
    rw [show gx_st 0 n 30 ok lv X x2 = _ from est]
    have step : ah_run (kX12_mostOf g) (f + 1) 8 [(0, .ref 0), (1, .int q), (2, .int (nI P)), (3, .int (nI K))] [] (hm y (mx_w v x.1 t) c) = if P < x2.2.1 ∨ (x2.2.1 = P ∧ K < x2.2.2.1) then ah_run (kX12_mostOf g) f 8 [(0, .ref 0), (1, .int q), (2, .int (nI x2.2.1)), (3, .int (nI x2.2.2.1))] [] (hm y (mx_w v x2.1 (gm_cpy (enr x2.1) t 7)) c) else ah_run (kX12_mostOf g) f 8 [(0, .ref 0), (1, .int q), (2, .int (nI P)), (3, .int (nI K))] [] (hm y (mx_w v x2.1 t) c) := by
      simp only [rX12_mostOf_8, ob_s, ob_n, ar_I, ar_L, ar_V, hm_vI, hm_fr0, hm_li0, hm_ai0, hm_si0, hm_fi1, hm_sv1, hm_fi2, hm_sv2, hm_fi3, hm_sv3, hm_fi4, hm_sv4, hm_fi5, hm_sv5, hm_fi6, hm_sv6, hm_fi7, hm_sv7, hm_fr8, hm_li8, hm_ai8, hm_si8, hm_fr9, hm_li9, hm_ai9, hm_si9, hm_fr10, hm_li10, hm_ai10, hm_si10, hm_fr11, hm_li11, hm_ai11, hm_si11, hm_fr12, hm_li12, hm_ai12, hm_si12, hm_fr13, hm_li13, hm_ai13, hm_si13, hm_fr14, hm_li14, hm_ai14, hm_si14, hm_fi15, hm_sv15, hm_fr16, hm_li16, hm_ai16, hm_si16, hm_fr17, hm_li17, hm_ai17, hm_si17, hm_fi18, hm_sv18, hm_fi19, hm_sv19, hm_fi20, hm_sv20, hm_fi21, hm_sv21, hm_fi22, hm_sv22, hm_fi23, hm_sv23, hm_fi24, hm_sv24, hm_fr25, hm_li25, hm_ai25, hm_si25, hm_fr26, hm_li26, hm_ai26, hm_si26, hm_fr27, hm_li27, hm_ai27, hm_si27, hm_fr28, hm_li28, hm_ai28, hm_si28, hm_fl, hm_sl, hN, bI_t, n32_10, if_false, p1, p2, cp, nI_lti (show P < 1000 by omega) (show x2.2.1 < 1000 by omega), nI_eqi (show x2.2.1 < 1000 by omega) (show P < 1000 by omega), nI_lti (show K < 1000 by omega) (show x2.2.2.1 < 1000 by omega)]
      by_cases c1 : P < x2.2.1
      · rw [if_pos c1, if_pos (Or.inl c1)]
      · rw [if_neg c1]
        by_cases c2 : x2.2.1 = P
        · rw [if_pos c2]
          by_cases c3 : K < x2.2.2.1
          · rw [if_pos c3, if_pos (Or.inr ⟨c2, c3⟩)]
          · rw [if_neg c3, if_neg (by omega)]
        · rw [if_neg c2, if_neg (by omega)]
    rw [step]
    by_cases c0 : P < x2.2.1 ∨ (x2.2.1 = P ∧ K < x2.2.2.1)
    · rw [if_pos c0, if_pos c0]
      exact ih x2 f (h + 1) x2.2.1 x2.2.2.1 ((nI (h + 2), nI (x2.2.1 * 1000 + x2.2.2.1), nI x2.2.1, nI x2.2.2.1, nI x2.2.2.2), gm_cpy (enr x2.1) X.2 7) (gm_cpy (enr x2.1) t 7) hc.2 hI2 (by omega) (by omega) rfl rfl rfl rfl b1 b2 (fun i hi => by
        show gm_cpy (enr x2.1) t 7 i = gm_cpy (enr x2.1) X.2 7 i
        rw [gm_cpy_lt hi, gm_cpy_lt hi])
    · rw [if_neg c0, if_neg c0]
      exact ih x2 f (h + 1) P K ((nI (h + 2), X.1.2), X.2) t hc.2 hI2 (by omega) (by omega) rfl h2 h3 h4 hP hK ht
theorem sX12_bestL (hg : 4000 ≤ g) (y : Nat → Int32) (v : Nat → Nat → Int32) (c : Int64) {n A : Nat} (hA : A ≤ 30) (hn : n ≤ 7) (hz : y 2 = nI n) {ok : Nat → Nat → Bool} {lv dv : Nat → Nat → Nat} (hD : mx_D n v ok lv dv) {q : Int32} (hq : gx_q q) (re : Nat → Nat) : ∀ (l : List ((Nat → Nat) × Nat × Nat × Nat)) (x : (Nat → Nat) × Nat × Nat × Nat) (F h K M : Nat) (X : gx_S) (t : Nat → Int32), rw_c (rw_N n ok n) (x :: l) (false, re) → (∀ i ∈ x :: l, rw_I n ok lv dv n i.1 i.2.1 i.2.2.1 i.2.2.2) → l.length + 1 ≤ F → h + l.length < 10000 → X.1.1 = nI (h + 1) → X.1.2.1 = nI (K * 1000) - nI M → X.1.2.2.2.1 = nI K → X.1.2.2.2.2 = nI M → K ≤ 126 → M ≤ 30 → (∀ i, i < 7 → t i = X.2 i) → ∃ r2 t2, ah_run (kX12_bestOf g) F 9 [(0, .ref 0), (1, .int (nI A)), (2, .int q), (3, .int (nI K)), (4, .int (nI M))] [] (hm y (mx_w v x.1 t) c) = some (some (.int (gx_an q (l.foldl (gx_st 1 n A ok lv) X).1.2.2.2.1 (l.foldl (gx_st 1 n A ok lv) X).1.2.2.2.2 (l.foldl (gx_st 1 n A ok lv) X).2)), hm y (mx_w v r2 t2) c) := by
  intro l
  induction l with
  | nil =>
    intro x F h K M X t hc hI hF hh h1 h2 h3 h4 hP hK ht
    obtain ⟨f, rfl⟩ : ∃ f, F = f + 1 := ⟨F - 1, by omega⟩
    have hN := sX12_nextRow hg y v c t hn hz hD (hI x List.mem_cons_self).1
    rw [show rw_N n ok n x.1 = (false, re) from hc] at hN
    refine ⟨re, t, ?_⟩
    rw [List.foldl_nil, h3, h4]
    simp only [rX12_bestOf_9, ob_s, ob_n, ar_I, ar_L, ar_V, hm_vI, hm_fr0, hm_li0, hm_ai0, hm_si0, hm_fi1, hm_sv1, hm_fi2, hm_sv2, hm_fi3, hm_sv3, hm_fi4, hm_sv4, hm_fi5, hm_sv5, hm_fi6, hm_sv6, hm_fi7, hm_sv7, hm_fr8, hm_li8, hm_ai8, hm_si8, hm_fr9, hm_li9, hm_ai9, hm_si9, hm_fr10, hm_li10, hm_ai10, hm_si10, hm_fr11, hm_li11, hm_ai11, hm_si11, hm_fr12, hm_li12, hm_ai12, hm_si12, hm_fr13, hm_li13, hm_ai13, hm_si13, hm_fr14, hm_li14, hm_ai14, hm_si14, hm_fi15, hm_sv15, hm_fr16, hm_li16, hm_ai16, hm_si16, hm_fr17, hm_li17, hm_ai17, hm_si17, hm_fi18, hm_sv18, hm_fi19, hm_sv19, hm_fi20, hm_sv20, hm_fi21, hm_sv21, hm_fi22, hm_sv22, hm_fi23, hm_sv23, hm_fi24, hm_sv24, hm_fr25, hm_li25, hm_ai25, hm_si25, hm_fr26, hm_li26, hm_ai26, hm_si26, hm_fr27, hm_li27, hm_ai27, hm_si27, hm_fr28, hm_li28, hm_ai28, hm_si28, hm_fl, hm_sl, hN, bI_f, n32_00, if_true, mx_w14]
    exact hm_told y v c t X.2 re hq (nI K) (nI M) ht
  | cons x2 l ih =>
    intro x F h K M X t hc hI hF hh h1 h2 h3 h4 hK hM ht
    rw [List.length_cons] at hF hh
    obtain ⟨f, rfl⟩ : ∃ f, F = f + 1 := ⟨F - 1, by omega⟩
    have hN := sX12_nextRow hg y v c t hn hz hD (hI x List.mem_cons_self).1
    rw [hc.1] at hN
    have hI2 : ∀ i ∈ x2 :: l, rw_I n ok lv dv n i.1 i.2.1 i.2.2.1 i.2.2.2 := fun i hi => hI i (List.mem_cons_of_mem _ hi)
    have i2 := hI2 x2 List.mem_cons_self
    obtain ⟨b1, b2, b3⟩ := rw_M30 i2 hn hD.2.2.2.1 hD.2.2.2.2.1
    have p1 := sX12_milesRow hg y v c t hn hz hD i2.1
    have p2 := sX12_likenessRow hg y v c t hn hz hD i2.1
    rw [← i2.2.2.2.2] at p1
    rw [← i2.2.2.2.1] at p2
    have cp := hm_cp13_14 hg y (mx_w v x2.1 t) c
    rw [mx_w13, mx_w14, gm_cpy_cpy, mx_ub] at cp
    rw [List.foldl_cons]
    have est := gx_st1 (n := n) (A := A) (ok := ok) (lv := lv) (P2 := x2.2.1) (by omega) h1 h2 hK hM x2.1 b2 b3
    rw [show gx_st 1 n A ok lv X x2 = _ from est]
    have step : ah_run (kX12_bestOf g) (f + 1) 9 [(0, .ref 0), (1, .int (nI A)), (2, .int q), (3, .int (nI K)), (4, .int (nI M))] [] (hm y (mx_w v x.1 t) c) = if A < x2.2.2.2 then ah_run (kX12_bestOf g) f 9 [(0, .ref 0), (1, .int (nI A)), (2, .int q), (3, .int (nI K)), (4, .int (nI M))] [] (hm y (mx_w v x2.1 t) c) else if K < x2.2.2.1 ∨ (x2.2.2.1 = K ∧ x2.2.2.2 < M) then ah_run (kX12_bestOf g) f 9 [(0, .ref 0), (1, .int (nI A)), (2, .int q), (3, .int (nI x2.2.2.1)), (4, .int (nI x2.2.2.2))] [] (hm y (mx_w v x2.1 (gm_cpy (enr x2.1) t 7)) c) else ah_run (kX12_bestOf g) f 9 [(0, .ref 0), (1, .int (nI A)), (2, .int q), (3, .int (nI K)), (4, .int (nI M))] [] (hm y (mx_w v x2.1 t) c) := by
      simp only [rX12_bestOf_9, ob_s, ob_n, ar_I, ar_L, ar_V, hm_vI, hm_fr0, hm_li0, hm_ai0, hm_si0, hm_fi1, hm_sv1, hm_fi2, hm_sv2, hm_fi3, hm_sv3, hm_fi4, hm_sv4, hm_fi5, hm_sv5, hm_fi6, hm_sv6, hm_fi7, hm_sv7, hm_fr8, hm_li8, hm_ai8, hm_si8, hm_fr9, hm_li9, hm_ai9, hm_si9, hm_fr10, hm_li10, hm_ai10, hm_si10, hm_fr11, hm_li11, hm_ai11, hm_si11, hm_fr12, hm_li12, hm_ai12, hm_si12, hm_fr13, hm_li13, hm_ai13, hm_si13, hm_fr14, hm_li14, hm_ai14, hm_si14, hm_fi15, hm_sv15, hm_fr16, hm_li16, hm_ai16, hm_si16, hm_fr17, hm_li17, hm_ai17, hm_si17, hm_fi18, hm_sv18, hm_fi19, hm_sv19, hm_fi20, hm_sv20, hm_fi21, hm_sv21, hm_fi22, hm_sv22, hm_fi23, hm_sv23, hm_fi24, hm_sv24, hm_fr25, hm_li25, hm_ai25, hm_si25, hm_fr26, hm_li26, hm_ai26, hm_si26, hm_fr27, hm_li27, hm_ai27, hm_si27, hm_fr28, hm_li28, hm_ai28, hm_si28, hm_fl, hm_sl, hN, bI_t, n32_10, if_false, p1, p2, cp, nI_lti (show A < 1000 by omega) (show x2.2.2.2 < 1000 by omega), nI_eqi (show x2.2.2.1 < 1000 by omega) (show K < 1000 by omega), nI_lti (show K < 1000 by omega) (show x2.2.2.1 < 1000 by omega), nI_lti (show x2.2.2.2 < 1000 by omega) (show M < 1000 by omega)]
      by_cases c0 : A < x2.2.2.2
      · rw [if_pos c0, if_pos c0]
      · rw [if_neg c0, if_neg c0]
        by_cases c1 : K < x2.2.2.1
        · rw [if_pos c1, if_pos (Or.inl c1)]
        · rw [if_neg c1]
          by_cases c2 : x2.2.2.1 = K
          · rw [if_pos c2]
            by_cases c3 : x2.2.2.2 < M
            · rw [if_pos c3, if_pos (Or.inr ⟨c2, c3⟩)]
            · rw [if_neg c3, if_neg (by omega)]
          · rw [if_neg c2, if_neg (by omega)]
    rw [step]
    by_cases cA : A < x2.2.2.2
    · rw [if_pos cA, if_pos cA]
      exact ih x2 f h K M X t hc.2 hI2 (by omega) (by omega) h1 h2 h3 h4 hK hM ht
    · rw [if_neg cA, if_neg cA]
      by_cases c0 : K < x2.2.2.1 ∨ (x2.2.2.1 = K ∧ x2.2.2.2 < M)
      · rw [if_pos c0, if_pos c0]
        exact ih x2 f (h + 1) x2.2.2.1 x2.2.2.2 ((nI (h + 2), nI (x2.2.2.1 * 1000) - nI x2.2.2.2, nI x2.2.1, nI x2.2.2.1, nI x2.2.2.2), gm_cpy (enr x2.1) X.2 7) (gm_cpy (enr x2.1) t 7) hc.2 hI2 (by omega) (by omega) rfl rfl rfl rfl b2 b3 (fun i hi => by
          show gm_cpy (enr x2.1) t 7 i = gm_cpy (enr x2.1) X.2 7 i
          rw [gm_cpy_lt hi, gm_cpy_lt hi])
      · rw [if_neg c0, if_neg c0]
        exact ih x2 f (h + 1) K M ((nI (h + 2), X.1.2), X.2) t hc.2 hI2 (by omega) (by omega) rfl h2 h3 h4 hK hM ht
end RM3
