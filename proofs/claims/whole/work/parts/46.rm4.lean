/-! the reference's rows beside the class's: stable -/
theorem gx_st2 {n : Nat} {ok : Nat → Nat → Bool} {lv : Nat → Nat → Nat} {X : gx_S} {h : Nat} (hh : h < 100000) (h1 : X.1.1 = nI h) (h2 : X.1.2.1 = 0) (r : Nat → Nat) {P2 K2 M2 : Nat} (hM2 : M2 ≤ 30) : gx_st 2 n 30 ok lv X (r, P2, K2, M2) = if dq (rw_b n ok lv r) = true then X else if h = 0 then ((nI 1, 0, nI P2, nI K2, nI M2), gm_cpy (enr r) X.2 7) else ((nI (h + 1), X.1.2), X.2) := by
  unfold gx_st gx_j
  dsimp only
  rw [if_neg (by omega), show decide ((2 : Int32) = 2) = true from rfl, Bool.true_and, h1, h2, nI_1]
  have e0 : gx_rk 2 P2 K2 M2 = 0 := by
    unfold gx_rk
    rw [if_neg (by decide), if_neg (by decide)]
  rw [e0]
  by_cases c : dq (rw_b n ok lv r) = true
  · rw [if_pos c, if_pos c]
  · rw [if_neg c, if_neg c]
    by_cases c0 : h = 0
    · rw [if_pos c0, c0, if_pos (Or.inl (show nI (0 + 1) = 1 from rfl))]
    · rw [if_neg c0, if_neg]
      rintro (h3 | h3)
      · rw [show (1 : Int32) = nI 1 from rfl, nI_eq (by omega) (by omega)] at h3
        omega
      · exact absurd h3 (by decide)
theorem gx_cnt {n : Nat} {ok : Nat → Nat → Bool} {lv : Nat → Nat → Nat} : ∀ (l : List ((Nat → Nat) × Nat × Nat × Nat)) (X : gx_S) (h : Nat), X.1.1 = nI h → X.1.2.1 = 0 → h + l.length < 10000 → (∀ i ∈ l, i.2.2.2 ≤ 30) → ∃ h2, (l.foldl (gx_st 2 n 30 ok lv) X).1.1 = nI h2 ∧ h ≤ h2 ∧ h2 < 10000 ∧ ((∃ i ∈ l, ¬ rw_b n ok lv i.1) → h < h2)
  | [], X, h, h1, _, h3, _ => ⟨h, h1, Nat.le_refl _, by simp only [List.length_nil] at h3; omega, by rintro ⟨i, hi, -⟩; exact absurd hi List.not_mem_nil⟩
  | x :: l, X, h, h1, h2, h3, h4 => by
    rw [List.length_cons] at h3
    rw [List.foldl_cons]
    have est := gx_st2 (n := n) (ok := ok) (lv := lv) (P2 := x.2.1) (K2 := x.2.2.1) (by omega) h1 h2 x.1 (h4 x List.mem_cons_self)
    rw [show gx_st 2 n 30 ok lv X x = _ from est]
    have h5 : ∀ i ∈ l, i.2.2.2 ≤ 30 := fun i hi => h4 i (List.mem_cons_of_mem _ hi)
    by_cases c : dq (rw_b n ok lv x.1) = true
    · rw [if_pos c]
      obtain ⟨k, k1, k2, k3, k4⟩ := gx_cnt l X h h1 h2 (by omega) h5
      refine ⟨k, k1, k2, k3, ?_⟩
      rintro ⟨i, hi, hb⟩
      rcases List.mem_cons.mp hi with e | e
      · rw [e] at hb
        exact absurd (dq_i.mp c) hb
      · exact k4 ⟨i, e, hb⟩
    · rw [if_neg c]
      by_cases c0 : h = 0
      · rw [if_pos c0]
        obtain ⟨k, k1, k2, k3, k4⟩ := gx_cnt l ((nI 1, 0, nI x.2.1, nI x.2.2.1, nI x.2.2.2), gm_cpy (enr x.1) X.2 7) 1 rfl rfl (by omega) h5
        exact ⟨k, k1, by omega, k3, fun _ => by omega⟩
      · rw [if_neg c0]
        obtain ⟨k, k1, k2, k3, k4⟩ := gx_cnt l ((nI (h + 1), X.1.2), X.2) (h + 1) rfl h2 (by omega) h5
        exact ⟨k, k1, by omega, k3, fun _ => by omega⟩
section RM4
variable {g : Nat}
theorem sX12_stableS (hg : 4000 ≤ g) (y : Nat → Int32) (v : Nat → Nat → Int32) (c : Int64) {n : Nat} (hn : n ≤ 7) (hz : y 2 = nI n) {ok : Nat → Nat → Bool} {lv dv : Nat → Nat → Nat} (hD : mx_D n v ok lv dv) (q : Int32) {r : Nat → Nat} (hr : rw_V n ok r) (f h : Nat) (hh : h < 20000) (Pr : Int32) (t : Nat → Int32) : ah_run (kX12_stableOf g) (f + 1) 11 [(0, .ref 0), (1, .int q), (2, .int (nI h)), (3, .int Pr), (4, .int 1)] [] (hm y (mx_w v r t) c) = ah_run (kX12_stableOf g) f 11 [(0, .ref 0), (1, .int q), (2, .int (nI (if dq (rw_b n ok lv r) = true then h else h + 1))), (3, .int (if dq (rw_b n ok lv r) = true then Pr else if h = 0 then nI (rw_s (rw_P r) n) else Pr)), (4, .int (bI (rw_N n ok n r).1))] [] (hm y (mx_w v (rw_N n ok n r).2 (if dq (rw_b n ok lv r) = true then t else if h = 0 then gm_cpy (enr r) t 7 else t)) c) := by
  have hN := fun t => sX12_nextRow hg y v c t hn hz hD hr
  have hS := sX12_isStable hg y v c t hn hz hD hr
  have p1 := sX12_pairsRow hg y v c (gm_cpy (enr r) t 7) hn hz hr
  have cp := hm_cp13_14 hg y (mx_w v r t) c
  rw [mx_w13, mx_w14, gm_cpy_cpy, mx_ub] at cp
  have e1 : (nI (h + 1) = (1 : Int32)) = (h = 0) := by
    rw [show (1 : Int32) = nI 1 from rfl, propext (nI_eq (by omega) (by omega))]
    exact propext ⟨fun h => by omega, fun h => by omega⟩
  simp only [rX12_stableOf_11, n32_10, if_false, ob_s, ob_n, ar_I, ar_L, ar_V, hm_vI, hm_fr0, hm_li0, hm_ai0, hm_si0, hm_fi1, hm_sv1, hm_fi2, hm_sv2, hm_fi3, hm_sv3, hm_fi4, hm_sv4, hm_fi5, hm_sv5, hm_fi6, hm_sv6, hm_fi7, hm_sv7, hm_fr8, hm_li8, hm_ai8, hm_si8, hm_fr9, hm_li9, hm_ai9, hm_si9, hm_fr10, hm_li10, hm_ai10, hm_si10, hm_fr11, hm_li11, hm_ai11, hm_si11, hm_fr12, hm_li12, hm_ai12, hm_si12, hm_fr13, hm_li13, hm_ai13, hm_si13, hm_fr14, hm_li14, hm_ai14, hm_si14, hm_fi15, hm_sv15, hm_fr16, hm_li16, hm_ai16, hm_si16, hm_fr17, hm_li17, hm_ai17, hm_si17, hm_fi18, hm_sv18, hm_fi19, hm_sv19, hm_fi20, hm_sv20, hm_fi21, hm_sv21, hm_fi22, hm_sv22, hm_fi23, hm_sv23, hm_fi24, hm_sv24, hm_fr25, hm_li25, hm_ai25, hm_si25, hm_fr26, hm_li26, hm_ai26, hm_si26, hm_fr27, hm_li27, hm_ai27, hm_si27, hm_fr28, hm_li28, hm_ai28, hm_si28, hm_fl, hm_sl, hS, hN, p1, cp, bI_0, nI_1, i32_a0, e1]
  by_cases hb : rw_b n ok lv r
  · rw [dq_t hb, Bool.not_true, if_pos rfl, if_pos rfl, if_pos rfl, if_pos rfl, if_pos rfl]
  · rw [dq_f hb, Bool.not_false, if_neg (by decide), if_neg (by decide), if_neg (show ¬ false = true by decide), if_neg (show ¬ false = true by decide), if_neg (show ¬ false = true by decide)]
    by_cases h0 : h = 0
    · rw [if_pos h0, if_pos h0, if_pos h0]
    · rw [if_neg h0, if_neg h0, if_neg h0]
theorem sX12_stableL (hg : 4000 ≤ g) (y : Nat → Int32) (v : Nat → Nat → Int32) (c : Int64) {n : Nat} (hn : n ≤ 7) (hz : y 2 = nI n) {ok : Nat → Nat → Bool} {lv dv : Nat → Nat → Nat} (hD : mx_D n v ok lv dv) {q : Int32} (hq : gx_q q) (re : Nat → Nat) : ∀ (l : List ((Nat → Nat) × Nat × Nat × Nat)) (x : (Nat → Nat) × Nat × Nat × Nat) (F h : Nat) (X : gx_S) (Pr : Int32) (t : Nat → Int32), rw_c (rw_N n ok n) (x :: l) (false, re) → (∀ i ∈ x :: l, rw_I n ok lv dv n i.1 i.2.1 i.2.2.1 i.2.2.2) → l.length + 2 ≤ F → h + l.length < 10000 → X.1.1 = nI h → X.1.2.1 = 0 → Pr = (if h = 0 then -1 else X.1.2.2.1) → (∀ i, i < 7 → t i = X.2 i) → ∃ r2 t2, ah_run (kX12_stableOf g) F 11 [(0, .ref 0), (1, .int q), (2, .int (nI h)), (3, .int Pr), (4, .int 1)] [] (hm y (mx_w v x.1 t) c) = some (some (.int (gx_an q ((x :: l).foldl (gx_st 2 n 30 ok lv) X).1.1 (if ((x :: l).foldl (gx_st 2 n 30 ok lv) X).1.1 = 0 then -1 else ((x :: l).foldl (gx_st 2 n 30 ok lv) X).1.2.2.1) ((x :: l).foldl (gx_st 2 n 30 ok lv) X).2)), hm y (mx_w v r2 t2) c) := by
  intro l
  induction l with
  | nil =>
    intro x F h X Pr t hc hI hF hh h1 h2 h3 ht
    rw [List.length_nil] at hF hh
    obtain ⟨f, rfl⟩ : ∃ f, F = (f + 1) + 1 := ⟨F - 2, by omega⟩
    have i2 := hI x List.mem_cons_self
    obtain ⟨b1, b2, b3⟩ := rw_M30 i2 hn hD.2.2.2.1 hD.2.2.2.2.1
    have est := gx_st2 (n := n) (ok := ok) (lv := lv) (P2 := x.2.1) (K2 := x.2.2.1) (by omega) h1 h2 x.1 b3
    rw [List.foldl_cons, List.foldl_nil, show gx_st 2 n 30 ok lv X x = _ from est, sX12_stableS hg y v c hn hz hD q i2.1 (f + 1) h (by omega) Pr t, show rw_N n ok n x.1 = (false, re) from hc, rX12_stableOf_11]
    simp only [bI_f, n32_00, if_true, ob_s, ob_n, ar_I, ar_L, ar_V, hm_vI, hm_fr0, hm_li0, hm_ai0, hm_si0, hm_fi1, hm_sv1, hm_fi2, hm_sv2, hm_fi3, hm_sv3, hm_fi4, hm_sv4, hm_fi5, hm_sv5, hm_fi6, hm_sv6, hm_fi7, hm_sv7, hm_fr8, hm_li8, hm_ai8, hm_si8, hm_fr9, hm_li9, hm_ai9, hm_si9, hm_fr10, hm_li10, hm_ai10, hm_si10, hm_fr11, hm_li11, hm_ai11, hm_si11, hm_fr12, hm_li12, hm_ai12, hm_si12, hm_fr13, hm_li13, hm_ai13, hm_si13, hm_fr14, hm_li14, hm_ai14, hm_si14, hm_fi15, hm_sv15, hm_fr16, hm_li16, hm_ai16, hm_si16, hm_fr17, hm_li17, hm_ai17, hm_si17, hm_fi18, hm_sv18, hm_fi19, hm_sv19, hm_fi20, hm_sv20, hm_fi21, hm_sv21, hm_fi22, hm_sv22, hm_fi23, hm_sv23, hm_fi24, hm_sv24, hm_fr25, hm_li25, hm_ai25, hm_si25, hm_fr26, hm_li26, hm_ai26, hm_si26, hm_fr27, hm_li27, hm_ai27, hm_si27, hm_fr28, hm_li28, hm_ai28, hm_si28, hm_fl, hm_sl, mx_w14]
    have k0 : ∀ k : Nat, k < 100000 → (nI k = (0 : Int32)) = (k = 0) := fun k hk => by
      rw [show (0 : Int32) = nI 0 from rfl, propext (nI_eq (by omega) (by omega))]
    refine ⟨re, (if dq (rw_b n ok lv x.1) = true then t else if h = 0 then gm_cpy (enr x.1) t 7 else t), ?_⟩
    by_cases hb : dq (rw_b n ok lv x.1) = true
    · simp only [hb, if_true]
      simp only [h1, k0 h (by omega)]
      rw [← h3]
      exact hm_told y v c t X.2 re hq (nI h) Pr ht
    · simp only [hb, Bool.false_eq_true, if_false]
      by_cases h0 : h = 0
      · simp only [h0, if_true]
        rw [if_neg (show ¬ nI 1 = (0 : Int32) by decide), i2.2.2.1]
        exact hm_told y v c _ (gm_cpy (enr x.1) X.2 7) re hq (nI 1) _ (fun i hi => by rw [gm_cpy_lt hi, gm_cpy_lt hi])
      · simp only [h0, if_false]
        rw [if_neg (show ¬ nI (h + 1) = (0 : Int32) by rw [k0 (h + 1) (by omega)]; omega), show Pr = X.1.2.2.1 by rw [h3, if_neg h0]]
        exact hm_told y v c t X.2 re hq (nI (h + 1)) _ ht
  | cons x2 l ih =>
    intro x F h X Pr t hc hI hF hh h1 h2 h3 ht
    rw [List.length_cons] at hF hh
    obtain ⟨f, rfl⟩ : ∃ f, F = f + 1 := ⟨F - 1, by omega⟩
    have hI2 : ∀ i ∈ x2 :: l, rw_I n ok lv dv n i.1 i.2.1 i.2.2.1 i.2.2.2 := fun i hi => hI i (List.mem_cons_of_mem _ hi)
    have i2 := hI x List.mem_cons_self
    obtain ⟨b1, b2, b3⟩ := rw_M30 i2 hn hD.2.2.2.1 hD.2.2.2.2.1
    have est := gx_st2 (n := n) (ok := ok) (lv := lv) (P2 := x.2.1) (K2 := x.2.2.1) (by omega) h1 h2 x.1 b3
    rw [List.foldl_cons, show gx_st 2 n 30 ok lv X x = _ from est, sX12_stableS hg y v c hn hz hD q i2.1 f h (by omega) Pr t, hc.1]
    simp only [bI_t]
    by_cases hb : dq (rw_b n ok lv x.1) = true
    · simp only [hb, if_true]
      exact ih x2 f h X Pr t hc.2 hI2 (by omega) (by omega) h1 h2 h3 ht
    · simp only [hb, Bool.false_eq_true, if_false]
      by_cases h0 : h = 0
      · simp only [h0, if_true]
        exact ih x2 f 1 ((nI 1, 0, nI x.2.1, nI x.2.2.1, nI x.2.2.2), gm_cpy (enr x.1) X.2 7) _ (gm_cpy (enr x.1) t 7) hc.2 hI2 (by omega) (by omega) rfl rfl (by
          rw [if_neg (by decide)]
          exact congrArg nI i2.2.2.1.symm) (fun i hi => by
          show gm_cpy (enr x.1) t 7 i = gm_cpy (enr x.1) X.2 7 i
          rw [gm_cpy_lt hi, gm_cpy_lt hi])
      · simp only [h0, if_false]
        exact ih x2 f (h + 1) ((nI (h + 1), X.1.2), X.2) Pr t hc.2 hI2 (by omega) (by omega) rfl h2 (by
          rw [if_neg (by omega)]
          rw [h3, if_neg h0]) ht
end RM4
