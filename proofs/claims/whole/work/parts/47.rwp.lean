/-! pairs: most, best, stable -/
def rd_ok (v : Nat → Nat → Int32) (i j : Nat) : Bool := decide (v 11 i = -1 ∧ v 11 j = -1) && mw_mb v i j
def rd_lv (v : Nat → Nat → Int32) (i j : Nat) : Nat := min 18 (mw_lk v i j).toInt.toNat
def rd_dv (v : Nat → Nat → Int32) (i j : Nat) : Nat := min 5 (gm_far (v 10 i) (v 10 j)).toInt.toNat
theorem gm_mb_s (kd hd sz : Nat → Int32) (i j : Nat) : gm_mb kd hd sz i j = gm_mb kd hd sz j i := by
  unfold gm_mb
  rw [Bool.and_comm (gm_tk kd hd sz i j)]
  by_cases h : i = j
  · rw [h]
  · rw [decide_eq_true h, decide_eq_true (show ¬ j = i from fun e => h e.symm)]
theorem gm_lk_s (kd hd sz : Nat → Int32) (i j : Nat) : gm_lk kd hd sz i j = gm_lk kd hd sz j i := by
  unfold gm_lk
  rw [gm_mb_s kd hd sz i j]
  split
  · rw [Int32.sub_eq_add_neg, Int32.sub_eq_add_neg, Int32.sub_eq_add_neg, Int32.sub_eq_add_neg, Int32.add_assoc, Int32.add_assoc, Int32.add_comm (-gm_ap kd sz i j)]
  · rfl
theorem gm_far_r {x y : Int32} (hx1 : 0 ≤ x.toInt ∧ x.toInt ≤ 5) (hy1 : 0 ≤ y.toInt ∧ y.toInt ≤ 5) : 0 ≤ (gm_far x y).toInt ∧ (gm_far x y).toInt ≤ 5 := by
  unfold gm_far
  by_cases h : x < y
  · rw [if_pos h, i32_sub (by omega) (by omega)]
    rw [i32_lt] at h
    omega
  · rw [if_neg h, i32_sub (by omega) (by omega)]
    rw [i32_lt] at h
    omega
section RWP
variable {K n ln sn : Nat} {z : Nat → Int32} {w : Nat → Nat → Int32} {y : Nat → Int32} {v : Nat → Nat → Int32}
theorem rd_lk (hR : gm_R K n ln sn z w y v) {i j : Nat} (hi : i < n) (hj : j < n) (hb : mw_mb v i j = true) : mw_lk v i j = nI (rd_lv v i j) := by
  have h7 := hR.n7
  have hb2 : xw_mb w i j = true := by rw [hR.mb hi hj]; exact hb
  have h := gm_lk_rg (kd := w 17) (hd := w 18) (sz := w 19) hR.rg (show i < 7 by omega) (show j < 7 by omega) hb2
  have e : gm_lk (w 17) (w 18) (w 19) i j = mw_lk v i j := hR.lk hi hj
  rw [e] at h
  unfold rd_lv
  rw [show min 18 (mw_lk v i j).toInt.toNat = (mw_lk v i j).toInt.toNat by omega]
  exact i32_nI h.1
theorem rd_far (hR : gm_R K n ln sn z w y v) {i j : Nat} (hi : i < n) (hj : j < n) : gm_far (v 10 i) (v 10 j) = nI (rd_dv v i j) := by
  have h1 := (hR.sg hi).2.2.2.2.2.2.2
  have h2 := (hR.sg hj).2.2.2.2.2.2.2
  rw [hR.st hi] at h1
  rw [hR.st hj] at h2
  have h := gm_far_r h1 h2
  unfold rd_dv
  rw [show min 5 (gm_far (v 10 i) (v 10 j)).toInt.toNat = (gm_far (v 10 i) (v 10 j)).toInt.toNat by omega]
  exact i32_nI h.1
theorem rd_D (hR : gm_R K n ln sn z w y v) : mx_D n v (rd_ok v) (rd_lv v) (rd_dv v) := by
  refine ⟨fun i j _ _ => ?_, fun i j hi hj h => ?_, fun i j hi hj => rd_far hR hi hj, fun i j => Nat.min_le_left _ _, fun i j => Nat.min_le_left _ _, fun i j h => ?_⟩
  · unfold rd_ok
    rw [Bool.and_eq_true, decide_eq_true_eq]
    exact ⟨fun h => ⟨h.1.1, h.1.2, h.2⟩, fun h => ⟨⟨h.1, h.2.1⟩, h.2.2⟩⟩
  · unfold rd_ok at h
    rw [Bool.and_eq_true] at h
    exact rd_lk hR hi hj h.2
  · unfold rd_ok at h ⊢
    rw [Bool.and_eq_true, decide_eq_true_eq] at h ⊢
    exact ⟨⟨h.1.2, h.1.1⟩, by rw [mw_mb, gm_mb_s]; exact h.2⟩
theorem rd_L (hR : gm_R K n ln sn z w y v) {i j : Nat} (hi : i < n) (hj : j < n) : gx_L w i j = gx_lk (rd_ok v) (rd_lv v) i j := by
  unfold gx_L gx_lk rd_ok
  rw [hR.mt hi, hR.mt hj, hR.lk hi hj]
  by_cases c : v 11 i = -1 ∧ v 11 j = -1
  · rw [if_pos c, decide_eq_true c, Bool.true_and]
    by_cases c2 : mw_mb v i j = true
    · rw [if_pos c2]
      exact rd_lk hR hi hj c2
    · rw [if_neg c2]
      exact gm_lk_no (by cases e : mw_mb v i j; exact e; exact absurd e c2)
  · rw [if_neg c, decide_eq_false c, Bool.false_and, if_neg (by decide)]
theorem gm_R_mw (hR : gm_R K n ln sn z w y v) (r : Nat → Nat) (t : Nat → Int32) : gm_R K n ln sn z w y (mx_w v r t) := ⟨hR.1, hR.2.1, hR.2.2.1, hR.2.2.2.1, hR.2.2.2.2⟩
variable {g : Nat}
/-- the class's rows for a goal -/
theorem gq_seek (hg : 4000 ≤ g) (b : Int64) (hR : gm_R K n ln sn z w y v) (G : Int32) {A : Nat} (hA : A ≤ 100) : ∃ z2 w2 T, aX6_seek g [.ref 20, .ref 3, .int G, .int (nI A)] (hx z w b) = some (none, hx z2 w2 b) ∧ (∀ i, i < 7 → T i = -1) ∧ gm_R K n ln sn z2 w2 y v ∧ z2 14 = (gx_X G n A (rd_ok v) (rd_lv v) (rd_dv v) T).1.1 ∧ z2 15 = (gx_X G n A (rd_ok v) (rd_lv v) (rd_dv v) T).1.2.2.1 ∧ z2 16 = (gx_X G n A (rd_ok v) (rd_lv v) (rd_dv v) T).1.2.2.2.1 ∧ z2 17 = (gx_X G n A (rd_ok v) (rd_lv v) (rd_dv v) T).1.2.2.2.2 ∧ w2 13 = (gx_X G n A (rd_ok v) (rd_lv v) (rd_dv v) T).2 := by
  have hD := rd_D hR
  obtain ⟨z2, w2, T, s1, s2, s3, s4, s5⟩ := sX6_seek hg z w b hR.rg hR.n7 hR.zx hR.mo G hA hD.2.2.2.2.2 hD.2.2.2.1 (fun i j => Nat.le_trans (hD.2.2.2.2.1 i j) (by omega)) (fun i j hi hj => rd_L hR hi hj) hR.st9 (fun i j hi hj => by rw [hR.st hi, hR.st hj]; exact rd_far hR hi hj)
  exact ⟨z2, w2, T, s1, s2, gm_R_kk hR s3 s4, s5⟩
theorem rw_len7 (hn : n ≤ 7) {ok : Nat → Nat → Bool} {lv dv : Nat → Nat → Nat} {x : (Nat → Nat) × Nat × Nat × Nat} {l : List ((Nat → Nat) × Nat × Nat × Nat)} (h : rw_L ok lv dv n 0 rw_0 0 0 0 = x :: l) : l.length + 1 ≤ 5040 := by
  have h1 := rw_len ok lv dv n 0 rw_0 0 0 0
  rw [h, List.length_cons] at h1
  exact Nat.le_trans h1 (rw_n7 hn)
theorem sX12_mostOf (hg : 6000 ≤ g) (c : Int64) (hn : n ≤ 7) (hz : y 2 = nI n) {ok : Nat → Nat → Bool} {lv dv : Nat → Nat → Nat} (hD : mx_D n v ok lv dv) {q : Int32} (hq : gx_q q) {T : Nat → Int32} (hT : ∀ i, i < 7 → T i = -1) : ∃ r2 t2, aX12_mostOf g [.ref 0, .int q] (hm y v c) = some (some (.int (gx_an q (gx_X 0 n 30 ok lv dv T).1.2.2.1 (gx_X 0 n 30 ok lv dv T).1.2.2.2.1 (gx_X 0 n 30 ok lv dv T).2)), hm y (mx_w v r2 t2) c) := by
  have h4 : 4000 ≤ g := by omega
  obtain ⟨l, e⟩ := rw_L_hd ok lv dv n 0 rw_0 0 0 0
  have hlen := rw_len7 hn e
  have hch := rw_chain n ok lv dv n 0 rw_0 0 0 0 (Nat.add_zero n) (fun j _ => Nat.le_refl _)
  have hI := rw_inv hD.2.2.2.2.2 lv dv n 0 rw_0 0 0 0 (Nat.add_zero n) (rw_I0 n ok lv dv)
  rw [e] at hch hI
  have e1 : gx_st 0 n 30 ok lv ((0, 0, 0, 0, 0), T) (rw_0, 0, 0, 0) = ((nI (0 + 1), nI (0 * 1000 + 0), nI 0, nI 0, nI 0), gm_cpy (enr rw_0) T 7) := by
    unfold gx_st gx_j
    dsimp only
    rw [if_neg (by omega), show decide ((0 : Int32) = 2) = false from rfl, Bool.false_and, if_neg (by decide), if_pos (Or.inl (show (0 : Int32) + 1 = 1 from rfl)), gx_rk0]
    rfl
  obtain ⟨r2, t2, h⟩ := sX12_mostL h4 y v c hn hz hD hq rw_0 l (rw_0, 0, 0, 0) (g - 1) 0 0 0 ((nI (0 + 1), nI (0 * 1000 + 0), nI 0, nI 0, nI 0), gm_cpy (enr rw_0) T 7) (gm_cpy (fun _ => -1) (v 14) 7) hch hI (by omega) (by omega) rfl rfl rfl rfl (by omega) (by omega) (fun i hi => by
    show gm_cpy (fun _ => -1) (v 14) 7 i = gm_cpy (enr rw_0) T 7 i
    rw [gm_cpy_lt hi, gm_cpy_lt hi]
    rfl)
  refine ⟨r2, t2, ?_⟩
  unfold gx_X
  rw [e, List.foldl_cons, e1, ← h]
  have hf := sX12_firstRow h4 y v c
  obtain ⟨f, rfl⟩ : ∃ f, g = f + 1 := ⟨g - 1, by omega⟩
  unfold aX12_mostOf
  rw [eX12_mostOf]
  rw [Nat.add_sub_cancel]
  simp only [ob_s, ob_n, ar_I, ar_L, ar_V, hm_vI, hm_fr0, hm_li0, hm_ai0, hm_si0, hm_fi1, hm_sv1, hm_fi2, hm_sv2, hm_fi3, hm_sv3, hm_fi4, hm_sv4, hm_fi5, hm_sv5, hm_fi6, hm_sv6, hm_fi7, hm_sv7, hm_fr8, hm_li8, hm_ai8, hm_si8, hm_fr9, hm_li9, hm_ai9, hm_si9, hm_fr10, hm_li10, hm_ai10, hm_si10, hm_fr11, hm_li11, hm_ai11, hm_si11, hm_fr12, hm_li12, hm_ai12, hm_si12, hm_fr13, hm_li13, hm_ai13, hm_si13, hm_fr14, hm_li14, hm_ai14, hm_si14, hm_fi15, hm_sv15, hm_fr16, hm_li16, hm_ai16, hm_si16, hm_fr17, hm_li17, hm_ai17, hm_si17, hm_fi18, hm_sv18, hm_fi19, hm_sv19, hm_fi20, hm_sv20, hm_fi21, hm_sv21, hm_fi22, hm_sv22, hm_fi23, hm_sv23, hm_fi24, hm_sv24, hm_fr25, hm_li25, hm_ai25, hm_si25, hm_fr26, hm_li26, hm_ai26, hm_si26, hm_fr27, hm_li27, hm_ai27, hm_si27, hm_fr28, hm_li28, hm_ai28, hm_si28, hm_fl, hm_sl, hf]
  rfl
theorem sX12_bestOf (hg : 6000 ≤ g) (c : Int64) {A : Nat} (hA : A ≤ 30) (hn : n ≤ 7) (hz : y 2 = nI n) {ok : Nat → Nat → Bool} {lv dv : Nat → Nat → Nat} (hD : mx_D n v ok lv dv) {q : Int32} (hq : gx_q q) {T : Nat → Int32} (hT : ∀ i, i < 7 → T i = -1) : ∃ r2 t2, aX12_bestOf g [.ref 0, .int (nI A), .int q] (hm y v c) = some (some (.int (gx_an q (gx_X 1 n A ok lv dv T).1.2.2.2.1 (gx_X 1 n A ok lv dv T).1.2.2.2.2 (gx_X 1 n A ok lv dv T).2)), hm y (mx_w v r2 t2) c) := by
  have h4 : 4000 ≤ g := by omega
  obtain ⟨l, e⟩ := rw_L_hd ok lv dv n 0 rw_0 0 0 0
  have hlen := rw_len7 hn e
  have hch := rw_chain n ok lv dv n 0 rw_0 0 0 0 (Nat.add_zero n) (fun j _ => Nat.le_refl _)
  have hI := rw_inv hD.2.2.2.2.2 lv dv n 0 rw_0 0 0 0 (Nat.add_zero n) (rw_I0 n ok lv dv)
  rw [e] at hch hI
  have e1 : gx_st 1 n A ok lv ((0, 0, 0, 0, 0), T) (rw_0, 0, 0, 0) = ((nI (0 + 1), nI (0 * 1000) - nI 0, nI 0, nI 0, nI 0), gm_cpy (enr rw_0) T 7) := by
    unfold gx_st gx_j
    dsimp only
    rw [if_neg (by omega), show decide ((1 : Int32) = 2) = false from rfl, Bool.false_and, if_neg (by decide), if_pos (Or.inl (show (0 : Int32) + 1 = 1 from rfl)), gx_rk1]
    rfl
  obtain ⟨r2, t2, h⟩ := sX12_bestL h4 y v c hA hn hz hD hq rw_0 l (rw_0, 0, 0, 0) (g - 1) 0 0 0 ((nI (0 + 1), nI (0 * 1000) - nI 0, nI 0, nI 0, nI 0), gm_cpy (enr rw_0) T 7) (gm_cpy (fun _ => -1) (v 14) 7) hch hI (by omega) (by omega) rfl rfl rfl rfl (by omega) (by omega) (fun i hi => by
    show gm_cpy (fun _ => -1) (v 14) 7 i = gm_cpy (enr rw_0) T 7 i
    rw [gm_cpy_lt hi, gm_cpy_lt hi]
    rfl)
  refine ⟨r2, t2, ?_⟩
  unfold gx_X
  rw [e, List.foldl_cons, e1, ← h]
  have hf := sX12_firstRow h4 y v c
  obtain ⟨f, rfl⟩ : ∃ f, g = f + 1 := ⟨g - 1, by omega⟩
  unfold aX12_bestOf
  rw [eX12_bestOf]
  rw [Nat.add_sub_cancel]
  simp only [ob_s, ob_n, ar_I, ar_L, ar_V, hm_vI, hm_fr0, hm_li0, hm_ai0, hm_si0, hm_fi1, hm_sv1, hm_fi2, hm_sv2, hm_fi3, hm_sv3, hm_fi4, hm_sv4, hm_fi5, hm_sv5, hm_fi6, hm_sv6, hm_fi7, hm_sv7, hm_fr8, hm_li8, hm_ai8, hm_si8, hm_fr9, hm_li9, hm_ai9, hm_si9, hm_fr10, hm_li10, hm_ai10, hm_si10, hm_fr11, hm_li11, hm_ai11, hm_si11, hm_fr12, hm_li12, hm_ai12, hm_si12, hm_fr13, hm_li13, hm_ai13, hm_si13, hm_fr14, hm_li14, hm_ai14, hm_si14, hm_fi15, hm_sv15, hm_fr16, hm_li16, hm_ai16, hm_si16, hm_fr17, hm_li17, hm_ai17, hm_si17, hm_fi18, hm_sv18, hm_fi19, hm_sv19, hm_fi20, hm_sv20, hm_fi21, hm_sv21, hm_fi22, hm_sv22, hm_fi23, hm_sv23, hm_fi24, hm_sv24, hm_fr25, hm_li25, hm_ai25, hm_si25, hm_fr26, hm_li26, hm_ai26, hm_si26, hm_fr27, hm_li27, hm_ai27, hm_si27, hm_fr28, hm_li28, hm_ai28, hm_si28, hm_fl, hm_sl, hf]
  rfl
theorem sX12_stableOf (hg : 6000 ≤ g) (c : Int64) (hn : n ≤ 7) (hz : y 2 = nI n) {ok : Nat → Nat → Bool} {lv dv : Nat → Nat → Nat} (hD : mx_D n v ok lv dv) (hls : ∀ i j, lv i j = lv j i) {q : Int32} (hq : gx_q q) {T : Nat → Int32} (hT : ∀ i, i < 7 → T i = -1) : ∃ r2 t2, aX12_stableOf g [.ref 0, .int q] (hm y v c) = some (some (.int (gx_an q (gx_X 2 n 30 ok lv dv T).1.1 (gx_X 2 n 30 ok lv dv T).1.2.2.1 (gx_X 2 n 30 ok lv dv T).2)), hm y (mx_w v r2 t2) c) := by
  have h4 : 4000 ≤ g := by omega
  obtain ⟨l, e⟩ := rw_L_hd ok lv dv n 0 rw_0 0 0 0
  have hlen := rw_len7 hn e
  have hch := rw_chain n ok lv dv n 0 rw_0 0 0 0 (Nat.add_zero n) (fun j _ => Nat.le_refl _)
  have hI := rw_inv hD.2.2.2.2.2 lv dv n 0 rw_0 0 0 0 (Nat.add_zero n) (rw_I0 n ok lv dv)
  have hex := rw_stable (lv := lv) dv hn hD.2.2.2.2.2 hls
  rw [e] at hch hI hex
  obtain ⟨k, k1, k2, k3, k4⟩ := gx_cnt (n := n) (ok := ok) (lv := lv) ((rw_0, 0, 0, 0) :: l) ((0, 0, 0, 0, 0), T) 0 rfl rfl (by rw [List.length_cons]; omega) (fun i hi => (rw_M30 (hI i hi) hn hD.2.2.2.1 hD.2.2.2.2.1).2.2)
  have hk := k4 hex
  obtain ⟨r2, t2, h⟩ := sX12_stableL h4 y v c hn hz hD hq rw_0 l (rw_0, 0, 0, 0) (g - 1) 0 ((0, 0, 0, 0, 0), T) (-1) (gm_cpy (fun _ => -1) (v 14) 7) hch hI (by omega) (by omega) rfl rfl rfl (fun i hi => by
    show gm_cpy (fun _ => -1) (v 14) 7 i = T i
    rw [gm_cpy_lt hi, hT i hi])
  refine ⟨r2, t2, ?_⟩
  have hne : ¬ (((rw_0, 0, 0, 0) :: l).foldl (gx_st 2 n 30 ok lv) ((0, 0, 0, 0, 0), T)).1.1 = 0 := by
    rw [k1, show (0 : Int32) = nI 0 from rfl, nI_eq (by omega) (by omega)]
    omega
  rw [if_neg hne] at h
  unfold gx_X
  rw [e, ← h]
  have hf := sX12_firstRow h4 y v c
  obtain ⟨f, rfl⟩ : ∃ f, g = f + 1 := ⟨g - 1, by omega⟩
  unfold aX12_stableOf
  rw [eX12_stableOf]
  rw [Nat.add_sub_cancel]
  simp only [ob_s, ob_n, ar_I, ar_L, ar_V, hm_vI, hm_fr0, hm_li0, hm_ai0, hm_si0, hm_fi1, hm_sv1, hm_fi2, hm_sv2, hm_fi3, hm_sv3, hm_fi4, hm_sv4, hm_fi5, hm_sv5, hm_fi6, hm_sv6, hm_fi7, hm_sv7, hm_fr8, hm_li8, hm_ai8, hm_si8, hm_fr9, hm_li9, hm_ai9, hm_si9, hm_fr10, hm_li10, hm_ai10, hm_si10, hm_fr11, hm_li11, hm_ai11, hm_si11, hm_fr12, hm_li12, hm_ai12, hm_si12, hm_fr13, hm_li13, hm_ai13, hm_si13, hm_fr14, hm_li14, hm_ai14, hm_si14, hm_fi15, hm_sv15, hm_fr16, hm_li16, hm_ai16, hm_si16, hm_fr17, hm_li17, hm_ai17, hm_si17, hm_fi18, hm_sv18, hm_fi19, hm_sv19, hm_fi20, hm_sv20, hm_fi21, hm_sv21, hm_fi22, hm_sv22, hm_fi23, hm_sv23, hm_fi24, hm_sv24, hm_fr25, hm_li25, hm_ai25, hm_si25, hm_fr26, hm_li26, hm_ai26, hm_si26, hm_fr27, hm_li27, hm_ai27, hm_si27, hm_fr28, hm_li28, hm_ai28, hm_si28, hm_fl, hm_sl, hf]
  rfl
end RWP
