/-! the class's drawer: the heap while it is filled -/
def hq (z : Nat → Int32) (w : Nat → Nat → Int32) (b : Int64) (F : Nat → Option Nat) : ah_H := [
  .inr (11, [.ref 1, .ref 3, .ref 11, .ref 20, .ref 25, .int (z 0)]),
  .inr (4, [.ref 2, .int (z 1)]),
  .inl (0, 36, .inl (w 0)),
  .inr (0, [.ref 4, .ref 5, .int (z 2), .int (z 3), .int (z 4), .int (z 5), .int (z 6), .ref 10]),
  .inl (2, 7, .inr F),
  .inr (7, [.int (z 7), .ref 6, .ref 7, .ref 8, .ref 9]),
  .inl (0, 8, .inl (w 1)),
  .inl (0, 8, .inl (w 2)),
  .inl (0, 8, .inl (w 3)),
  .inl (0, 20, .inl (w 4)),
  .inl (0, 7, .inl (w 5)),
  .inr (2, [.int (z 8), .ref 12, .ref 13, .ref 14, .ref 15, .int (z 9), .int (z 10), .int (z 11), .int (z 12)]),
  .inl (0, 7, .inl (w 6)),
  .inl (0, 7, .inl (w 7)),
  .inl (0, 7, .inl (w 8)),
  .inr (7, [.int (z 13), .ref 16, .ref 17, .ref 18, .ref 19]),
  .inl (0, 8, .inl (w 9)),
  .inl (0, 8, .inl (w 10)),
  .inl (0, 8, .inl (w 11)),
  .inl (0, 20, .inl (w 12)),
  .inr (6, [.int (z 14), .int (z 15), .int (z 16), .int (z 17), .ref 21, .ref 22, .ref 23, .ref 24, .int (z 18), .int (z 19), .int (z 20), .int (z 21)]),
  .inl (0, 7, .inl (w 13)),
  .inl (0, 7, .inl (w 14)),
  .inl (3, 7, .inr hx_lk),
  .inl (0, 7, .inl (w 15)),
  .inr (10, [.int (z 22), .int (z 23), .long b, .ref 26]),
  .inl (1, 7, .inl (w 16)),
  .inl (0, 7, .inl (w 30)),
  .inl (0, 7, .inl (w 31)),
  .inl (0, 7, .inl (w 32)),
  .inl (0, 7, .inl (w 33)),
  .inl (0, 7, .inl (w 34)),
  .inl (0, 7, .inl (w 35)),
  .inl (0, 7, .inl (w 36)),
  .inr (hx_kc (w 17 0), [.int (w 18 0), .int (w 19 0), .int (w 20 0), .int (w 21 0)]),
  .inr (hx_kc (w 17 1), [.int (w 18 1), .int (w 19 1), .int (w 20 1), .int (w 21 1)]),
  .inr (hx_kc (w 17 2), [.int (w 18 2), .int (w 19 2), .int (w 20 2), .int (w 21 2)]),
  .inr (hx_kc (w 17 3), [.int (w 18 3), .int (w 19 3), .int (w 20 3), .int (w 21 3)]),
  .inr (hx_kc (w 17 4), [.int (w 18 4), .int (w 19 4), .int (w 20 4), .int (w 21 4)]),
  .inr (hx_kc (w 17 5), [.int (w 18 5), .int (w 19 5), .int (w 20 5), .int (w 21 5)]),
  .inr (hx_kc (w 17 6), [.int (w 18 6), .int (w 19 6), .int (w 20 6), .int (w 21 6)])]
theorem hq_hx (z : Nat → Int32) (w : Nat → Nat → Int32) (b : Int64) : hx z w b = hq z w b hx_sg ++ [] := rfl
section HQ
variable (z : Nat → Int32) (w : Nat → Nat → Int32) (b : Int64) (F : Nat → Option Nat) (L : ah_H)
theorem hq_len : (hq z w b F ++ L).length = 41 + L.length := by rw [List.length_append]; rfl
theorem hq_ob1 : ah_ob (hq z w b F ++ L) 1 = some (4, [.ref 2, .int (z 1)]) := Eq.trans rfl rfl
theorem hq_ob3 : ah_ob (hq z w b F ++ L) 3 = some (0, [.ref 4, .ref 5, .int (z 2), .int (z 3), .int (z 4), .int (z 5), .int (z 6), .ref 10]) := Eq.trans rfl rfl
theorem hq_ob5 : ah_ob (hq z w b F ++ L) 5 = some (7, [.int (z 7), .ref 6, .ref 7, .ref 8, .ref 9]) := Eq.trans rfl rfl
theorem hq_fr00 : ah_fr (hq z w b F ++ L) 0 [11] 0 = some 1 := Eq.trans rfl rfl
theorem hq_fr01 : ah_fr (hq z w b F ++ L) 0 [11] 1 = some 3 := Eq.trans rfl rfl
theorem hq_fr02 : ah_fr (hq z w b F ++ L) 0 [11] 2 = some 11 := Eq.trans rfl rfl
theorem hq_fi05 : ah_fi (hq z w b F ++ L) 0 [11] 5 = some (z 0) := Eq.trans rfl rfl
theorem hq_sv05 (x : Int32) : ah_sv (hq z w b F ++ L) 0 [11] 5 (.int x) = some (hq (va_up z 0 x) w b F ++ L) := Eq.trans rfl rfl
theorem hq_fr10 : ah_fr (hq z w b F ++ L) 1 [4] 0 = some 2 := Eq.trans rfl rfl
theorem hq_fi11 : ah_fi (hq z w b F ++ L) 1 [4] 1 = some (z 1) := Eq.trans rfl rfl
theorem hq_sv11 (x : Int32) : ah_sv (hq z w b F ++ L) 1 [4] 1 (.int x) = some (hq (va_up z 1 x) w b F ++ L) := Eq.trans rfl rfl
theorem hq_ai2 : ah_ai (hq z w b F ++ L) 2 0 = some (36, w 0) := Eq.trans rfl rfl
theorem hq_fr30 : ah_fr (hq z w b F ++ L) 3 [0] 0 = some 4 := Eq.trans rfl rfl
theorem hq_fr31 : ah_fr (hq z w b F ++ L) 3 [0] 1 = some 5 := Eq.trans rfl rfl
theorem hq_fi32 : ah_fi (hq z w b F ++ L) 3 [0] 2 = some (z 2) := Eq.trans rfl rfl
theorem hq_sv32 (x : Int32) : ah_sv (hq z w b F ++ L) 3 [0] 2 (.int x) = some (hq (va_up z 2 x) w b F ++ L) := Eq.trans rfl rfl
theorem hq_sv33 (x : Int32) : ah_sv (hq z w b F ++ L) 3 [0] 3 (.int x) = some (hq (va_up z 3 x) w b F ++ L) := Eq.trans rfl rfl
theorem hq_sv34 (x : Int32) : ah_sv (hq z w b F ++ L) 3 [0] 4 (.int x) = some (hq (va_up z 4 x) w b F ++ L) := Eq.trans rfl rfl
theorem hq_sv35 (x : Int32) : ah_sv (hq z w b F ++ L) 3 [0] 5 (.int x) = some (hq (va_up z 5 x) w b F ++ L) := Eq.trans rfl rfl
theorem hq_sv36 (x : Int32) : ah_sv (hq z w b F ++ L) 3 [0] 6 (.int x) = some (hq (va_up z 6 x) w b F ++ L) := Eq.trans rfl rfl
theorem hq_sv50 (x : Int32) : ah_sv (hq z w b F ++ L) 5 [7] 0 (.int x) = some (hq (va_up z 7 x) w b F ++ L) := Eq.trans rfl rfl
theorem hq_sv110 (x : Int32) : ah_sv (hq z w b F ++ L) 11 [2] 0 (.int x) = some (hq (va_up z 8 x) w b F ++ L) := Eq.trans rfl rfl
theorem hq_ar4 : ah_ar (hq z w b F ++ L) 4 2 = some (7, F) := Eq.trans rfl rfl
theorem hq_set4 (F2 : Nat → Option Nat) : (hq z w b F ++ L).set 4 (.inl (2, 7, .inr F2)) = hq z w b F2 ++ L := Eq.trans rfl rfl
end HQ
theorem hq_all (z : Nat → Int32) (w : Nat → Nat → Int32) (b : Int64) (F : Nat → Option Nat) (m : Nat) (hF : (List.range 7).all (fun j => at_oko (m + 41) (F j)) = true) : (hq z w b F).all (at_oke (m + 41)) = true := by
  apply List.all_eq_true.mpr
  intro e he
  unfold hq at he
  iterate 41 (rcases List.mem_cons.mp he with rfl | he; · first | exact hF | rfl)
  cases he
def dr_F (i : Nat) : Nat → Option Nat := fun j => if j < i then some (41 + j) else hx_sg j
theorem dr_F0 : dr_F 0 = hx_sg := by
  funext j
  unfold dr_F
  rw [if_neg (by omega)]
theorem dr_Fs (i : Nat) : va_up (dr_F i) i (some (41 + i)) = dr_F (i + 1) := by
  funext j
  rw [va_l]
  unfold dr_F
  by_cases h : j = i
  · rw [if_pos h, h, if_pos (by omega)]
  · rw [if_neg h]
    by_cases h2 : j < i
    · rw [if_pos h2, if_pos (by omega)]
    · rw [if_neg h2, if_neg (by omega)]
def dr_cell (c : Nat → Int32) (i : Nat) : ah_E := .inr (sg_kc (c (5 * i)), [.int (c (5 * i + 1) - 48), .int (c (5 * i + 2) - 48), .int (c (5 * i + 3) - 48), .int (-1)])
def dr_L (c : Nat → Int32) : Nat → ah_H
  | 0 => []
  | i + 1 => dr_L c i ++ [dr_cell c i]
theorem dr_Ll (c : Nat → Int32) : ∀ i, (dr_L c i).length = i
  | 0 => rfl
  | i + 1 => by
    show (dr_L c i ++ [dr_cell c i]).length = i + 1
    rw [List.length_append, dr_Ll c i]
    rfl
theorem dr_Lall (c : Nat → Int32) (n : Nat) : ∀ i, (dr_L c i).all (at_oke n) = true
  | 0 => rfl
  | i + 1 => by
    show (dr_L c i ++ [dr_cell c i]).all (at_oke n) = true
    rw [List.all_append, dr_Lall c n i]
    rfl
theorem dr_H (z : Nat → Int32) (w : Nat → Nat → Int32) (b : Int64) (c : Nat → Int32) (i : Nat) (hi : i ≤ 7) : at_H (hq z w b (dr_F i) ++ dr_L c i) := by
  refine ⟨fun n hn => ?_, by rw [hq_len, dr_Ll]; omega⟩
  rw [hq_len, dr_Ll] at hn
  obtain ⟨m, rfl⟩ : ∃ m, n = m + 41 := ⟨n - 41, by omega⟩
  rw [List.all_append, dr_Lall, hq_all z w b (dr_F i) m (List.all_eq_true.mpr (fun j hj => by
    have hj7 := List.mem_range.mp hj
    unfold dr_F hx_sg
    by_cases h : j < i
    · rw [if_pos h]
      exact Nat.ble_eq_true_of_le (by omega)
    · rw [if_neg h, if_pos hj7]
      exact Nat.ble_eq_true_of_le (by omega)))]
  rfl
theorem sg_kc_in (x : Int32) : ah_in (sg_kc x) [1, 3, 5, 8, 9] = true := by
  unfold sg_kc
  split
  · rfl
  split
  · rfl
  split
  · rfl
  split <;> rfl
theorem gm_ft_le (gd : Nat → Bool) : ∀ k i, gm_ft gd k i ≤ i + k
  | 0, i => Nat.le_refl _
  | k + 1, i => by
    unfold gm_ft
    split
    · have := gm_ft_le gd k (i + 1)
      omega
    · omega
theorem gm_ft_all (gd : Nat → Bool) : ∀ k i, gm_ft gd k i = i + k → ∀ j, i ≤ j → j < i + k → gd j = true
  | 0, i, _, j, h1, h2 => by omega
  | k + 1, i, h, j, h1, h2 => by
    unfold gm_ft at h
    by_cases c : gd i = true
    · rw [if_pos c] at h
      by_cases e : j = i
      · rw [e]; exact c
      · exact gm_ft_all gd k (i + 1) (by omega) j (by omega) (by omega)
    · rw [if_neg c] at h
      omega
def dr_ok (ln : Nat) (gd : Nat → Bool) : Prop := 9 ≤ ln ∧ ln % 5 = 4 ∧ gm_ft gd ln 0 = ln
def dr_z (z : Nat → Int32) : Nat → Int32 := va_up (va_up (va_up (va_up (va_up z 3 0) 4 0) 5 0) 6 0) 7 0
section DRV
variable {g : Nat}
theorem nI_lt9 {i : Nat} (hi : i < 1000) : (nI i < 9) = (i < 9) := nI_lti (b := 9) hi (by omega)
theorem nI_r5 {a : Nat} (ha : a < 1000) : nI a - nI a / 5 * 5 = nI (a % 5) := pk_rem (d := 5) (by omega) (by omega) (by omega)
theorem sX4_isDrawer (hg : 4000 ≤ g) (z : Nat → Int32) (w : Nat → Nat → Int32) (b : Int64) {n : Nat} (hn : n ≤ 36) (hz : z 1 = nI n) (hc : ∀ i, i < n → 1 ≤ (w 0 i).toInt ∧ (w 0 i).toInt ≤ 126) : aX4_isDrawer g [.ref 1] (hx z w b) = some (some (.int (bI (dq (dr_ok n (fun k => gm_gx k (w 0 k)))))), hx z w b) := by
  have hff := sX4_firstFault hg z w b hn hz hc
  have hle := gm_ft_le (fun k => gm_gx k (w 0 k)) n 0
  obtain ⟨f, rfl⟩ : ∃ f, g = f + 1 := ⟨g - 1, by omega⟩
  unfold aX4_isDrawer
  rw [eX4_isDrawer]
  simp only [ob_s, ob_n, ar_I, ar_L, ar_V, hx_v0, hx_fr0_0, hx_fr0_1, hx_fr0_2, hx_fr0_3, hx_fr0_4, hx_fi0_5, hx_sv0_5, hx_v1, hx_fr1_0, hx_fi1_1, hx_sv1_1, hx_v3, hx_fr3_0, hx_fr3_1, hx_fi3_2, hx_sv3_2, hx_fi3_3, hx_sv3_3, hx_fi3_4, hx_sv3_4, hx_fi3_5, hx_sv3_5, hx_fi3_6, hx_sv3_6, hx_fr3_7, hx_v5, hx_fi5_0, hx_sv5_0, hx_fr5_1, hx_fr5_2, hx_fr5_3, hx_fr5_4, hx_v11, hx_fi11_0, hx_sv11_0, hx_fr11_1, hx_fr11_2, hx_fr11_3, hx_fr11_4, hx_fi11_5, hx_sv11_5, hx_fi11_6, hx_sv11_6, hx_fi11_7, hx_sv11_7, hx_fi11_8, hx_sv11_8, hx_v15, hx_fi15_0, hx_sv15_0, hx_fr15_1, hx_fr15_2, hx_fr15_3, hx_fr15_4, hx_v20, hx_fi20_0, hx_sv20_0, hx_fi20_1, hx_sv20_1, hx_fi20_2, hx_sv20_2, hx_fi20_3, hx_sv20_3, hx_fr20_4, hx_fr20_5, hx_fr20_6, hx_fr20_7, hx_fi20_8, hx_sv20_8, hx_fi20_9, hx_sv20_9, hx_fi20_10, hx_sv20_10, hx_fi20_11, hx_sv20_11, hx_v25, hx_fi25_0, hx_sv25_0, hx_fi25_1, hx_sv25_1, hx_fl, hx_sl, hx_fr25_3, hx_li2, hx_ai2, hx_si2, hx_li6, hx_ai6, hx_si6, hx_li7, hx_ai7, hx_si7, hx_li8, hx_ai8, hx_si8, hx_li9, hx_ai9, hx_si9, hx_li10, hx_ai10, hx_si10, hx_li12, hx_ai12, hx_si12, hx_li13, hx_ai13, hx_si13, hx_li14, hx_ai14, hx_si14, hx_li16, hx_ai16, hx_si16, hx_li17, hx_ai17, hx_si17, hx_li18, hx_ai18, hx_si18, hx_li19, hx_ai19, hx_si19, hx_li21, hx_ai21, hx_si21, hx_li22, hx_ai22, hx_si22, hx_li24, hx_ai24, hx_si24, hx_li26, hx_ai26, hx_si26, hx_li27, hx_ai27, hx_si27, hx_li28, hx_ai28, hx_si28, hx_li29, hx_ai29, hx_si29, hx_li30, hx_ai30, hx_si30, hx_li31, hx_ai31, hx_si31, hx_li32, hx_ai32, hx_si32, hx_li33, hx_ai33, hx_si33, hx_lr4, hx_lr23, hx_sf0, hx_sf1, hx_ss1, hx_sf2, hx_ss2, hx_sf3, hx_ss3, hx_lkli, hx_lksi, hz, nI_lt9 (show n < 1000 by omega), nI_r5 (show n < 1000 by omega), hff, show ((5 : Int32) = 0) = False from eq_false (by decide), if_false, show (4 : Int32) = nI 4 from rfl, nI_eqi (show n % 5 < 1000 by omega) (show 4 < 1000 by omega), nI_eqi (show gm_ft (fun k => gm_gx k (w 0 k)) n 0 < 1000 by omega) (show n < 1000 by omega)]
  by_cases c1 : n < 9
  · rw [if_pos c1, dq_f (fun h => by have := h.1; omega)]
    rfl
  · rw [if_neg c1]
    by_cases c2 : n % 5 = 4
    · rw [if_pos c2]
      by_cases c3 : gm_ft (fun k => gm_gx k (w 0 k)) n 0 = n
      · rw [if_pos c3, dq_t ⟨by omega, c2, c3⟩]
        rfl
      · rw [if_neg c3, dq_f (fun h => c3 h.2.2)]
        rfl
    · rw [if_neg c2, dq_f (fun h => c2 h.2.1)]
      rfl
theorem sX0_fillFrom (hg : 100 ≤ g) (z : Nat → Int32) (w : Nat → Nat → Int32) (b : Int64) {n ln : Nat} (hn : n ≤ 7) (hln : ln + 1 = 5 * n) (hz : z 1 = nI ln) (hc : ∀ i, i < ln → 1 ≤ (w 0 i).toInt ∧ (w 0 i).toInt ≤ 126) : aX0_fillFrom n g [.ref 3, .ref 1] (hx z w b) = some (none, hq (dr_z (va_up z 2 (nI n))) w b (dr_F n) ++ dr_L (w 0) n) := by
  have loop : ∀ (k i F : Nat), i + k = n → k + 1 ≤ F → ah_run (kX0_fillFrom n g (41 + n)) F 15 [(0, .ref 3), (1, .ref 1), (2, .int (nI i))] [] (hq (va_up z 2 (nI n)) w b (dr_F i) ++ dr_L (w 0) i) = some (none, hq (dr_z (va_up z 2 (nI n))) w b (dr_F n) ++ dr_L (w 0) n) := by
    intro k
    induction k with
    | zero =>
      intro i F hi hF
      obtain ⟨f, rfl⟩ : ∃ f, F = f + 1 := ⟨F - 1, by omega⟩
      have e : i = n := by omega
      subst e
      have ec : ∀ z2 : Nat → Int32, aX7_clear g [.ref 5] (hq z2 w b (dr_F i) ++ dr_L (w 0) i) = some (none, hq (va_up z2 7 0) w b (dr_F i) ++ dr_L (w 0) i) := fun z2 => by
        obtain ⟨f, rfl⟩ : ∃ f, g = f + 1 := ⟨g - 1, by omega⟩
        unfold aX7_clear
        rw [eX7_clear, hq_sv50, ob_s]
      have ck := at_chk_t (lv := [(0, .ref 3), (1, .ref 1), (2, .int (nI i))]) (st := []) (dr_H (va_up (va_up (va_up (va_up (va_up z 2 (nI i)) 3 0) 4 0) 5 0) 6 0) w b (w 0) i hn) (by
        rw [hq_len, dr_Ll]
        show (at_ok _ (.ref 3) && (at_ok _ (.ref 1) && true)) = true
        rw [at_ok_lt (by omega), at_ok_lt (by omega)]; rfl) rfl
      have e1 : va_up z 2 (nI i) 2 = nI i := rfl
      simp only [rX0f_15, hq_fi32, ob_s, e1, nI_ltnn (show i < 1000 by omega), if_false, hq_sv33, hq_sv34, hq_sv35, hq_sv36, hq_fr31, hq_ob5, ck, hq_len, dr_Ll, ec, ar_V, Nat.add_zero]
      rw [show Nat.beq 7 7 = true from rfl, show Nat.ble (41 + i) (41 + i) = true from Nat.ble_eq_true_of_le (Nat.le_refl _), show Nat.beq (41 + i) (41 + i) = true from Nat.beq_refl _]
      rfl
    | succ k ih =>
      intro i F hi hF
      obtain ⟨f, rfl⟩ : ∃ f, F = f + 1 := ⟨F - 1, by omega⟩
      have i7 : i < 7 := by omega
      have hlen : (hq (va_up z 2 (nI n)) w b (dr_F i) ++ dr_L (w 0) i).length = 41 + i := by rw [hq_len, dr_Ll]
      have hcx := hc (5 * i) (by omega)
      have ex : ((w 0 (5 * i)).toUInt32 % 65536).toInt32 = w 0 (5 * i) := by
        have e0 : w 0 (5 * i) = nI (w 0 (5 * i)).toInt.toNat := i32_nI (by omega)
        rw [e0]
        exact gm_ixc ⟨(w 0 (5 * i)).toInt.toNat, by omega⟩
      have hs := sX4_singleAt (g := g) (by omega) (hq (va_up z 2 (nI n)) w b (dr_F i) ++ dr_L (w 0) i) (dr_H _ w b (w 0) i (by omega)) (by omega) (by omega) (w 0) (hq_fr10 _ _ _ _ _) (hq_ai2 _ _ _ _ _) i (by omega) ex
      rw [List.append_assoc, show dr_L (w 0) i ++ [.inr (sg_kc (w 0 (5 * i)), [.int (w 0 (5 * i + 1) - 48), .int (w 0 (5 * i + 2) - 48), .int (w 0 (5 * i + 3) - 48), .int (-1)])] = dr_L (w 0) (i + 1) from rfl, hlen] at hs
      have ck := at_chk_t (lv := [(0, .ref 3), (1, .ref 1), (2, .int (nI i))]) (st := [.int (nI i), .ref 4]) (dr_H (va_up z 2 (nI n)) w b (w 0) i (by omega)) (by
        rw [hlen]
        show (at_ok _ (.ref 3) && (at_ok _ (.ref 1) && true)) = true
        rw [at_ok_lt (by omega), at_ok_lt (by omega)]; rfl) (by
        rw [hlen]
        show (at_ok _ (.ref 4) && true) = true
        rw [at_ok_lt (by omega)]; rfl)
      have hob : ah_ob (hq (va_up z 2 (nI n)) w b (dr_F i) ++ dr_L (w 0) (i + 1)) (41 + i) = some (sg_kc (w 0 (5 * i)), [.int (w 0 (5 * i + 1) - 48), .int (w 0 (5 * i + 2) - 48), .int (w 0 (5 * i + 3) - 48), .int (-1)]) := by
        have := ob_last (hq (va_up z 2 (nI n)) w b (dr_F i) ++ dr_L (w 0) i) (sg_kc (w 0 (5 * i)), [.int (w 0 (5 * i + 1) - 48), .int (w 0 (5 * i + 2) - 48), .int (w 0 (5 * i + 3) - 48), .int (-1)])
        rw [List.append_assoc, hlen] at this
        exact this
      have e1 : va_up z 2 (nI n) 2 = nI n := rfl
      have n0 : ¬ nI i < 0 := fun h => by
        rw [i32_lt, nI_toInt (by omega), show (0 : Int32).toInt = 0 from rfl] at h
        omega
      have hz2 : ah_in (sg_kc (w 0 (5 * i))) [1, 3, 5, 8, 9] = true ∧ ¬ (nI i < 0 ∨ 7 ≤ (nI i).toNatClampNeg) := ⟨sg_kc_in _, by
        rw [nI_clamp (by omega)]
        rintro (h | h)
        · exact n0 h
        · omega⟩
      have er : at_rR (some (some (.ref (41 + i)), hq (va_up z 2 (nI n)) w b (dr_F i) ++ dr_L (w 0) (i + 1))) = some (41 + i, hq (va_up z 2 (nI n)) w b (dr_F i) ++ dr_L (w 0) (i + 1)) := rfl
      have nx := ih (i + 1) f (by omega) (by omega)
      simp only [rX0f_15, hq_fi32, ob_s, e1, nI_ltin (show i < n by omega) (show n < 1000 by omega), if_true, hq_fr30, hq_ob1, ck, hlen, hs, er, hq_len, dr_Ll, hq_ar4, hob]
      rw [show Nat.beq 4 4 = true from rfl, show Nat.ble (41 + i + 1) (41 + n) = true from Nat.ble_eq_true_of_le (by omega), show Nat.beq (41 + (i + 1)) (41 + i + 1) = true from Nat.beq_refl _, Bool.true_and, Bool.true_and, cond_true, cond_true, if_pos hz2, nI_clamp (show i < 2 ^ 31 by omega), dr_Fs, hq_set4, nI_1]
      exact nx
  have es : aX4_singles g [.ref 1] (hx z w b) = some (some (.int (nI n)), hx z w b) := by
    obtain ⟨f, rfl⟩ : ∃ f, g = f + 1 := ⟨g - 1, by omega⟩
    unfold aX4_singles
    rw [eX4_singles]
    have e5 : nI (5 * n) / 5 = nI n := by
      have := pk_div (a := 5 * n) (d := 5) (by omega) (by decide) (by decide)
      rw [show 5 * n / 5 = n by omega] at this
      exact this
    simp only [ob_s, ob_n, ar_I, ar_L, ar_V, hx_v0, hx_fr0_0, hx_fr0_1, hx_fr0_2, hx_fr0_3, hx_fr0_4, hx_fi0_5, hx_sv0_5, hx_v1, hx_fr1_0, hx_fi1_1, hx_sv1_1, hx_v3, hx_fr3_0, hx_fr3_1, hx_fi3_2, hx_sv3_2, hx_fi3_3, hx_sv3_3, hx_fi3_4, hx_sv3_4, hx_fi3_5, hx_sv3_5, hx_fi3_6, hx_sv3_6, hx_fr3_7, hx_v5, hx_fi5_0, hx_sv5_0, hx_fr5_1, hx_fr5_2, hx_fr5_3, hx_fr5_4, hx_v11, hx_fi11_0, hx_sv11_0, hx_fr11_1, hx_fr11_2, hx_fr11_3, hx_fr11_4, hx_fi11_5, hx_sv11_5, hx_fi11_6, hx_sv11_6, hx_fi11_7, hx_sv11_7, hx_fi11_8, hx_sv11_8, hx_v15, hx_fi15_0, hx_sv15_0, hx_fr15_1, hx_fr15_2, hx_fr15_3, hx_fr15_4, hx_v20, hx_fi20_0, hx_sv20_0, hx_fi20_1, hx_sv20_1, hx_fi20_2, hx_sv20_2, hx_fi20_3, hx_sv20_3, hx_fr20_4, hx_fr20_5, hx_fr20_6, hx_fr20_7, hx_fi20_8, hx_sv20_8, hx_fi20_9, hx_sv20_9, hx_fi20_10, hx_sv20_10, hx_fi20_11, hx_sv20_11, hx_v25, hx_fi25_0, hx_sv25_0, hx_fi25_1, hx_sv25_1, hx_fl, hx_sl, hx_fr25_3, hx_li2, hx_ai2, hx_si2, hx_li6, hx_ai6, hx_si6, hx_li7, hx_ai7, hx_si7, hx_li8, hx_ai8, hx_si8, hx_li9, hx_ai9, hx_si9, hx_li10, hx_ai10, hx_si10, hx_li12, hx_ai12, hx_si12, hx_li13, hx_ai13, hx_si13, hx_li14, hx_ai14, hx_si14, hx_li16, hx_ai16, hx_si16, hx_li17, hx_ai17, hx_si17, hx_li18, hx_ai18, hx_si18, hx_li19, hx_ai19, hx_si19, hx_li21, hx_ai21, hx_si21, hx_li22, hx_ai22, hx_si22, hx_li24, hx_ai24, hx_si24, hx_li26, hx_ai26, hx_si26, hx_li27, hx_ai27, hx_si27, hx_li28, hx_ai28, hx_si28, hx_li29, hx_ai29, hx_si29, hx_li30, hx_ai30, hx_si30, hx_li31, hx_ai31, hx_si31, hx_li32, hx_ai32, hx_si32, hx_li33, hx_ai33, hx_si33, hx_lr4, hx_lr23, hx_sf0, hx_sf1, hx_ss1, hx_sf2, hx_ss2, hx_sf3, hx_ss3, hx_lkli, hx_lksi, hz, nI_1, hln, show ((5 : Int32) = 0) = False from eq_false (by decide), if_false, e5]
  have ck := at_chk_t (lv := [(0, .ref 3), (1, .ref 1)]) (st := [.ref 3]) (h := hx z w b) (by
    have := dr_H z w b (w 0) 0 (by omega)
    rw [dr_F0] at this
    exact this) rfl rfl
  have nx := loop n 0 (g - 1) (by omega) (by omega)
  rw [dr_F0, show nI 0 = 0 from rfl] at nx
  have e7 : (if (7 : Int32) < nI n then 7 else nI n) = nI n := by
    rw [if_neg]
    rw [show (7 : Int32) = nI 7 from rfl, nI_lti (by omega) (by omega)]
    omega
  unfold aX0_fillFrom
  obtain ⟨f, rfl⟩ : ∃ f, g = f + 1 := ⟨g - 1, by omega⟩
  rw [Nat.add_sub_cancel] at nx
  have hl : (hx z w b).length = 41 := rfl
  have ho : ah_ob (hx z w b) 1 = some (4, [.ref 2, .int (z 1)]) := Eq.trans rfl rfl
  simp only [eX0f, ho, ob_s, ck, hl, es, ar_I, e7, hx_sv3_2]
  rw [show Nat.beq 4 4 = true from rfl, show Nat.ble (41 + 0) (41 + n) = true from Nat.ble_eq_true_of_le (by omega), show Nat.beq 41 (41 + 0) = true from rfl, show (true && true && (true && true)) = true from rfl, cond_true, cond_true, cond_true]
  rw [show ah_run (kX0_fillFrom n (f + 1) (41 + n)) f 15 [(0, .ref 3), (1, .ref 1), (2, .int 0)] [] (hx (va_up z 2 (nI n)) w b) = _ from nx, ob_s]
  show (bif Nat.ble (hq (dr_z (va_up z 2 (nI n))) w b (dr_F n) ++ dr_L (w 0) n).length (41 + n) then some ((none, hq (dr_z (va_up z 2 (nI n))) w b (dr_F n) ++ dr_L (w 0) n) : ah_R) else none) = _
  rw [hq_len, dr_Ll, show Nat.ble (41 + n) (41 + n) = true from Nat.ble_eq_true_of_le (Nat.le_refl _)]
  rfl
end DRV
