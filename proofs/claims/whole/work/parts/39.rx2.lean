/-! the class's rows: judge, place -/
abbrev gx_S : Type := (Int32 × Int32 × Int32 × Int32 × Int32) × (Nat → Int32)
def gx_z (z : Nat → Int32) (s : Int32 × Int32 × Int32 × Int32 × Int32) : Nat → Int32 := va_up (va_up (va_up (va_up (va_up z 14 s.1) 21 s.2.1) 15 s.2.2.1) 16 s.2.2.2.1) 17 s.2.2.2.2
def gx_w (w : Nat → Nat → Int32) (t p : Nat → Int32) : Nat → Nat → Int32 := va_up (va_up w 13 t) 14 p
theorem gx_z14 (z : Nat → Int32) (s : Int32 × Int32 × Int32 × Int32 × Int32) : gx_z z s 14 = s.1 := rfl
theorem gx_z21 (z : Nat → Int32) (s : Int32 × Int32 × Int32 × Int32 × Int32) : gx_z z s 21 = s.2.1 := rfl
theorem gx_z15 (z : Nat → Int32) (s : Int32 × Int32 × Int32 × Int32 × Int32) : gx_z z s 15 = s.2.2.1 := rfl
theorem gx_z16 (z : Nat → Int32) (s : Int32 × Int32 × Int32 × Int32 × Int32) : gx_z z s 16 = s.2.2.2.1 := rfl
theorem gx_z17 (z : Nat → Int32) (s : Int32 × Int32 × Int32 × Int32 × Int32) : gx_z z s 17 = s.2.2.2.2 := rfl
theorem gx_z18 (z : Nat → Int32) (s : Int32 × Int32 × Int32 × Int32 × Int32) : gx_z z s 18 = z 18 := rfl
theorem gx_z19 (z : Nat → Int32) (s : Int32 × Int32 × Int32 × Int32 × Int32) : gx_z z s 19 = z 19 := rfl
theorem gx_z20 (z : Nat → Int32) (s : Int32 × Int32 × Int32 × Int32 × Int32) : gx_z z s 20 = z 20 := rfl
theorem gx_w13 (w : Nat → Nat → Int32) (t p : Nat → Int32) : gx_w w t p 13 = t := rfl
theorem gx_w14 (w : Nat → Nat → Int32) (t p : Nat → Int32) : gx_w w t p 14 = p := rfl
theorem gx_w15 (w : Nat → Nat → Int32) (t p : Nat → Int32) : gx_w w t p 15 = w 15 := rfl
theorem gx_w30 (w : Nat → Nat → Int32) (t p : Nat → Int32) (i : Nat) : gx_w w t p (30 + i) = w (30 + i) := by
  unfold gx_w
  rw [va_l, va_l, if_neg (by omega), if_neg (by omega)]
theorem gx_u14 (z : Nat → Int32) (s : Int32 × Int32 × Int32 × Int32 × Int32) (x : Int32) : va_up (gx_z z s) 14 x = gx_z z (x, s.2) := by
  unfold gx_z
  rw [va_c _ _ _ (show ¬ 14 = 17 by decide), va_c _ _ _ (show ¬ 14 = 16 by decide), va_c _ _ _ (show ¬ 14 = 15 by decide), va_c _ _ _ (show ¬ 14 = 21 by decide), bx_uu]
theorem gx_u4 (z : Nat → Int32) (s : Int32 × Int32 × Int32 × Int32 × Int32) (r p k m : Int32) : va_up (va_up (va_up (va_up (gx_z z s) 21 r) 15 p) 16 k) 17 m = gx_z z (s.1, r, p, k, m) := by
  unfold gx_z
  rw [va_c _ _ _ (show ¬ 21 = 17 by decide), va_c _ _ _ (show ¬ 21 = 16 by decide), va_c _ _ _ (show ¬ 21 = 15 by decide), bx_uu,
    va_c _ _ _ (show ¬ 15 = 17 by decide), va_c _ _ _ (show ¬ 15 = 16 by decide), bx_uu, va_c _ _ _ (show ¬ 16 = 17 by decide), bx_uu, bx_uu]
theorem gx_uw14 (w : Nat → Nat → Int32) (t p q : Nat → Int32) : va_up (gx_w w t p) 14 q = gx_w w t q := by
  unfold gx_w
  rw [bx_uu]
theorem gx_uw13 (w : Nat → Nat → Int32) (t p q : Nat → Int32) : va_up (gx_w w t p) 13 q = gx_w w q p := by
  unfold gx_w
  rw [va_c _ _ _ (show ¬ 13 = 14 by decide), bx_uu]
/-- how a row ranks -/
def gx_rk (G : Int32) (P K M : Nat) : Int32 := if G = 0 then nI P * 1000 + nI K else if G = 1 then nI K * 1000 - nI M else 0
/-- a row is judged -/
noncomputable def gx_j (G : Int32) (n : Nat) (ok : Nat → Nat → Bool) (lv : Nat → Nat → Nat) (x : gx_S) (r : Nat → Nat) (P K M : Nat) : gx_S :=
  if (decide (G = 2) && dq (rw_b n ok lv r)) = true then x
  else if x.1.1 + 1 = 1 ∨ x.1.2.1 < gx_rk G P K M then ((x.1.1 + 1, gx_rk G P K M, nI P, nI K, nI M), gm_cpy (enr r) x.2 7) else ((x.1.1 + 1, x.1.2), x.2)
theorem hx_cp22_21 (z : Nat → Int32) (w : Nat → Nat → Int32) (b : Int64) : ah_cp (hx z w b) 22 0 21 0 7 = some (hx z (va_up w 13 (gm_cpy (w 14) (w 13) 7)) b) := by
  have e : va_cpy (w 14) (w 13) 0 0 7 = gm_cpy (w 14) (w 13) 7 := by
    funext j
    unfold va_cpy gm_cpy
    by_cases h : j < 7
    · rw [if_pos ⟨Nat.zero_le _, by omega⟩, if_pos h, Nat.sub_zero, Nat.zero_add]
    · rw [if_neg (by omega), if_neg h]
  rw [← e]
  exact Eq.trans rfl rfl
theorem gm_cpy_cpy (e u t : Nat → Int32) : gm_cpy (gm_cpy e u 7) t 7 = gm_cpy e t 7 := by
  funext j
  by_cases h : j < 7
  · rw [gm_cpy_lt h, gm_cpy_lt h, gm_cpy_lt h]
  · rw [gm_cpy_ge h, gm_cpy_ge h]
/-- the heap while rows are placed -/
def gx_h (z : Nat → Int32) (w : Nat → Nat → Int32) (b : Int64) (x : gx_S) (r : Nat → Nat) : ah_H := hx (gx_z z x.1) (gx_w w x.2 (gm_cpy (enr r) (w 14) 7)) b
section RX2
variable {g : Nat}
theorem sX6_rankOf (hg : 4000 ≤ g) (z : Nat → Int32) (w : Nat → Nat → Int32) (b : Int64) (P K M : Nat) : aX6_rankOf g [.ref 20, .int (nI P), .int (nI K), .int (nI M)] (hx z w b) = some (some (.int (gx_rk (z 19) P K M)), hx z w b) := by
  obtain ⟨f, rfl⟩ : ∃ f, g = f + 1 := ⟨g - 1, by omega⟩
  unfold aX6_rankOf
  rw [eX6_rankOf]
  simp only [ob_s, ob_n, ar_I, ar_L, ar_V, hx_v0, hx_fr0_0, hx_fr0_1, hx_fr0_2, hx_fr0_3, hx_fr0_4, hx_fi0_5, hx_sv0_5, hx_v1, hx_fr1_0, hx_fi1_1, hx_sv1_1, hx_v3, hx_fr3_0, hx_fr3_1, hx_fi3_2, hx_sv3_2, hx_fi3_3, hx_sv3_3, hx_fi3_4, hx_sv3_4, hx_fi3_5, hx_sv3_5, hx_fi3_6, hx_sv3_6, hx_fr3_7, hx_v5, hx_fi5_0, hx_sv5_0, hx_fr5_1, hx_fr5_2, hx_fr5_3, hx_fr5_4, hx_v11, hx_fi11_0, hx_sv11_0, hx_fr11_1, hx_fr11_2, hx_fr11_3, hx_fr11_4, hx_fi11_5, hx_sv11_5, hx_fi11_6, hx_sv11_6, hx_fi11_7, hx_sv11_7, hx_fi11_8, hx_sv11_8, hx_v15, hx_fi15_0, hx_sv15_0, hx_fr15_1, hx_fr15_2, hx_fr15_3, hx_fr15_4, hx_v20, hx_fi20_0, hx_sv20_0, hx_fi20_1, hx_sv20_1, hx_fi20_2, hx_sv20_2, hx_fi20_3, hx_sv20_3, hx_fr20_4, hx_fr20_5, hx_fr20_6, hx_fr20_7, hx_fi20_8, hx_sv20_8, hx_fi20_9, hx_sv20_9, hx_fi20_10, hx_sv20_10, hx_fi20_11, hx_sv20_11, hx_v25, hx_fi25_0, hx_sv25_0, hx_fi25_1, hx_sv25_1, hx_fl, hx_sl, hx_fr25_3, hx_li2, hx_ai2, hx_si2, hx_li6, hx_ai6, hx_si6, hx_li7, hx_ai7, hx_si7, hx_li8, hx_ai8, hx_si8, hx_li9, hx_ai9, hx_si9, hx_li10, hx_ai10, hx_si10, hx_li12, hx_ai12, hx_si12, hx_li13, hx_ai13, hx_si13, hx_li14, hx_ai14, hx_si14, hx_li16, hx_ai16, hx_si16, hx_li17, hx_ai17, hx_si17, hx_li18, hx_ai18, hx_si18, hx_li19, hx_ai19, hx_si19, hx_li21, hx_ai21, hx_si21, hx_li22, hx_ai22, hx_si22, hx_li24, hx_ai24, hx_si24, hx_li26, hx_ai26, hx_si26, hx_li27, hx_ai27, hx_si27, hx_li28, hx_ai28, hx_si28, hx_li29, hx_ai29, hx_si29, hx_li30, hx_ai30, hx_si30, hx_li31, hx_ai31, hx_si31, hx_li32, hx_ai32, hx_si32, hx_li33, hx_ai33, hx_si33, hx_lr4, hx_lr23, hx_sf0, hx_sf1, hx_ss1, hx_sf2, hx_ss2, hx_sf3, hx_ss3, hx_lkli, hx_lksi]
  unfold gx_rk
  by_cases h0 : z 19 = 0
  · rw [if_pos h0, if_pos h0]
  · rw [if_neg h0, if_neg h0]
    by_cases h1 : z 19 = 1
    · rw [if_pos h1, if_pos h1]
    · rw [if_neg h1, if_neg h1]
theorem sX6_judge (hg : 4000 ≤ g) (z : Nat → Int32) (w : Nat → Nat → Int32) (b : Int64) {n : Nat} (hn : n ≤ 7) (hz : z 18 = nI n) {ok : Nat → Nat → Bool} (hs : ∀ i j, ok i j = true → ok j i = true) {lv : Nat → Nat → Nat} (hl : ∀ i j, lv i j ≤ 18) (hw : ∀ i j, i < n → j < n → w (30 + i) j = gx_lk ok lv i j) {r : Nat → Nat} (hr : rw_V n ok r) (x : gx_S) (P K M : Nat) : aX6_judge g [.ref 20, .int (nI P), .int (nI K), .int (nI M)] (gx_h z w b x r) = some (none, gx_h z w b (gx_j (z 19) n ok lv x r P K M) r) := by
  have hb := sX6_isBlocked hg (gx_z z x.1) (gx_w w x.2 (gm_cpy (enr r) (w 14) 7)) b hn hz hs hl (fun i j hi hj => by rw [gx_w30]; exact hw i j hi hj) hr (fun i hi => by rw [gx_w14, gm_cpy_lt hi]; rfl)
  have hk := sX6_rankOf hg (gx_z z (x.1.1 + 1, x.1.2)) (gx_w w x.2 (gm_cpy (enr r) (w 14) 7)) b P K M
  rw [gx_z19] at hk
  have hp := hx_cp22_21 (gx_z z (x.1.1 + 1, gx_rk (z 19) P K M, nI P, nI K, nI M)) (gx_w w x.2 (gm_cpy (enr r) (w 14) 7)) b
  rw [gx_w13, gx_w14, gm_cpy_cpy, gx_uw13] at hp
  unfold gx_h
  obtain ⟨f, rfl⟩ : ∃ f, g = f + 1 := ⟨g - 1, by omega⟩
  unfold aX6_judge
  rw [eX6_judge]
  simp only [ob_s, ob_n, ar_I, ar_L, ar_V, hx_v0, hx_fr0_0, hx_fr0_1, hx_fr0_2, hx_fr0_3, hx_fr0_4, hx_fi0_5, hx_sv0_5, hx_v1, hx_fr1_0, hx_fi1_1, hx_sv1_1, hx_v3, hx_fr3_0, hx_fr3_1, hx_fi3_2, hx_sv3_2, hx_fi3_3, hx_sv3_3, hx_fi3_4, hx_sv3_4, hx_fi3_5, hx_sv3_5, hx_fi3_6, hx_sv3_6, hx_fr3_7, hx_v5, hx_fi5_0, hx_sv5_0, hx_fr5_1, hx_fr5_2, hx_fr5_3, hx_fr5_4, hx_v11, hx_fi11_0, hx_sv11_0, hx_fr11_1, hx_fr11_2, hx_fr11_3, hx_fr11_4, hx_fi11_5, hx_sv11_5, hx_fi11_6, hx_sv11_6, hx_fi11_7, hx_sv11_7, hx_fi11_8, hx_sv11_8, hx_v15, hx_fi15_0, hx_sv15_0, hx_fr15_1, hx_fr15_2, hx_fr15_3, hx_fr15_4, hx_v20, hx_fi20_0, hx_sv20_0, hx_fi20_1, hx_sv20_1, hx_fi20_2, hx_sv20_2, hx_fi20_3, hx_sv20_3, hx_fr20_4, hx_fr20_5, hx_fr20_6, hx_fr20_7, hx_fi20_8, hx_sv20_8, hx_fi20_9, hx_sv20_9, hx_fi20_10, hx_sv20_10, hx_fi20_11, hx_sv20_11, hx_v25, hx_fi25_0, hx_sv25_0, hx_fi25_1, hx_sv25_1, hx_fl, hx_sl, hx_fr25_3, hx_li2, hx_ai2, hx_si2, hx_li6, hx_ai6, hx_si6, hx_li7, hx_ai7, hx_si7, hx_li8, hx_ai8, hx_si8, hx_li9, hx_ai9, hx_si9, hx_li10, hx_ai10, hx_si10, hx_li12, hx_ai12, hx_si12, hx_li13, hx_ai13, hx_si13, hx_li14, hx_ai14, hx_si14, hx_li16, hx_ai16, hx_si16, hx_li17, hx_ai17, hx_si17, hx_li18, hx_ai18, hx_si18, hx_li19, hx_ai19, hx_si19, hx_li21, hx_ai21, hx_si21, hx_li22, hx_ai22, hx_si22, hx_li24, hx_ai24, hx_si24, hx_li26, hx_ai26, hx_si26, hx_li27, hx_ai27, hx_si27, hx_li28, hx_ai28, hx_si28, hx_li29, hx_ai29, hx_si29, hx_li30, hx_ai30, hx_si30, hx_li31, hx_ai31, hx_si31, hx_li32, hx_ai32, hx_si32, hx_li33, hx_ai33, hx_si33, hx_lr4, hx_lr23, hx_sf0, hx_sf1, hx_ss1, hx_sf2, hx_ss2, hx_sf3, hx_ss3, hx_lkli, hx_lksi, gx_z19, gx_z14, gx_z21, gx_u14, hk, gx_u4, hp, hb, bI_0]
  unfold gx_j
  by_cases c1 : z 19 = 2
  · rw [if_pos c1, decide_eq_true c1, Bool.true_and]
    by_cases c2 : rw_b n ok lv r
    · rw [dq_t c2, if_neg (by decide), if_pos rfl]
    · rw [dq_f c2, if_pos rfl, if_neg (show ¬ false = true by decide)]
      by_cases c3 : x.1.1 + 1 = 1
      · rw [if_pos c3, if_pos (Or.inl c3)]
      · rw [if_neg c3]
        by_cases c4 : x.1.2.1 < gx_rk (z 19) P K M
        · rw [if_pos c4, if_pos (Or.inr c4)]
        · rw [if_neg c4, if_neg (fun h => h.elim c3 c4)]
  · rw [if_neg c1, decide_eq_false c1, Bool.false_and, if_neg (show ¬ false = true by decide)]
    by_cases c3 : x.1.1 + 1 = 1
    · rw [if_pos c3, if_pos (Or.inl c3)]
    · rw [if_neg c3]
      by_cases c4 : x.1.2.1 < gx_rk (z 19) P K M
      · rw [if_pos c4, if_pos (Or.inr c4)]
      · rw [if_neg c4, if_neg (fun h => h.elim c3 c4)]
end RX2
