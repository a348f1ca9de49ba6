/-! the class's rows: place -/
noncomputable def gx_st (G : Int32) (n A : Nat) (ok : Nat → Nat → Bool) (lv : Nat → Nat → Nat) (x : gx_S) (i : (Nat → Nat) × Nat × Nat × Nat) : gx_S := if A < i.2.2.2 then x else gx_j G n ok lv x i.1 i.2.1 i.2.2.1 i.2.2.2
theorem gx_st_id {G : Int32} {n A : Nat} {ok : Nat → Nat → Bool} {lv : Nat → Nat → Nat} : ∀ (l : List ((Nat → Nat) × Nat × Nat × Nat)) (x : gx_S), (∀ i ∈ l, A < i.2.2.2) → l.foldl (gx_st G n A ok lv) x = x
  | [], x, _ => rfl
  | i :: l, x, h => by
    rw [List.foldl_cons, show gx_st G n A ok lv x i = x from if_pos (h i List.mem_cons_self)]
    exact gx_st_id l x (fun j hj => h j (List.mem_cons_of_mem _ hj))
theorem rw_bk_z {α : Type} (F : Nat → List α) (m b : Nat) : rw_bk F (m + 1) b = F b ++ rw_bk F m (b + 1) := rfl
section RX3
variable {g : Nat}
theorem sX6_place (hg : 4000 ≤ g) (z : Nat → Int32) (w : Nat → Nat → Int32) (c : Int64) {n A : Nat} (hn : n ≤ 7) (hz : z 18 = nI n) (hA : z 20 = nI A) (hA2 : A ≤ 100) {ok : Nat → Nat → Bool} (hs : ∀ i j, ok i j = true → ok j i = true) {lv dv : Nat → Nat → Nat} (hl : ∀ i j, lv i j ≤ 18) (hdv : ∀ i j, dv i j ≤ 9) (hw : ∀ i j, i < n → j < n → w (30 + i) j = gx_lk ok lv i j) (hst : ∀ i, i < n → 0 ≤ (w 15 i).toInt ∧ (w 15 i).toInt ≤ 9) (hd : ∀ i j, i < n → j < n → gm_far (w 15 i) (w 15 j) = nI (dv i j)) : ∀ (k a d : Nat) (r : Nat → Nat) (P K M : Nat) (x : gx_S), k + a = n → k + 1 ≤ d → rw_V n ok r → P + k ≤ 100 → K + 18 * k ≤ 900 → M + 9 * k ≤ 900 → aX6_place_d d g [.ref 20, .int (nI a), .int (nI P), .int (nI K), .int (nI M)] (gx_h z w c x r) = some (none, gx_h z w c ((rw_L ok lv dv k a r P K M).foldl (gx_st (z 19) n A ok lv) x) r) := by
  intro k
  induction k with
  | zero =>
    intro a d r P K M x hk hd1 hr hP hK hM
    obtain ⟨d2, rfl⟩ : ∃ d2, d = d2 + 1 := ⟨d - 1, by omega⟩
    have e : a = n := by omega
    subst e
    have hj := sX6_judge hg z w c hn hz hs hl hw hr x P K M
    show ah_fun (kX6_place (aX6_place_d d2 g) g) 7 g _ _ = some (none, gx_h z w c (gx_st (z 19) a A ok lv x (r, P, K, M)) r)
    obtain ⟨f, rfl⟩ : ∃ f, g = f + 1 := ⟨g - 1, by omega⟩
    rw [eX6_place]
    unfold gx_st
    unfold gx_h at hj ⊢
    simp only [ob_s, ob_n, ar_I, ar_L, ar_V, hx_v0, hx_fr0_0, hx_fr0_1, hx_fr0_2, hx_fr0_3, hx_fr0_4, hx_fi0_5, hx_sv0_5, hx_v1, hx_fr1_0, hx_fi1_1, hx_sv1_1, hx_v3, hx_fr3_0, hx_fr3_1, hx_fi3_2, hx_sv3_2, hx_fi3_3, hx_sv3_3, hx_fi3_4, hx_sv3_4, hx_fi3_5, hx_sv3_5, hx_fi3_6, hx_sv3_6, hx_fr3_7, hx_v5, hx_fi5_0, hx_sv5_0, hx_fr5_1, hx_fr5_2, hx_fr5_3, hx_fr5_4, hx_v11, hx_fi11_0, hx_sv11_0, hx_fr11_1, hx_fr11_2, hx_fr11_3, hx_fr11_4, hx_fi11_5, hx_sv11_5, hx_fi11_6, hx_sv11_6, hx_fi11_7, hx_sv11_7, hx_fi11_8, hx_sv11_8, hx_v15, hx_fi15_0, hx_sv15_0, hx_fr15_1, hx_fr15_2, hx_fr15_3, hx_fr15_4, hx_v20, hx_fi20_0, hx_sv20_0, hx_fi20_1, hx_sv20_1, hx_fi20_2, hx_sv20_2, hx_fi20_3, hx_sv20_3, hx_fr20_4, hx_fr20_5, hx_fr20_6, hx_fr20_7, hx_fi20_8, hx_sv20_8, hx_fi20_9, hx_sv20_9, hx_fi20_10, hx_sv20_10, hx_fi20_11, hx_sv20_11, hx_v25, hx_fi25_0, hx_sv25_0, hx_fi25_1, hx_sv25_1, hx_fl, hx_sl, hx_fr25_3, hx_li2, hx_ai2, hx_si2, hx_li6, hx_ai6, hx_si6, hx_li7, hx_ai7, hx_si7, hx_li8, hx_ai8, hx_si8, hx_li9, hx_ai9, hx_si9, hx_li10, hx_ai10, hx_si10, hx_li12, hx_ai12, hx_si12, hx_li13, hx_ai13, hx_si13, hx_li14, hx_ai14, hx_si14, hx_li16, hx_ai16, hx_si16, hx_li17, hx_ai17, hx_si17, hx_li18, hx_ai18, hx_si18, hx_li19, hx_ai19, hx_si19, hx_li21, hx_ai21, hx_si21, hx_li22, hx_ai22, hx_si22, hx_li24, hx_ai24, hx_si24, hx_li26, hx_ai26, hx_si26, hx_li27, hx_ai27, hx_si27, hx_li28, hx_ai28, hx_si28, hx_li29, hx_ai29, hx_si29, hx_li30, hx_ai30, hx_si30, hx_li31, hx_ai31, hx_si31, hx_li32, hx_ai32, hx_si32, hx_li33, hx_ai33, hx_si33, hx_lr4, hx_lr23, hx_sf0, hx_sf1, hx_ss1, hx_sf2, hx_ss2, hx_sf3, hx_ss3, hx_lkli, hx_lksi, gx_z20, gx_z18, hz, hA, nI_ltnn (show a < 1000 by omega), if_false, nI_lti (show A < 1000 by omega) (show M < 1000 by omega), hj]
    by_cases h : A < M
    · rw [if_pos h, if_pos h]
    · rw [if_neg h, if_neg h]
  | succ k ih =>
    intro a d r P K M x hk hd1 hr hP hK hM
    obtain ⟨d2, rfl⟩ : ∃ d2, d = d2 + 1 := ⟨d - 1, by omega⟩
    have a7 : a < 7 := by omega
    have an : a < n := by omega
    have ma : ∀ f : Nat → Int32, ah_rd f 7 (nI a) = some (f a) := fun f => ah_rdN a7 (by decide)
    have loop : ∀ (m b F : Nat) (x : gx_S), m + b = n → a < b → m + 1 ≤ F → r a = 0 → ah_run (kX6_place (aX6_place_d d2 g) g) F 54 [(0, .ref 20), (1, .int (nI a)), (2, .int (nI P)), (3, .int (nI K)), (4, .int (nI M)), (5, .int (nI b))] [] (gx_h z w c x r) = some (none, gx_h z w c ((rw_bk (fun b => if r b = 0 ∧ ok a b = true then rw_L ok lv dv k (a + 1) (rw_j r a b) (P + 1) (K + lv a b) (M + dv a b) else []) m b).foldl (gx_st (z 19) n A ok lv) x) r) := by
      intro m
      induction m with
      | zero =>
        intro b F x hb hab hF h0
        obtain ⟨f, rfl⟩ : ∃ f, F = f + 1 := ⟨F - 1, by omega⟩
        have e : b = n := by omega
        subst e
        unfold gx_h
        simp only [rX6_place_54, ob_s, ob_n, ar_I, ar_L, ar_V, hx_v0, hx_fr0_0, hx_fr0_1, hx_fr0_2, hx_fr0_3, hx_fr0_4, hx_fi0_5, hx_sv0_5, hx_v1, hx_fr1_0, hx_fi1_1, hx_sv1_1, hx_v3, hx_fr3_0, hx_fr3_1, hx_fi3_2, hx_sv3_2, hx_fi3_3, hx_sv3_3, hx_fi3_4, hx_sv3_4, hx_fi3_5, hx_sv3_5, hx_fi3_6, hx_sv3_6, hx_fr3_7, hx_v5, hx_fi5_0, hx_sv5_0, hx_fr5_1, hx_fr5_2, hx_fr5_3, hx_fr5_4, hx_v11, hx_fi11_0, hx_sv11_0, hx_fr11_1, hx_fr11_2, hx_fr11_3, hx_fr11_4, hx_fi11_5, hx_sv11_5, hx_fi11_6, hx_sv11_6, hx_fi11_7, hx_sv11_7, hx_fi11_8, hx_sv11_8, hx_v15, hx_fi15_0, hx_sv15_0, hx_fr15_1, hx_fr15_2, hx_fr15_3, hx_fr15_4, hx_v20, hx_fi20_0, hx_sv20_0, hx_fi20_1, hx_sv20_1, hx_fi20_2, hx_sv20_2, hx_fi20_3, hx_sv20_3, hx_fr20_4, hx_fr20_5, hx_fr20_6, hx_fr20_7, hx_fi20_8, hx_sv20_8, hx_fi20_9, hx_sv20_9, hx_fi20_10, hx_sv20_10, hx_fi20_11, hx_sv20_11, hx_v25, hx_fi25_0, hx_sv25_0, hx_fi25_1, hx_sv25_1, hx_fl, hx_sl, hx_fr25_3, hx_li2, hx_ai2, hx_si2, hx_li6, hx_ai6, hx_si6, hx_li7, hx_ai7, hx_si7, hx_li8, hx_ai8, hx_si8, hx_li9, hx_ai9, hx_si9, hx_li10, hx_ai10, hx_si10, hx_li12, hx_ai12, hx_si12, hx_li13, hx_ai13, hx_si13, hx_li14, hx_ai14, hx_si14, hx_li16, hx_ai16, hx_si16, hx_li17, hx_ai17, hx_si17, hx_li18, hx_ai18, hx_si18, hx_li19, hx_ai19, hx_si19, hx_li21, hx_ai21, hx_si21, hx_li22, hx_ai22, hx_si22, hx_li24, hx_ai24, hx_si24, hx_li26, hx_ai26, hx_si26, hx_li27, hx_ai27, hx_si27, hx_li28, hx_ai28, hx_si28, hx_li29, hx_ai29, hx_si29, hx_li30, hx_ai30, hx_si30, hx_li31, hx_ai31, hx_si31, hx_li32, hx_ai32, hx_si32, hx_li33, hx_ai33, hx_si33, hx_lr4, hx_lr23, hx_sf0, hx_sf1, hx_ss1, hx_sf2, hx_ss2, hx_sf3, hx_ss3, hx_lkli, hx_lksi, gx_z18, hz, nI_ltnn (show b < 1000 by omega), if_false]
        rfl
      | succ m im =>
        intro b F x hb hab hF h0
        obtain ⟨f, rfl⟩ : ∃ f, F = f + 1 := ⟨F - 1, by omega⟩
        have b7 : b < 7 := by omega
        have bn : b < n := by omega
        have mb : ∀ f : Nat → Int32, ah_rd f 7 (nI b) = some (f b) := fun f => ah_rdN b7 (by decide)
        have hrb := hr.lt b
        rw [rw_bk_z, List.foldl_append]
        have sa := en_u r (w 14) (b + 1) a7
        have sb := en_u (rw_u r a (b + 1)) (w 14) (a + 1) b7
        rw [en_s] at sa sb
        rw [show rw_u (rw_u r a (b + 1)) b (a + 1) = rw_j r a b from rfl] at sb
        have s1 := en_u (rw_j r a b) (w 14) 0 a7
        have s2 := en_u (rw_u (rw_j r a b) a 0) (w 14) 0 b7
        rw [en_0] at s1 s2
        have hdd : (if (0 : Int32) ≤ w 15 a - w 15 b then w 15 a - w 15 b else 0 - (w 15 a - w 15 b)) = nI (dv a b) := by
          rw [gm_abs (hst a an) (hst b bn), hd a b an bn]
        have next := fun y => im (b + 1) f y (by omega) (by omega) (by omega) h0
        by_cases h1 : r b = 0 ∧ ok a b = true
        · rw [if_pos h1]
          have eback : rw_u (rw_u (rw_j r a b) a 0) b 0 = r := by
            funext j
            simp only [rw_u, rw_j]
            by_cases q1 : j = a
            · rw [q1, if_neg (by omega), if_pos rfl, h0]
            · by_cases q2 : j = b
              · rw [q2, if_pos rfl, h1.1]
              · rw [if_neg q2, if_neg q1, if_neg q2, if_neg q1]
          rw [eback] at s2
          have rc1 := ih (a + 1) d2 (rw_j r a b) (P + 1) (K + lv a b) (M + dv a b) x (by omega) (by omega) (rw_V_j hs hr (by omega) an bn h0 h1.1 h1.2) (by omega) (by have := hl a b; omega) (by have := hdv a b; omega)
          have nx := next ((rw_L ok lv dv k (a + 1) (rw_j r a b) (P + 1) (K + lv a b) (M + dv a b)).foldl (gx_st (z 19) n A ok lv) x)
          rw [← nx]
          have e1 : gx_lk ok lv a b = nI (lv a b) := if_pos h1.2
          have e2 : (nI (lv a b) = -1) = False := gm_ok_ne (by have := hl a b; omega)
          have e3 : (gm_cpy (enr r) (w 14) 7) b = -1 := by
            rw [gm_cpy_lt b7]
            show en (r b) = -1
            rw [h1.1, en_0]
          unfold gx_h at rc1 ⊢
          simp only [rX6_place_54, ob_s, ob_n, ar_I, ar_L, ar_V, hx_v0, hx_fr0_0, hx_fr0_1, hx_fr0_2, hx_fr0_3, hx_fr0_4, hx_fi0_5, hx_sv0_5, hx_v1, hx_fr1_0, hx_fi1_1, hx_sv1_1, hx_v3, hx_fr3_0, hx_fr3_1, hx_fi3_2, hx_sv3_2, hx_fi3_3, hx_sv3_3, hx_fi3_4, hx_sv3_4, hx_fi3_5, hx_sv3_5, hx_fi3_6, hx_sv3_6, hx_fr3_7, hx_v5, hx_fi5_0, hx_sv5_0, hx_fr5_1, hx_fr5_2, hx_fr5_3, hx_fr5_4, hx_v11, hx_fi11_0, hx_sv11_0, hx_fr11_1, hx_fr11_2, hx_fr11_3, hx_fr11_4, hx_fi11_5, hx_sv11_5, hx_fi11_6, hx_sv11_6, hx_fi11_7, hx_sv11_7, hx_fi11_8, hx_sv11_8, hx_v15, hx_fi15_0, hx_sv15_0, hx_fr15_1, hx_fr15_2, hx_fr15_3, hx_fr15_4, hx_v20, hx_fi20_0, hx_sv20_0, hx_fi20_1, hx_sv20_1, hx_fi20_2, hx_sv20_2, hx_fi20_3, hx_sv20_3, hx_fr20_4, hx_fr20_5, hx_fr20_6, hx_fr20_7, hx_fi20_8, hx_sv20_8, hx_fi20_9, hx_sv20_9, hx_fi20_10, hx_sv20_10, hx_fi20_11, hx_sv20_11, hx_v25, hx_fi25_0, hx_sv25_0, hx_fi25_1, hx_sv25_1, hx_fl, hx_sl, hx_fr25_3, hx_li2, hx_ai2, hx_si2, hx_li6, hx_ai6, hx_si6, hx_li7, hx_ai7, hx_si7, hx_li8, hx_ai8, hx_si8, hx_li9, hx_ai9, hx_si9, hx_li10, hx_ai10, hx_si10, hx_li12, hx_ai12, hx_si12, hx_li13, hx_ai13, hx_si13, hx_li14, hx_ai14, hx_si14, hx_li16, hx_ai16, hx_si16, hx_li17, hx_ai17, hx_si17, hx_li18, hx_ai18, hx_si18, hx_li19, hx_ai19, hx_si19, hx_li21, hx_ai21, hx_si21, hx_li22, hx_ai22, hx_si22, hx_li24, hx_ai24, hx_si24, hx_li26, hx_ai26, hx_si26, hx_li27, hx_ai27, hx_si27, hx_li28, hx_ai28, hx_si28, hx_li29, hx_ai29, hx_si29, hx_li30, hx_ai30, hx_si30, hx_li31, hx_ai31, hx_si31, hx_li32, hx_ai32, hx_si32, hx_li33, hx_ai33, hx_si33, hx_lr4, hx_lr23, hx_sf0, hx_sf1, hx_ss1, hx_sf2, hx_ss2, hx_sf3, hx_ss3, hx_lkli, hx_lksi, gx_z18, hz, nI_ltin bn (show n < 1000 by omega), if_true, gx_w14, gx_w15, gx_w30, a7, b7, ma, mb, e3, hw a b an bn, e1, e2, if_false, gx_uw14, sa, sb, hdd, nI_1, nI_add, rc1, s1, s2]
        · rw [if_neg h1, List.foldl_nil]
          rw [← next x]
          unfold gx_h
          have e3 : ((gm_cpy (enr r) (w 14) 7) b = -1) = (r b = 0) := by
            rw [gm_cpy_lt b7]
            exact en_m1 (by omega)
          simp only [rX6_place_54, ob_s, ob_n, ar_I, ar_L, ar_V, hx_v0, hx_fr0_0, hx_fr0_1, hx_fr0_2, hx_fr0_3, hx_fr0_4, hx_fi0_5, hx_sv0_5, hx_v1, hx_fr1_0, hx_fi1_1, hx_sv1_1, hx_v3, hx_fr3_0, hx_fr3_1, hx_fi3_2, hx_sv3_2, hx_fi3_3, hx_sv3_3, hx_fi3_4, hx_sv3_4, hx_fi3_5, hx_sv3_5, hx_fi3_6, hx_sv3_6, hx_fr3_7, hx_v5, hx_fi5_0, hx_sv5_0, hx_fr5_1, hx_fr5_2, hx_fr5_3, hx_fr5_4, hx_v11, hx_fi11_0, hx_sv11_0, hx_fr11_1, hx_fr11_2, hx_fr11_3, hx_fr11_4, hx_fi11_5, hx_sv11_5, hx_fi11_6, hx_sv11_6, hx_fi11_7, hx_sv11_7, hx_fi11_8, hx_sv11_8, hx_v15, hx_fi15_0, hx_sv15_0, hx_fr15_1, hx_fr15_2, hx_fr15_3, hx_fr15_4, hx_v20, hx_fi20_0, hx_sv20_0, hx_fi20_1, hx_sv20_1, hx_fi20_2, hx_sv20_2, hx_fi20_3, hx_sv20_3, hx_fr20_4, hx_fr20_5, hx_fr20_6, hx_fr20_7, hx_fi20_8, hx_sv20_8, hx_fi20_9, hx_sv20_9, hx_fi20_10, hx_sv20_10, hx_fi20_11, hx_sv20_11, hx_v25, hx_fi25_0, hx_sv25_0, hx_fi25_1, hx_sv25_1, hx_fl, hx_sl, hx_fr25_3, hx_li2, hx_ai2, hx_si2, hx_li6, hx_ai6, hx_si6, hx_li7, hx_ai7, hx_si7, hx_li8, hx_ai8, hx_si8, hx_li9, hx_ai9, hx_si9, hx_li10, hx_ai10, hx_si10, hx_li12, hx_ai12, hx_si12, hx_li13, hx_ai13, hx_si13, hx_li14, hx_ai14, hx_si14, hx_li16, hx_ai16, hx_si16, hx_li17, hx_ai17, hx_si17, hx_li18, hx_ai18, hx_si18, hx_li19, hx_ai19, hx_si19, hx_li21, hx_ai21, hx_si21, hx_li22, hx_ai22, hx_si22, hx_li24, hx_ai24, hx_si24, hx_li26, hx_ai26, hx_si26, hx_li27, hx_ai27, hx_si27, hx_li28, hx_ai28, hx_si28, hx_li29, hx_ai29, hx_si29, hx_li30, hx_ai30, hx_si30, hx_li31, hx_ai31, hx_si31, hx_li32, hx_ai32, hx_si32, hx_li33, hx_ai33, hx_si33, hx_lr4, hx_lr23, hx_sf0, hx_sf1, hx_ss1, hx_sf2, hx_ss2, hx_sf3, hx_ss3, hx_lkli, hx_lksi, gx_z18, hz, nI_ltin bn (show n < 1000 by omega), if_true, gx_w14, gx_w15, gx_w30, a7, b7, ma, mb, e3, hw a b an bn, gx_lk_1 (hl a b), nI_1]
          by_cases h2 : r b = 0
          · rw [if_pos h2, if_pos (fun h3 => h1 ⟨h2, h3⟩)]
          · rw [if_neg h2]
    show ah_fun (kX6_place (aX6_place_d d2 g) g) 7 g _ _ = some (none, gx_h z w c ((rw_L ok lv dv k (a + 1) r P K M ++ _).foldl (gx_st (z 19) n A ok lv) x) r)
    by_cases hAM : A < M
    · have hid : (rw_L ok lv dv (k + 1) a r P K M).foldl (gx_st (z 19) n A ok lv) x = x := gx_st_id _ x (fun i hi => by
        have := rw_all n ok lv dv (fun _ _ _ _ m => M ≤ m) (fun _ _ _ _ _ _ h => h) (fun _ _ _ _ _ _ _ _ h _ _ _ => Nat.le_trans h (Nat.le_add_right _ _)) (k + 1) a r P K M (by omega) (Nat.le_refl _) i hi
        exact Nat.lt_of_lt_of_le hAM this)
      have hid : ((rw_L ok lv dv k (a + 1) r P K M ++ _).foldl (gx_st (z 19) n A ok lv) x) = x := hid
      rw [hid]
      obtain ⟨f, rfl⟩ : ∃ f, g = f + 1 := ⟨g - 1, by omega⟩
      rw [eX6_place]
      unfold gx_h
      simp only [ob_s, ob_n, ar_I, ar_L, ar_V, hx_v0, hx_fr0_0, hx_fr0_1, hx_fr0_2, hx_fr0_3, hx_fr0_4, hx_fi0_5, hx_sv0_5, hx_v1, hx_fr1_0, hx_fi1_1, hx_sv1_1, hx_v3, hx_fr3_0, hx_fr3_1, hx_fi3_2, hx_sv3_2, hx_fi3_3, hx_sv3_3, hx_fi3_4, hx_sv3_4, hx_fi3_5, hx_sv3_5, hx_fi3_6, hx_sv3_6, hx_fr3_7, hx_v5, hx_fi5_0, hx_sv5_0, hx_fr5_1, hx_fr5_2, hx_fr5_3, hx_fr5_4, hx_v11, hx_fi11_0, hx_sv11_0, hx_fr11_1, hx_fr11_2, hx_fr11_3, hx_fr11_4, hx_fi11_5, hx_sv11_5, hx_fi11_6, hx_sv11_6, hx_fi11_7, hx_sv11_7, hx_fi11_8, hx_sv11_8, hx_v15, hx_fi15_0, hx_sv15_0, hx_fr15_1, hx_fr15_2, hx_fr15_3, hx_fr15_4, hx_v20, hx_fi20_0, hx_sv20_0, hx_fi20_1, hx_sv20_1, hx_fi20_2, hx_sv20_2, hx_fi20_3, hx_sv20_3, hx_fr20_4, hx_fr20_5, hx_fr20_6, hx_fr20_7, hx_fi20_8, hx_sv20_8, hx_fi20_9, hx_sv20_9, hx_fi20_10, hx_sv20_10, hx_fi20_11, hx_sv20_11, hx_v25, hx_fi25_0, hx_sv25_0, hx_fi25_1, hx_sv25_1, hx_fl, hx_sl, hx_fr25_3, hx_li2, hx_ai2, hx_si2, hx_li6, hx_ai6, hx_si6, hx_li7, hx_ai7, hx_si7, hx_li8, hx_ai8, hx_si8, hx_li9, hx_ai9, hx_si9, hx_li10, hx_ai10, hx_si10, hx_li12, hx_ai12, hx_si12, hx_li13, hx_ai13, hx_si13, hx_li14, hx_ai14, hx_si14, hx_li16, hx_ai16, hx_si16, hx_li17, hx_ai17, hx_si17, hx_li18, hx_ai18, hx_si18, hx_li19, hx_ai19, hx_si19, hx_li21, hx_ai21, hx_si21, hx_li22, hx_ai22, hx_si22, hx_li24, hx_ai24, hx_si24, hx_li26, hx_ai26, hx_si26, hx_li27, hx_ai27, hx_si27, hx_li28, hx_ai28, hx_si28, hx_li29, hx_ai29, hx_si29, hx_li30, hx_ai30, hx_si30, hx_li31, hx_ai31, hx_si31, hx_li32, hx_ai32, hx_si32, hx_li33, hx_ai33, hx_si33, hx_lr4, hx_lr23, hx_sf0, hx_sf1, hx_ss1, hx_sf2, hx_ss2, hx_sf3, hx_ss3, hx_lkli, hx_lksi, gx_z20, hA, nI_ltin hAM (show M < 1000 by omega), if_true]
    · rw [List.foldl_append]
      have rc1 := ih (a + 1) d2 r P K M x (by omega) (by omega) hr (by omega) (by omega) (by omega)
      have e3 : ((gm_cpy (enr r) (w 14) 7) a = -1) = (r a = 0) := by
        rw [gm_cpy_lt a7]
        exact en_m1 (by have := hr.lt a; omega)
      have lp := loop k (a + 1) (g - 1) ((rw_L ok lv dv k (a + 1) r P K M).foldl (gx_st (z 19) n A ok lv) x) (by omega) (by omega) (by omega)
      obtain ⟨f, rfl⟩ : ∃ f, g = f + 1 := ⟨g - 1, by omega⟩
      rw [Nat.add_sub_cancel] at lp
      rw [eX6_place]
      unfold gx_h at rc1 lp ⊢
      simp only [ob_s, ob_n, ar_I, ar_L, ar_V, hx_v0, hx_fr0_0, hx_fr0_1, hx_fr0_2, hx_fr0_3, hx_fr0_4, hx_fi0_5, hx_sv0_5, hx_v1, hx_fr1_0, hx_fi1_1, hx_sv1_1, hx_v3, hx_fr3_0, hx_fr3_1, hx_fi3_2, hx_sv3_2, hx_fi3_3, hx_sv3_3, hx_fi3_4, hx_sv3_4, hx_fi3_5, hx_sv3_5, hx_fi3_6, hx_sv3_6, hx_fr3_7, hx_v5, hx_fi5_0, hx_sv5_0, hx_fr5_1, hx_fr5_2, hx_fr5_3, hx_fr5_4, hx_v11, hx_fi11_0, hx_sv11_0, hx_fr11_1, hx_fr11_2, hx_fr11_3, hx_fr11_4, hx_fi11_5, hx_sv11_5, hx_fi11_6, hx_sv11_6, hx_fi11_7, hx_sv11_7, hx_fi11_8, hx_sv11_8, hx_v15, hx_fi15_0, hx_sv15_0, hx_fr15_1, hx_fr15_2, hx_fr15_3, hx_fr15_4, hx_v20, hx_fi20_0, hx_sv20_0, hx_fi20_1, hx_sv20_1, hx_fi20_2, hx_sv20_2, hx_fi20_3, hx_sv20_3, hx_fr20_4, hx_fr20_5, hx_fr20_6, hx_fr20_7, hx_fi20_8, hx_sv20_8, hx_fi20_9, hx_sv20_9, hx_fi20_10, hx_sv20_10, hx_fi20_11, hx_sv20_11, hx_v25, hx_fi25_0, hx_sv25_0, hx_fi25_1, hx_sv25_1, hx_fl, hx_sl, hx_fr25_3, hx_li2, hx_ai2, hx_si2, hx_li6, hx_ai6, hx_si6, hx_li7, hx_ai7, hx_si7, hx_li8, hx_ai8, hx_si8, hx_li9, hx_ai9, hx_si9, hx_li10, hx_ai10, hx_si10, hx_li12, hx_ai12, hx_si12, hx_li13, hx_ai13, hx_si13, hx_li14, hx_ai14, hx_si14, hx_li16, hx_ai16, hx_si16, hx_li17, hx_ai17, hx_si17, hx_li18, hx_ai18, hx_si18, hx_li19, hx_ai19, hx_si19, hx_li21, hx_ai21, hx_si21, hx_li22, hx_ai22, hx_si22, hx_li24, hx_ai24, hx_si24, hx_li26, hx_ai26, hx_si26, hx_li27, hx_ai27, hx_si27, hx_li28, hx_ai28, hx_si28, hx_li29, hx_ai29, hx_si29, hx_li30, hx_ai30, hx_si30, hx_li31, hx_ai31, hx_si31, hx_li32, hx_ai32, hx_si32, hx_li33, hx_ai33, hx_si33, hx_lr4, hx_lr23, hx_sf0, hx_sf1, hx_ss1, hx_sf2, hx_ss2, hx_sf3, hx_ss3, hx_lkli, hx_lksi, gx_z20, gx_z18, hA, hz, nI_lti (show A < 1000 by omega) (show M < 1000 by omega), hAM, if_false, nI_ltin an (show n < 1000 by omega), if_true, nI_1, rc1, gx_w14, ma, e3]
      by_cases h0 : r a = 0
      · rw [if_pos h0, if_pos h0, lp h0]
      · rw [if_neg h0, if_neg h0, List.foldl_nil]
end RX3
