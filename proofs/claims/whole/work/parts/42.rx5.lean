/-! the class's rows: seek -/
noncomputable def gx_X (G : Int32) (n A : Nat) (ok : Nat → Nat → Bool) (lv dv : Nat → Nat → Nat) (T : Nat → Int32) : gx_S := (rw_L ok lv dv n 0 rw_0 0 0 0).foldl (gx_st G n A ok lv) ((0, 0, 0, 0, 0), T)
def gx_kz (z z2 : Nat → Int32) : Prop := ∀ k, (k < 14 ∨ 21 < k) → z2 k = z k
def gx_kw (w w2 : Nat → Nat → Int32) : Prop := ∀ k, ¬ k = 13 → ¬ k = 14 → ¬ k = 15 → (k < 30 ∨ 36 < k) → w2 k = w k
theorem gm_R_kk {K n ln sn : Nat} {z z2 : Nat → Int32} {w w2 : Nat → Nat → Int32} {y : Nat → Int32} {v : Nat → Nat → Int32} (hR : gm_R K n ln sn z w y v) (hz : gx_kz z z2) (hw : gx_kw w w2) : gm_R K n ln sn z2 w2 y v := by
  unfold gm_R gm_Rc gm_Ri at hR ⊢
  simp only [hz 0 (by decide), hz 1 (by decide), hz 2 (by decide), hz 3 (by decide), hz 4 (by decide), hz 5 (by decide), hz 6 (by decide), hz 7 (by decide), hz 8 (by decide), hz 9 (by decide), hz 10 (by decide), hz 11 (by decide), hz 12 (by decide), hz 13 (by decide), hw 0 (by decide) (by decide) (by decide) (by decide), hw 1 (by decide) (by decide) (by decide) (by decide), hw 2 (by decide) (by decide) (by decide) (by decide), hw 3 (by decide) (by decide) (by decide) (by decide), hw 6 (by decide) (by decide) (by decide) (by decide), hw 7 (by decide) (by decide) (by decide) (by decide), hw 8 (by decide) (by decide) (by decide) (by decide), hw 9 (by decide) (by decide) (by decide) (by decide), hw 10 (by decide) (by decide) (by decide) (by decide), hw 11 (by decide) (by decide) (by decide) (by decide), hw 17 (by decide) (by decide) (by decide) (by decide), hw 18 (by decide) (by decide) (by decide) (by decide), hw 19 (by decide) (by decide) (by decide) (by decide), hw 20 (by decide) (by decide) (by decide) (by decide), hw 21 (by decide) (by decide) (by decide) (by decide)]
  exact hR
theorem gx_z_id {z : Nat → Int32} (h1 : z 14 = 0) (h2 : z 21 = 0) (h3 : z 15 = 0) (h4 : z 16 = 0) (h5 : z 17 = 0) : gx_z z (0, 0, 0, 0, 0) = z := by
  have a1 : va_up z 14 0 = z := by
    have := gm_up_id z 14
    rwa [h1] at this
  have a2 : va_up z 21 0 = z := by
    have := gm_up_id z 21
    rwa [h2] at this
  have a3 : va_up z 15 0 = z := by
    have := gm_up_id z 15
    rwa [h3] at this
  have a4 : va_up z 16 0 = z := by
    have := gm_up_id z 16
    rwa [h4] at this
  have a5 : va_up z 17 0 = z := by
    have := gm_up_id z 17
    rwa [h5] at this
  unfold gx_z
  simp only [a1, a2, a3, a4, a5]
section RX5
variable {g : Nat}
theorem hx_fill21 (hg : 4000 ≤ g) (z : Nat → Int32) (w : Nat → Nat → Int32) (b : Int64) (x : Int32) : aJ7_fill_53178 g [.ref 21, .int x] (hx z w b) = some (none, hx z (va_up w 13 (gm_cpy (fun _ => x) (w 13) 7)) b) := sJ7_fill hg z w b 21 13 7 x (by omega) (fun t => hx_ai21 z (va_up w 13 t) b) (fun t i x hi => by
  have := hx_si21 z (va_up w 13 t) b i x hi
  rw [bx_uu] at this
  exact this)
theorem hx_fill22 (hg : 4000 ≤ g) (z : Nat → Int32) (w : Nat → Nat → Int32) (b : Int64) (x : Int32) : aJ7_fill_53178 g [.ref 22, .int x] (hx z w b) = some (none, hx z (va_up w 14 (gm_cpy (fun _ => x) (w 14) 7)) b) := sJ7_fill hg z w b 22 14 7 x (by omega) (fun t => hx_ai22 z (va_up w 14 t) b) (fun t i x hi => by
  have := hx_si22 z (va_up w 14 t) b i x hi
  rw [bx_uu] at this
  exact this)
def gx_z0 (z : Nat → Int32) (G A : Int32) : Nat → Int32 := va_up (va_up (va_up (va_up (va_up (va_up (va_up z 19 G) 20 A) 14 0) 15 0) 16 0) 17 0) 21 0
theorem sX6_seek (hg : 4000 ≤ g) (z : Nat → Int32) (w : Nat → Nat → Int32) (b : Int64) (hr : hx_rg w) {n : Nat} (hn : n ≤ 7) (hz : z 2 = nI n) (hmo : hx_mo w n) (G : Int32) {A : Nat} (hA : A ≤ 100) {ok : Nat → Nat → Bool} (hs : ∀ i j, ok i j = true → ok j i = true) {lv dv : Nat → Nat → Nat} (hl : ∀ i j, lv i j ≤ 18) (hdv : ∀ i j, dv i j ≤ 9) (hL : ∀ i j, i < n → j < n → gx_L w i j = gx_lk ok lv i j) (hst : ∀ i, i < n → 0 ≤ (w 20 i).toInt ∧ (w 20 i).toInt ≤ 9) (hd : ∀ i j, i < n → j < n → gm_far (w 20 i) (w 20 j) = nI (dv i j)) : ∃ z2 w2 T, aX6_seek g [.ref 20, .ref 3, .int G, .int (nI A)] (hx z w b) = some (none, hx z2 w2 b) ∧ (∀ i, i < 7 → T i = -1) ∧ gx_kz z z2 ∧ gx_kw w w2 ∧ z2 14 = (gx_X G n A ok lv dv T).1.1 ∧ z2 15 = (gx_X G n A ok lv dv T).1.2.2.1 ∧ z2 16 = (gx_X G n A ok lv dv T).1.2.2.2.1 ∧ z2 17 = (gx_X G n A ok lv dv T).1.2.2.2.2 ∧ w2 13 = (gx_X G n A ok lv dv T).2 := by
  have f1 := hx_fill21 hg (gx_z0 z G (nI A)) w b (-1)
  have f2 := hx_fill22 hg (gx_z0 z G (nI A)) (va_up w 13 (gm_cpy (fun _ => -1) (w 13) 7)) b (-1)
  have e14 : va_up w 13 (gm_cpy (fun _ => -1) (w 13) 7) 14 = w 14 := rfl
  rw [e14] at f2
  obtain ⟨w2, l1, l2, l3, l4⟩ := sX6_learn hg (gx_z0 z G (nI A)) (va_up (va_up w 13 (gm_cpy (fun _ => -1) (w 13) 7)) 14 (gm_cpy (fun _ => -1) (w 14) 7)) b (show hx_rg _ from hr) hn hz (show hx_mo _ n from hmo)
  have e2 : ∀ i j, gx_L (va_up (va_up w 13 (gm_cpy (fun _ => -1) (w 13) 7)) 14 (gm_cpy (fun _ => -1) (w 14) 7)) i j = gx_L w i j := fun i j => rfl
  have e20 : va_up (va_up w 13 (gm_cpy (fun _ => -1) (w 13) 7)) 14 (gm_cpy (fun _ => -1) (w 14) 7) 20 = w 20 := rfl
  have w13 : w2 13 = gm_cpy (fun _ => -1) (w 13) 7 := l2 13 (by decide) (by decide)
  have w14 : w2 14 = gm_cpy (fun _ => -1) (w 14) 7 := l2 14 (by decide) (by decide)
  have pl := sX6_place hg (va_up (gx_z0 z G (nI A)) 18 (nI n)) w2 b hn rfl rfl hA hs hl hdv (fun i j hi hj => by rw [l4 i j hi hj, e2]; exact hL i j hi hj) (fun i hi => by rw [l3 i hi, e20]; exact hst i hi) (fun i j hi hj => by rw [l3 i hi, l3 j hj, e20]; exact hd i j hi hj) n 0 12 rw_0 0 0 0 ((0, 0, 0, 0, 0), w2 13) (Nat.add_zero n) (by omega) (rw_I0 n ok lv dv).1 (by omega) (by omega) (by omega)
  have ez : gx_z (va_up (gx_z0 z G (nI A)) 18 (nI n)) (0, 0, 0, 0, 0) = va_up (gx_z0 z G (nI A)) 18 (nI n) := gx_z_id rfl rfl rfl rfl rfl
  have er : gm_cpy (enr rw_0) (w2 14) 7 = w2 14 := by
    rw [w14, show enr rw_0 = fun _ => -1 from rfl]
    funext j
    by_cases h : j < 7
    · rw [gm_cpy_lt h, gm_cpy_lt h]
    · rw [gm_cpy_ge h]
  have ew : gx_w w2 (w2 13) (w2 14) = w2 := by
    unfold gx_w
    rw [gm_up_id, gm_up_id]
  have eh : gx_h (va_up (gx_z0 z G (nI A)) 18 (nI n)) w2 b ((0, 0, 0, 0, 0), w2 13) rw_0 = hx (va_up (gx_z0 z G (nI A)) 18 (nI n)) w2 b := by
    unfold gx_h
    rw [er]
    show hx (gx_z _ (0, 0, 0, 0, 0)) (gx_w w2 (w2 13) (w2 14)) b = _
    rw [ez, ew]
  rw [eh] at pl
  have eG : va_up (gx_z0 z G (nI A)) 18 (nI n) 19 = G := rfl
  rw [eG] at pl
  have pl : aX6_place g [.ref 20, .int 0, .int 0, .int 0, .int 0] (hx (va_up (gx_z0 z G (nI A)) 18 (nI n)) w2 b) = some (none, gx_h (va_up (gx_z0 z G (nI A)) 18 (nI n)) w2 b (gx_X G n A ok lv dv (w2 13)) rw_0) := pl
  refine ⟨gx_z (va_up (gx_z0 z G (nI A)) 18 (nI n)) (gx_X G n A ok lv dv (w2 13)).1, gx_w w2 (gx_X G n A ok lv dv (w2 13)).2 (gm_cpy (enr rw_0) (w2 14) 7), w2 13, ?_, ?_, ?_, ?_, rfl, rfl, rfl, rfl, rfl⟩
  · unfold gx_z0 at f1 f2 l1 pl
    obtain ⟨f, rfl⟩ : ∃ f, g = f + 1 := ⟨g - 1, by omega⟩
    unfold aX6_seek
    rw [eX6_seek]
    simp only [ob_s, ob_n, ar_I, ar_L, ar_V, hx_v0, hx_fr0_0, hx_fr0_1, hx_fr0_2, hx_fr0_3, hx_fr0_4, hx_fi0_5, hx_sv0_5, hx_v1, hx_fr1_0, hx_fi1_1, hx_sv1_1, hx_v3, hx_fr3_0, hx_fr3_1, hx_fi3_2, hx_sv3_2, hx_fi3_3, hx_sv3_3, hx_fi3_4, hx_sv3_4, hx_fi3_5, hx_sv3_5, hx_fi3_6, hx_sv3_6, hx_fr3_7, hx_v5, hx_fi5_0, hx_sv5_0, hx_fr5_1, hx_fr5_2, hx_fr5_3, hx_fr5_4, hx_v11, hx_fi11_0, hx_sv11_0, hx_fr11_1, hx_fr11_2, hx_fr11_3, hx_fr11_4, hx_fi11_5, hx_sv11_5, hx_fi11_6, hx_sv11_6, hx_fi11_7, hx_sv11_7, hx_fi11_8, hx_sv11_8, hx_v15, hx_fi15_0, hx_sv15_0, hx_fr15_1, hx_fr15_2, hx_fr15_3, hx_fr15_4, hx_v20, hx_fi20_0, hx_sv20_0, hx_fi20_1, hx_sv20_1, hx_fi20_2, hx_sv20_2, hx_fi20_3, hx_sv20_3, hx_fr20_4, hx_fr20_5, hx_fr20_6, hx_fr20_7, hx_fi20_8, hx_sv20_8, hx_fi20_9, hx_sv20_9, hx_fi20_10, hx_sv20_10, hx_fi20_11, hx_sv20_11, hx_v25, hx_fi25_0, hx_sv25_0, hx_fi25_1, hx_sv25_1, hx_fl, hx_sl, hx_fr25_3, hx_li2, hx_ai2, hx_si2, hx_li6, hx_ai6, hx_si6, hx_li7, hx_ai7, hx_si7, hx_li8, hx_ai8, hx_si8, hx_li9, hx_ai9, hx_si9, hx_li10, hx_ai10, hx_si10, hx_li12, hx_ai12, hx_si12, hx_li13, hx_ai13, hx_si13, hx_li14, hx_ai14, hx_si14, hx_li16, hx_ai16, hx_si16, hx_li17, hx_ai17, hx_si17, hx_li18, hx_ai18, hx_si18, hx_li19, hx_ai19, hx_si19, hx_li21, hx_ai21, hx_si21, hx_li22, hx_ai22, hx_si22, hx_li24, hx_ai24, hx_si24, hx_li26, hx_ai26, hx_si26, hx_li27, hx_ai27, hx_si27, hx_li28, hx_ai28, hx_si28, hx_li29, hx_ai29, hx_si29, hx_li30, hx_ai30, hx_si30, hx_li31, hx_ai31, hx_si31, hx_li32, hx_ai32, hx_si32, hx_li33, hx_ai33, hx_si33, hx_lr4, hx_lr23, hx_sf0, hx_sf1, hx_ss1, hx_sf2, hx_ss2, hx_sf3, hx_ss3, hx_lkli, hx_lksi, f1, f2, l1, pl]
    rfl
  · intro i hi
    rw [w13, gm_cpy_lt hi]
  · intro k hk
    unfold gx_z gx_z0
    simp only [va_l]
    rw [if_neg (by omega), if_neg (by omega), if_neg (by omega), if_neg (by omega), if_neg (by omega), if_neg (by omega), if_neg (by omega), if_neg (by omega), if_neg (by omega), if_neg (by omega), if_neg (by omega), if_neg (by omega), if_neg (by omega)]
  · intro k k1 k2 k3 k4
    unfold gx_w
    rw [va_l, if_neg k2, va_l, if_neg k1, l2 k k3 k4, va_l, if_neg k2, va_l, if_neg k1]
theorem sX6_mateOf (hg : 4000 ≤ g) (z : Nat → Int32) (w : Nat → Nat → Int32) (b : Int64) (i : Nat) (hi : i < 7) : aX6_mateOf g [.ref 20, .int (nI i)] (hx z w b) = some (some (.int (w 13 i)), hx z w b) := by
  have mi : ∀ f : Nat → Int32, ah_rd f 7 (nI i) = some (f i) := fun f => ah_rdN hi (by decide)
  have e1 : (nI i < 0) = False := by
    refine eq_false (fun h => ?_)
    rw [i32_lt, nI_toInt (by omega), show (0 : Int32).toInt = 0 from rfl] at h
    omega
  obtain ⟨f, rfl⟩ : ∃ f, g = f + 1 := ⟨g - 1, by omega⟩
  unfold aX6_mateOf
  rw [eX6_mateOf]
  simp only [e1, if_false, nI_lt7 (show i < 1000 by omega), hi, if_true, ob_s, ob_n, ar_I, ar_L, ar_V, hx_v0, hx_fr0_0, hx_fr0_1, hx_fr0_2, hx_fr0_3, hx_fr0_4, hx_fi0_5, hx_sv0_5, hx_v1, hx_fr1_0, hx_fi1_1, hx_sv1_1, hx_v3, hx_fr3_0, hx_fr3_1, hx_fi3_2, hx_sv3_2, hx_fi3_3, hx_sv3_3, hx_fi3_4, hx_sv3_4, hx_fi3_5, hx_sv3_5, hx_fi3_6, hx_sv3_6, hx_fr3_7, hx_v5, hx_fi5_0, hx_sv5_0, hx_fr5_1, hx_fr5_2, hx_fr5_3, hx_fr5_4, hx_v11, hx_fi11_0, hx_sv11_0, hx_fr11_1, hx_fr11_2, hx_fr11_3, hx_fr11_4, hx_fi11_5, hx_sv11_5, hx_fi11_6, hx_sv11_6, hx_fi11_7, hx_sv11_7, hx_fi11_8, hx_sv11_8, hx_v15, hx_fi15_0, hx_sv15_0, hx_fr15_1, hx_fr15_2, hx_fr15_3, hx_fr15_4, hx_v20, hx_fi20_0, hx_sv20_0, hx_fi20_1, hx_sv20_1, hx_fi20_2, hx_sv20_2, hx_fi20_3, hx_sv20_3, hx_fr20_4, hx_fr20_5, hx_fr20_6, hx_fr20_7, hx_fi20_8, hx_sv20_8, hx_fi20_9, hx_sv20_9, hx_fi20_10, hx_sv20_10, hx_fi20_11, hx_sv20_11, hx_v25, hx_fi25_0, hx_sv25_0, hx_fi25_1, hx_sv25_1, hx_fl, hx_sl, hx_fr25_3, hx_li2, hx_ai2, hx_si2, hx_li6, hx_ai6, hx_si6, hx_li7, hx_ai7, hx_si7, hx_li8, hx_ai8, hx_si8, hx_li9, hx_ai9, hx_si9, hx_li10, hx_ai10, hx_si10, hx_li12, hx_ai12, hx_si12, hx_li13, hx_ai13, hx_si13, hx_li14, hx_ai14, hx_si14, hx_li16, hx_ai16, hx_si16, hx_li17, hx_ai17, hx_si17, hx_li18, hx_ai18, hx_si18, hx_li19, hx_ai19, hx_si19, hx_li21, hx_ai21, hx_si21, hx_li22, hx_ai22, hx_si22, hx_li24, hx_ai24, hx_si24, hx_li26, hx_ai26, hx_si26, hx_li27, hx_ai27, hx_si27, hx_li28, hx_ai28, hx_si28, hx_li29, hx_ai29, hx_si29, hx_li30, hx_ai30, hx_si30, hx_li31, hx_ai31, hx_si31, hx_li32, hx_ai32, hx_si32, hx_li33, hx_ai33, hx_si33, hx_lr4, hx_lr23, hx_sf0, hx_sf1, hx_ss1, hx_sf2, hx_ss2, hx_sf3, hx_ss3, hx_lkli, hx_lksi, mi]
end RX5
