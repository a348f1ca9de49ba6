/-! sizes and looks: the class -/
def gm_all (p : Nat → Bool) : Nat → Nat → Bool
  | 0, _ => true
  | k + 1, i => p i && gm_all p k (i + 1)
theorem gm_all_0 (p : Nat → Bool) (i : Nat) : gm_all p 0 i = true := Eq.trans rfl rfl
theorem gm_all_s (p : Nat → Bool) (k i : Nat) : gm_all p (k + 1) i = (p i && gm_all p k (i + 1)) := Eq.trans rfl rfl
theorem gm_all_c {p q : Nat → Bool} : ∀ k i : Nat, (∀ j, i ≤ j → j < i + k → p j = q j) → gm_all p k i = gm_all q k i
  | 0, _, _ => rfl
  | k + 1, i, h => by
    rw [gm_all_s, gm_all_s, h i (by omega) (by omega), gm_all_c k (i + 1) (fun j h1 h2 => h j (by omega) (by omega))]
def gm_ag (kd hd sz p q r : Nat → Int32) (a s i : Nat) : Bool := !decide (p i = nI a) || decide (gm_lk kd hd (upd sz a (nI s)) a (q i).toNatClampNeg = r i)
def gm_ix (x : Int32) : Nat := (x + 1).toNatClampNeg
theorem gm_ixf : ∀ k : Fin 19, (nI k.val - (-1) = nI (gm_ix (nI k.val)) ∧ nI k.val + 1 = nI (gm_ix (nI k.val))) ∧ gm_ix (nI k.val) < 20 := by decide +kernel
theorem gm_ixs {x : Int32} (h : x = -1 ∨ (0 ≤ x.toInt ∧ x.toInt ≤ 18)) : (x - (-1) = nI (gm_ix x) ∧ x + 1 = nI (gm_ix x)) ∧ gm_ix x < 20 := by
  rcases h with rfl | h
  · decide +kernel
  · have e := i32_nI h.1
    have := gm_ixf ⟨x.toInt.toNat, by omega⟩
    dsimp only at this
    rw [← e] at this
    exact this
theorem gm_lk_all {kd hd sz : Nat → Int32} (hr : ∀ i, i < 7 → 0 ≤ (sz i).toInt ∧ (sz i).toInt ≤ 9) {i j : Nat} (hi : i < 7) (hj : j < 7) : gm_lk kd hd sz i j = -1 ∨ (0 ≤ (gm_lk kd hd sz i j).toInt ∧ (gm_lk kd hd sz i j).toInt ≤ 18) := by
  cases c : gm_mb kd hd sz i j
  · exact Or.inl (gm_lk_no c)
  · exact Or.inr (gm_lk_rg hr hi hj c)
theorem gm_rg_upd {sz : Nat → Int32} (hr : ∀ i, i < 7 → 0 ≤ (sz i).toInt ∧ (sz i).toInt ≤ 9) (a : Nat) {s : Nat} (hs : s < 10) : ∀ i, i < 7 → 0 ≤ (upd sz a (nI s) i).toInt ∧ (upd sz a (nI s) i).toInt ≤ 9 := fun i hi => by
  by_cases e : i = a
  · rw [e, upd_self, nI_toInt (by omega)]
    omega
  · rw [upd_ne _ _ e]
    exact hr i hi
/-- how many are left at worst -/
def gm_lws (bit : Nat → Bool) (ix : Nat → Nat) (x : (Nat → Nat) × Nat) (s : Nat) : (Nat → Nat) × Nat := if bit s = true then (fun a => if a = ix s then x.1 a + 1 else x.1 a, if x.2 < x.1 (ix s) + 1 then x.1 (ix s) + 1 else x.2) else x
def gm_lw (bit : Nat → Bool) (ix : Nat → Nat) : Nat := (gm_lp (gm_lws bit ix) 10 0 (fun _ => 0, 0)).2
def gm_lwP (i : Nat) (x : (Nat → Nat) × Nat) : Prop := (∀ a, x.1 a ≤ x.2) ∧ x.2 ≤ i
theorem gm_lws_P {bit : Nat → Bool} {ix : Nat → Nat} {i : Nat} {x : (Nat → Nat) × Nat} (h : gm_lwP i x) : gm_lwP (i + 1) (gm_lws bit ix x i) := by
  unfold gm_lws
  split
  · have h1 := h.1 (ix i)
    have h2 := h.2
    refine ⟨fun a => ?_, ?_⟩
    · have h3 := h.1 a
      dsimp only
      by_cases e : a = ix i
      · rw [if_pos e, e]
        split <;> omega
      · rw [if_neg e]
        split <;> omega
    · dsimp only
      split <;> omega
  · exact ⟨h.1, Nat.le_succ_of_le h.2⟩
theorem gm_lw_le (bit : Nat → Bool) (ix : Nat → Nat) : gm_lw bit ix ≤ 10 := by
  have := gm_lp_inv (st := gm_lws bit ix) gm_lwP 10 0 (fun _ => 0, 0) ⟨fun _ => Nat.le_refl _, Nat.le_refl _⟩ (fun j a _ _ h => gm_lws_P h)
  exact this.2
def gm_los (a : Nat) (lw : Nat → Nat) (x : Int32 × Nat) (j : Nat) : Int32 × Nat := if j = a then x else if lw j < x.2 then (nI j, lw j) else x
def gm_bit (v : Int32) (s : Nat) : Bool := decide (((v >>> (nI s &&& 31)) &&& 1) = 1)
section SG1
variable {g : Nat}
theorem sX7_agrees (hg : 4000 ≤ g) (z : Nat → Int32) (w : Nat → Nat → Int32) (b : Int64) (hr : hx_rg w) {sn : Nat} (hn : sn ≤ 8) (hz : z 7 = nI sn) (ho : ∀ i, i < sn → ∃ j : Nat, j < 7 ∧ w 2 i = nI j) (a s : Nat) (ha : a < 7) (hs : s < 10) : aX7_agrees g [.ref 5, .ref 3, .int (nI a), .int (nI s)] (hx z w b) = some (some (.int (bI (gm_all (gm_ag (w 17) (w 18) (w 19) (w 1) (w 2) (w 3) a s) sn 0))), hx z w b) := by
  have loop : ∀ (k i F : Nat), i + k = sn → k + 1 ≤ F → ah_run (kX7_agrees g) F 3 [(0, .ref 5), (1, .ref 3), (2, .int (nI a)), (3, .int (nI s)), (4, .int (nI i))] [] (hx z w b) = some (some (.int (bI (gm_all (gm_ag (w 17) (w 18) (w 19) (w 1) (w 2) (w 3) a s) k i))), hx z w b) := by
    intro k
    induction k with
    | zero =>
      intro i F hi hF
      obtain ⟨f, rfl⟩ : ∃ f, F = f + 1 := ⟨F - 1, by omega⟩
      have e : i = sn := by omega
      subst e
      simp only [rX7_agrees_3, ob_s, ob_n, ar_I, ar_L, ar_V, hx_v0, hx_fr0_0, hx_fr0_1, hx_fr0_2, hx_fr0_3, hx_fr0_4, hx_fi0_5, hx_sv0_5, hx_v1, hx_fr1_0, hx_fi1_1, hx_sv1_1, hx_v3, hx_fr3_0, hx_fr3_1, hx_fi3_2, hx_sv3_2, hx_fi3_3, hx_sv3_3, hx_fi3_4, hx_sv3_4, hx_fi3_5, hx_sv3_5, hx_fi3_6, hx_sv3_6, hx_fr3_7, hx_v5, hx_fi5_0, hx_sv5_0, hx_fr5_1, hx_fr5_2, hx_fr5_3, hx_fr5_4, hx_v11, hx_fi11_0, hx_sv11_0, hx_fr11_1, hx_fr11_2, hx_fr11_3, hx_fr11_4, hx_fi11_5, hx_sv11_5, hx_fi11_6, hx_sv11_6, hx_fi11_7, hx_sv11_7, hx_fi11_8, hx_sv11_8, hx_v15, hx_fi15_0, hx_sv15_0, hx_fr15_1, hx_fr15_2, hx_fr15_3, hx_fr15_4, hx_v20, hx_fi20_0, hx_sv20_0, hx_fi20_1, hx_sv20_1, hx_fi20_2, hx_sv20_2, hx_fi20_3, hx_sv20_3, hx_fr20_4, hx_fr20_5, hx_fr20_6, hx_fr20_7, hx_fi20_8, hx_sv20_8, hx_fi20_9, hx_sv20_9, hx_fi20_10, hx_sv20_10, hx_fi20_11, hx_sv20_11, hx_v25, hx_fi25_0, hx_sv25_0, hx_fi25_1, hx_sv25_1, hx_fl, hx_sl, hx_fr25_3, hx_li2, hx_ai2, hx_si2, hx_li6, hx_ai6, hx_si6, hx_li7, hx_ai7, hx_si7, hx_li8, hx_ai8, hx_si8, hx_li9, hx_ai9, hx_si9, hx_li10, hx_ai10, hx_si10, hx_li12, hx_ai12, hx_si12, hx_li13, hx_ai13, hx_si13, hx_li14, hx_ai14, hx_si14, hx_li16, hx_ai16, hx_si16, hx_li17, hx_ai17, hx_si17, hx_li18, hx_ai18, hx_si18, hx_li19, hx_ai19, hx_si19, hx_li21, hx_ai21, hx_si21, hx_li22, hx_ai22, hx_si22, hx_li24, hx_ai24, hx_si24, hx_li26, hx_ai26, hx_si26, hx_li27, hx_ai27, hx_si27, hx_li28, hx_ai28, hx_si28, hx_li29, hx_ai29, hx_si29, hx_li30, hx_ai30, hx_si30, hx_li31, hx_ai31, hx_si31, hx_li32, hx_ai32, hx_si32, hx_li33, hx_ai33, hx_si33, hx_lr4, hx_lr23, hx_sf0, hx_sf1, hx_ss1, hx_sf2, hx_ss2, hx_sf3, hx_ss3, hx_lkli, hx_lksi, hz, nI_ltnn (show i < 1000 by omega), if_false, gm_all_0, bI_t]
    | succ k ih =>
      intro i F hi hF
      obtain ⟨f, rfl⟩ : ∃ f, F = f + 1 := ⟨F - 1, by omega⟩
      have i8 : i < 8 := by omega
      have m1 : ∀ f : Nat → Int32, ah_rd f 8 (nI i) = some (f i) := fun f => ah_rdN i8 (by decide)
      obtain ⟨j, hj, ej⟩ := ho i (by omega)
      have hl := sX0_likenessAt z w b hg hr a j ha hj (nI s) (by rw [nI_toInt (by omega)]; omega)
      have hv : gm_ag (w 17) (w 18) (w 19) (w 1) (w 2) (w 3) a s i = (!decide (w 1 i = nI a) || decide (gm_lk (w 17) (w 18) (upd (w 19) a (nI s)) a j = w 3 i)) := by
        unfold gm_ag
        rw [ej, nI_clamp (by omega)]
      simp only [rX7_agrees_3, ob_s, ob_n, ar_I, ar_L, ar_V, hx_v0, hx_fr0_0, hx_fr0_1, hx_fr0_2, hx_fr0_3, hx_fr0_4, hx_fi0_5, hx_sv0_5, hx_v1, hx_fr1_0, hx_fi1_1, hx_sv1_1, hx_v3, hx_fr3_0, hx_fr3_1, hx_fi3_2, hx_sv3_2, hx_fi3_3, hx_sv3_3, hx_fi3_4, hx_sv3_4, hx_fi3_5, hx_sv3_5, hx_fi3_6, hx_sv3_6, hx_fr3_7, hx_v5, hx_fi5_0, hx_sv5_0, hx_fr5_1, hx_fr5_2, hx_fr5_3, hx_fr5_4, hx_v11, hx_fi11_0, hx_sv11_0, hx_fr11_1, hx_fr11_2, hx_fr11_3, hx_fr11_4, hx_fi11_5, hx_sv11_5, hx_fi11_6, hx_sv11_6, hx_fi11_7, hx_sv11_7, hx_fi11_8, hx_sv11_8, hx_v15, hx_fi15_0, hx_sv15_0, hx_fr15_1, hx_fr15_2, hx_fr15_3, hx_fr15_4, hx_v20, hx_fi20_0, hx_sv20_0, hx_fi20_1, hx_sv20_1, hx_fi20_2, hx_sv20_2, hx_fi20_3, hx_sv20_3, hx_fr20_4, hx_fr20_5, hx_fr20_6, hx_fr20_7, hx_fi20_8, hx_sv20_8, hx_fi20_9, hx_sv20_9, hx_fi20_10, hx_sv20_10, hx_fi20_11, hx_sv20_11, hx_v25, hx_fi25_0, hx_sv25_0, hx_fi25_1, hx_sv25_1, hx_fl, hx_sl, hx_fr25_3, hx_li2, hx_ai2, hx_si2, hx_li6, hx_ai6, hx_si6, hx_li7, hx_ai7, hx_si7, hx_li8, hx_ai8, hx_si8, hx_li9, hx_ai9, hx_si9, hx_li10, hx_ai10, hx_si10, hx_li12, hx_ai12, hx_si12, hx_li13, hx_ai13, hx_si13, hx_li14, hx_ai14, hx_si14, hx_li16, hx_ai16, hx_si16, hx_li17, hx_ai17, hx_si17, hx_li18, hx_ai18, hx_si18, hx_li19, hx_ai19, hx_si19, hx_li21, hx_ai21, hx_si21, hx_li22, hx_ai22, hx_si22, hx_li24, hx_ai24, hx_si24, hx_li26, hx_ai26, hx_si26, hx_li27, hx_ai27, hx_si27, hx_li28, hx_ai28, hx_si28, hx_li29, hx_ai29, hx_si29, hx_li30, hx_ai30, hx_si30, hx_li31, hx_ai31, hx_si31, hx_li32, hx_ai32, hx_si32, hx_li33, hx_ai33, hx_si33, hx_lr4, hx_lr23, hx_sf0, hx_sf1, hx_ss1, hx_sf2, hx_ss2, hx_sf3, hx_ss3, hx_lkli, hx_lksi, hz, nI_ltin (show i < sn by omega) (show sn < 1000 by omega), if_true, m1, ej, hl, nI_1, gm_all_s, hv]
      rw [ih (i + 1) f (by omega) (by omega)]
      by_cases c1 : w 1 i = nI a
      · by_cases c2 : gm_lk (w 17) (w 18) (upd (w 19) a (nI s)) a j = w 3 i
        · rw [if_pos c1, if_pos c2, decide_eq_true c1, decide_eq_true c2]
          rfl
        · rw [if_pos c1, if_neg c2, decide_eq_true c1, decide_eq_false c2]
          rfl
      · rw [if_neg c1, decide_eq_false c1]
        rfl
  obtain ⟨f, rfl⟩ : ∃ f, g = f + 20 := ⟨g - 20, by omega⟩
  unfold aX7_agrees
  rw [eX7_agrees]
  have := loop sn 0 (f + 19) (by omega) (by omega)
  rw [show nI 0 = 0 from rfl] at this
  exact this
theorem sX7_sizesOf (hg : 4000 ≤ g) (z : Nat → Int32) (w : Nat → Nat → Int32) (b : Int64) (hr : hx_rg w) {sn : Nat} (hn : sn ≤ 8) (hz : z 7 = nI sn) (ho : ∀ i, i < sn → ∃ j : Nat, j < 7 ∧ w 2 i = nI j) (a : Nat) (ha : a < 7) : aX7_sizesOf g [.ref 5, .ref 3, .int (nI a)] (hx z w b) = some (some (.int (gm_bits (fun s => gm_all (gm_ag (w 17) (w 18) (w 19) (w 1) (w 2) (w 3) a s) sn 0) 10)), hx z w b) := by
  have loop := gm_loopx (n := 10) (fun F i x => ah_run (kX7_sizesOf g) F 5 [(0, .ref 5), (1, .ref 3), (2, .int (nI a)), (3, .int x), (4, .int (nI i))] [] (hx z w b)) (fun x j => if gm_all (gm_ag (w 17) (w 18) (w 19) (w 1) (w 2) (w 3) a j) sn 0 = true then x ||| (1 <<< (nI j &&& 31)) else x) (fun x => some (some (.int x), hx z w b)) (fun _ _ => True) (fun f x _ => by
      simp only [rX7_sizesOf_5, nI_lt10 (show 10 < 1000 by omega), Nat.lt_irrefl, if_false]) (fun f i x hi _ => ⟨by
      simp only [rX7_sizesOf_5, ob_s, ob_n, ar_I, ar_L, ar_V, hx_v0, hx_fr0_0, hx_fr0_1, hx_fr0_2, hx_fr0_3, hx_fr0_4, hx_fi0_5, hx_sv0_5, hx_v1, hx_fr1_0, hx_fi1_1, hx_sv1_1, hx_v3, hx_fr3_0, hx_fr3_1, hx_fi3_2, hx_sv3_2, hx_fi3_3, hx_sv3_3, hx_fi3_4, hx_sv3_4, hx_fi3_5, hx_sv3_5, hx_fi3_6, hx_sv3_6, hx_fr3_7, hx_v5, hx_fi5_0, hx_sv5_0, hx_fr5_1, hx_fr5_2, hx_fr5_3, hx_fr5_4, hx_v11, hx_fi11_0, hx_sv11_0, hx_fr11_1, hx_fr11_2, hx_fr11_3, hx_fr11_4, hx_fi11_5, hx_sv11_5, hx_fi11_6, hx_sv11_6, hx_fi11_7, hx_sv11_7, hx_fi11_8, hx_sv11_8, hx_v15, hx_fi15_0, hx_sv15_0, hx_fr15_1, hx_fr15_2, hx_fr15_3, hx_fr15_4, hx_v20, hx_fi20_0, hx_sv20_0, hx_fi20_1, hx_sv20_1, hx_fi20_2, hx_sv20_2, hx_fi20_3, hx_sv20_3, hx_fr20_4, hx_fr20_5, hx_fr20_6, hx_fr20_7, hx_fi20_8, hx_sv20_8, hx_fi20_9, hx_sv20_9, hx_fi20_10, hx_sv20_10, hx_fi20_11, hx_sv20_11, hx_v25, hx_fi25_0, hx_sv25_0, hx_fi25_1, hx_sv25_1, hx_fl, hx_sl, hx_fr25_3, hx_li2, hx_ai2, hx_si2, hx_li6, hx_ai6, hx_si6, hx_li7, hx_ai7, hx_si7, hx_li8, hx_ai8, hx_si8, hx_li9, hx_ai9, hx_si9, hx_li10, hx_ai10, hx_si10, hx_li12, hx_ai12, hx_si12, hx_li13, hx_ai13, hx_si13, hx_li14, hx_ai14, hx_si14, hx_li16, hx_ai16, hx_si16, hx_li17, hx_ai17, hx_si17, hx_li18, hx_ai18, hx_si18, hx_li19, hx_ai19, hx_si19, hx_li21, hx_ai21, hx_si21, hx_li22, hx_ai22, hx_si22, hx_li24, hx_ai24, hx_si24, hx_li26, hx_ai26, hx_si26, hx_li27, hx_ai27, hx_si27, hx_li28, hx_ai28, hx_si28, hx_li29, hx_ai29, hx_si29, hx_li30, hx_ai30, hx_si30, hx_li31, hx_ai31, hx_si31, hx_li32, hx_ai32, hx_si32, hx_li33, hx_ai33, hx_si33, hx_lr4, hx_lr23, hx_sf0, hx_sf1, hx_ss1, hx_sf2, hx_ss2, hx_sf3, hx_ss3, hx_lkli, hx_lksi, nI_lt10 (show i < 1000 by omega), hi, if_true, sX7_agrees hg z w b hr hn hz ho a i ha hi, bI_0, nI_1]
      cases c : gm_all (gm_ag (w 17) (w 18) (w 19) (w 1) (w 2) (w 3) a i) sn 0
      · rw [if_pos rfl, if_neg (by decide)]
      · rw [if_neg (by decide), if_pos rfl], trivial⟩)
  obtain ⟨f, rfl⟩ : ∃ f, g = f + 20 := ⟨g - 20, by omega⟩
  unfold aX7_sizesOf
  rw [eX7_sizesOf]
  have := loop 0 trivial (f + 19) (by omega)
  rw [show nI 0 = 0 from rfl] at this
  exact this
theorem sJ7_fill (hg : 4000 ≤ g) (z : Nat → Int32) (w : Nat → Nat → Int32) (b : Int64) (p sl L : Nat) (x : Int32) (hL : L ≤ 40) (h1 : ∀ t, ah_ai (hx z (va_up w sl t) b) p 0 = some (L, t)) (h2 : ∀ t i x, i < L → ah_si (hx z (va_up w sl t) b) p 0 (nI i) x = some (hx z (va_up w sl (upd t i x)) b)) : aJ7_fill_53178 g [.ref p, .int x] (hx z w b) = some (none, hx z (va_up w sl (gm_cpy (fun _ => x) (w sl) L)) b) := by
  have loop : ∀ (k i F : Nat), i + k = L → k + 1 ≤ F → ah_run (kJ7_fill_53178 g) F 5 [(0, .ref p), (1, .int x), (2, .int (nI i)), (3, .int (nI L))] [] (hx z (va_up w sl (gm_cpy (fun _ => x) (w sl) i)) b) = some (none, hx z (va_up w sl (gm_cpy (fun _ => x) (w sl) L)) b) := by
    intro k
    induction k with
    | zero =>
      intro i F hi hF
      obtain ⟨f, rfl⟩ : ∃ f, F = f + 1 := ⟨F - 1, by omega⟩
      have e : i = L := by omega
      subst e
      simp only [rJ7_fill_53178_5, nI_ltnn (show i < 1000 by omega), if_false]
    | succ k ih =>
      intro i F hi hF
      obtain ⟨f, rfl⟩ : ∃ f, F = f + 1 := ⟨F - 1, by omega⟩
      simp only [rJ7_fill_53178_5, ob_s, ob_n, ar_I, ar_L, ar_V, nI_ltin (show i < L by omega) (show L < 1000 by omega), if_true, h2 _ i x (show i < L by omega), nI_1]
      rw [gm_cpy_s (fun _ => x) (w sl) i]
      exact ih (i + 1) f (by omega) (by omega)
  have h0 := h1 (w sl)
  rw [gm_up_id] at h0
  obtain ⟨f, rfl⟩ : ∃ f, g = f + 50 := ⟨g - 50, by omega⟩
  unfold aJ7_fill_53178
  rw [eJ7_fill_53178]
  rw [h0, ob_s]
  have := loop L 0 (f + 49) (by omega) (by omega)
  rw [gm_cpy_0, gm_up_id, show nI 0 = 0 from rfl] at this
  exact this
theorem hx_fill9 (hg : 4000 ≤ g) (z : Nat → Int32) (w : Nat → Nat → Int32) (b : Int64) (x : Int32) : aJ7_fill_53178 g [.ref 9, .int x] (hx z w b) = some (none, hx z (va_up w 4 (gm_cpy (fun _ => x) (w 4) 20)) b) := sJ7_fill hg z w b 9 4 20 x (by omega) (fun t => hx_ai9 z (va_up w 4 t) b) (fun t i x hi => by
  rw [hx_si9 z (va_up w 4 t) b i x hi, bx_uu]
  rfl)
theorem sX7_leftAtWorst (hg : 4000 ≤ g) (z : Nat → Int32) (w : Nat → Nat → Int32) (b : Int64) (hr : hx_rg w) (a j : Nat) (ha : a < 7) (hj : j < 7) (v : Int32) : ∃ t, aX7_leftAtWorst g [.ref 5, .ref 3, .int (nI a), .int (nI j), .int v] (hx z w b) = some (some (.int (nI (gm_lw (gm_bit v) (fun s => gm_ix (gm_lk (w 17) (w 18) (upd (w 19) a (nI s)) a j))))), hx z (va_up w 4 t) b) := by
  have loop : ∀ (k i F : Nat) (t : Nat → Int32) (x : (Nat → Nat) × Nat), i + k = 10 → k + 1 ≤ F → (∀ q, q < 20 → t q = nI (x.1 q)) → gm_lwP i x → ∃ t2, ah_run (kX7_leftAtWorst g) F 14 [(0, .ref 5), (1, .ref 3), (2, .int (nI a)), (3, .int (nI j)), (4, .int v), (5, .int (nI x.2)), (6, .int (nI i))] [] (hx z (va_up w 4 t) b) = some (some (.int (nI (gm_lp (gm_lws (gm_bit v) (fun s => gm_ix (gm_lk (w 17) (w 18) (upd (w 19) a (nI s)) a j))) k i x).2)), hx z (va_up w 4 t2) b) := by
    intro k
    induction k with
    | zero =>
      intro i F t x hi hF ht hP
      obtain ⟨f, rfl⟩ : ∃ f, F = f + 1 := ⟨F - 1, by omega⟩
      have e : i = 10 := by omega
      subst e
      refine ⟨t, ?_⟩
      simp only [rX7_leftAtWorst_14, nI_lt10 (show 10 < 1000 by omega), Nat.lt_irrefl, if_false]
      rfl
    | succ k ih =>
      intro i F t x hi hF ht hP
      obtain ⟨f, rfl⟩ : ∃ f, F = f + 1 := ⟨F - 1, by omega⟩
      have hl := sX0_likenessAt z (va_up w 4 t) b hg (show hx_rg (va_up w 4 t) from hr) a j ha hj (nI i) (by rw [nI_toInt (by omega)]; omega)
      simp only [va_l, Nat.reduceEqDiff, reduceIte] at hl
      have hra := gm_lk_all (kd := w 17) (hd := w 18) (gm_rg_upd hr a (show i < 10 by omega)) ha hj
      obtain ⟨⟨x1, -⟩, x3⟩ := gm_ixs hra
      generalize hq : gm_ix (gm_lk (w 17) (w 18) (upd (w 19) a (nI i)) a j) = q at x1 x3
      have hP1 := hP.1 q
      have hP2 := hP.2
      have m1 : ∀ f : Nat → Int32, ah_rd f 20 (nI q) = some (f q) := fun f => ah_rdN x3 (by decide)
      have n1 : (nI q < 0) = False := by
        rw [show (0 : Int32) = nI 0 from rfl, nI_lti (by omega) (by omega)]
        exact eq_false (by omega)
      have n2 : (nI q < 20) = True := by
        rw [nI_lt20 (by omega)]
        exact eq_true x3
      rw [gm_lp_s]
      simp only [rX7_leftAtWorst_14, ob_s, ob_n, ar_I, ar_L, ar_V, hx_v0, hx_fr0_0, hx_fr0_1, hx_fr0_2, hx_fr0_3, hx_fr0_4, hx_fi0_5, hx_sv0_5, hx_v1, hx_fr1_0, hx_fi1_1, hx_sv1_1, hx_v3, hx_fr3_0, hx_fr3_1, hx_fi3_2, hx_sv3_2, hx_fi3_3, hx_sv3_3, hx_fi3_4, hx_sv3_4, hx_fi3_5, hx_sv3_5, hx_fi3_6, hx_sv3_6, hx_fr3_7, hx_v5, hx_fi5_0, hx_sv5_0, hx_fr5_1, hx_fr5_2, hx_fr5_3, hx_fr5_4, hx_v11, hx_fi11_0, hx_sv11_0, hx_fr11_1, hx_fr11_2, hx_fr11_3, hx_fr11_4, hx_fi11_5, hx_sv11_5, hx_fi11_6, hx_sv11_6, hx_fi11_7, hx_sv11_7, hx_fi11_8, hx_sv11_8, hx_v15, hx_fi15_0, hx_sv15_0, hx_fr15_1, hx_fr15_2, hx_fr15_3, hx_fr15_4, hx_v20, hx_fi20_0, hx_sv20_0, hx_fi20_1, hx_sv20_1, hx_fi20_2, hx_sv20_2, hx_fi20_3, hx_sv20_3, hx_fr20_4, hx_fr20_5, hx_fr20_6, hx_fr20_7, hx_fi20_8, hx_sv20_8, hx_fi20_9, hx_sv20_9, hx_fi20_10, hx_sv20_10, hx_fi20_11, hx_sv20_11, hx_v25, hx_fi25_0, hx_sv25_0, hx_fi25_1, hx_sv25_1, hx_fl, hx_sl, hx_fr25_3, hx_li2, hx_ai2, hx_si2, hx_li6, hx_ai6, hx_si6, hx_li7, hx_ai7, hx_si7, hx_li8, hx_ai8, hx_si8, hx_li9, hx_ai9, hx_si9, hx_li10, hx_ai10, hx_si10, hx_li12, hx_ai12, hx_si12, hx_li13, hx_ai13, hx_si13, hx_li14, hx_ai14, hx_si14, hx_li16, hx_ai16, hx_si16, hx_li17, hx_ai17, hx_si17, hx_li18, hx_ai18, hx_si18, hx_li19, hx_ai19, hx_si19, hx_li21, hx_ai21, hx_si21, hx_li22, hx_ai22, hx_si22, hx_li24, hx_ai24, hx_si24, hx_li26, hx_ai26, hx_si26, hx_li27, hx_ai27, hx_si27, hx_li28, hx_ai28, hx_si28, hx_li29, hx_ai29, hx_si29, hx_li30, hx_ai30, hx_si30, hx_li31, hx_ai31, hx_si31, hx_li32, hx_ai32, hx_si32, hx_li33, hx_ai33, hx_si33, hx_lr4, hx_lr23, hx_sf0, hx_sf1, hx_ss1, hx_sf2, hx_ss2, hx_sf3, hx_ss3, hx_lkli, hx_lksi, nI_lt10 (show i < 1000 by omega), show i < 10 by omega, if_true, hl, x1, n1, n2, if_false, va_l, Nat.reduceEqDiff, reduceIte, m1, x3, bx_uu, upd_self, ht q x3, nI_1]
      by_cases c1 : ((v >>> (nI i &&& 31)) &&& 1) = 1
      · have hb : gm_bit v i = true := decide_eq_true c1
        have hst : gm_lws (gm_bit v) (fun s => gm_ix (gm_lk (w 17) (w 18) (upd (w 19) a (nI s)) a j)) x i = (fun a => if a = q then x.1 a + 1 else x.1 a, if x.2 < x.1 q + 1 then x.1 q + 1 else x.2) := by
          unfold gm_lws
          rw [if_pos hb]
          simp only [hq]
        have hP3 := gm_lws_P (bit := gm_bit v) (ix := fun s => gm_ix (gm_lk (w 17) (w 18) (upd (w 19) a (nI s)) a j)) hP
        rw [hst] at hP3 ⊢
        rw [if_pos c1]
        simp only [nI_lti (show x.2 < 1000 by omega) (show x.1 q + 1 < 1000 by omega)]
        obtain ⟨t2, h2⟩ := ih (i + 1) f (upd t q (nI (x.1 q + 1))) (fun a => if a = q then x.1 a + 1 else x.1 a, if x.2 < x.1 q + 1 then x.1 q + 1 else x.2) (by omega) (by omega) (fun p hp => by
          by_cases e : p = q
          · rw [e, upd_self]
            dsimp only
            rw [if_pos rfl]
          · rw [upd_ne _ _ e]
            dsimp only
            rw [if_neg e]
            exact ht p hp) hP3
        refine ⟨t2, Eq.trans (congrArg (fun r => ah_run (kX7_leftAtWorst g) f 14 [(0, .ref 5), (1, .ref 3), (2, .int (nI a)), (3, .int (nI j)), (4, .int v), (5, .int r), (6, .int (nI (i + 1)))] [] (hx z (va_up w 4 (upd t q (nI (x.1 q + 1)))) b)) ?_) h2⟩
        dsimp only
        split <;> rfl
      · have hb : ¬ gm_bit v i = true := by
          unfold gm_bit
          rw [decide_eq_false c1]
          decide
        rw [if_neg c1]
        have hst : gm_lws (gm_bit v) (fun s => gm_ix (gm_lk (w 17) (w 18) (upd (w 19) a (nI s)) a j)) x i = x := if_neg hb
        rw [hst]
        exact ih (i + 1) f t x (by omega) (by omega) ht ⟨hP.1, by omega⟩
  obtain ⟨t2, h2⟩ := loop 10 0 (g - 1) (gm_cpy (fun _ => 0) (w 4) 20) (fun _ => 0, 0) (by omega) (by omega) (fun q hq => gm_cpy_lt hq) ⟨fun _ => Nat.le_refl _, Nat.le_refl _⟩
  refine ⟨t2, ?_⟩
  obtain ⟨f, rfl⟩ : ∃ f, g = f + 20 := ⟨g - 20, by omega⟩
  unfold aX7_leftAtWorst
  rw [eX7_leftAtWorst]
  rw [show f + 20 - 1 = f + 19 by omega, show nI 0 = 0 from rfl] at h2
  simp only [ob_s, ob_n, ar_I, ar_L, ar_V, hx_v0, hx_fr0_0, hx_fr0_1, hx_fr0_2, hx_fr0_3, hx_fr0_4, hx_fi0_5, hx_sv0_5, hx_v1, hx_fr1_0, hx_fi1_1, hx_sv1_1, hx_v3, hx_fr3_0, hx_fr3_1, hx_fi3_2, hx_sv3_2, hx_fi3_3, hx_sv3_3, hx_fi3_4, hx_sv3_4, hx_fi3_5, hx_sv3_5, hx_fi3_6, hx_sv3_6, hx_fr3_7, hx_v5, hx_fi5_0, hx_sv5_0, hx_fr5_1, hx_fr5_2, hx_fr5_3, hx_fr5_4, hx_v11, hx_fi11_0, hx_sv11_0, hx_fr11_1, hx_fr11_2, hx_fr11_3, hx_fr11_4, hx_fi11_5, hx_sv11_5, hx_fi11_6, hx_sv11_6, hx_fi11_7, hx_sv11_7, hx_fi11_8, hx_sv11_8, hx_v15, hx_fi15_0, hx_sv15_0, hx_fr15_1, hx_fr15_2, hx_fr15_3, hx_fr15_4, hx_v20, hx_fi20_0, hx_sv20_0, hx_fi20_1, hx_sv20_1, hx_fi20_2, hx_sv20_2, hx_fi20_3, hx_sv20_3, hx_fr20_4, hx_fr20_5, hx_fr20_6, hx_fr20_7, hx_fi20_8, hx_sv20_8, hx_fi20_9, hx_sv20_9, hx_fi20_10, hx_sv20_10, hx_fi20_11, hx_sv20_11, hx_v25, hx_fi25_0, hx_sv25_0, hx_fi25_1, hx_sv25_1, hx_fl, hx_sl, hx_fr25_3, hx_li2, hx_ai2, hx_si2, hx_li6, hx_ai6, hx_si6, hx_li7, hx_ai7, hx_si7, hx_li8, hx_ai8, hx_si8, hx_li9, hx_ai9, hx_si9, hx_li10, hx_ai10, hx_si10, hx_li12, hx_ai12, hx_si12, hx_li13, hx_ai13, hx_si13, hx_li14, hx_ai14, hx_si14, hx_li16, hx_ai16, hx_si16, hx_li17, hx_ai17, hx_si17, hx_li18, hx_ai18, hx_si18, hx_li19, hx_ai19, hx_si19, hx_li21, hx_ai21, hx_si21, hx_li22, hx_ai22, hx_si22, hx_li24, hx_ai24, hx_si24, hx_li26, hx_ai26, hx_si26, hx_li27, hx_ai27, hx_si27, hx_li28, hx_ai28, hx_si28, hx_li29, hx_ai29, hx_si29, hx_li30, hx_ai30, hx_si30, hx_li31, hx_ai31, hx_si31, hx_li32, hx_ai32, hx_si32, hx_li33, hx_ai33, hx_si33, hx_lr4, hx_lr23, hx_sf0, hx_sf1, hx_ss1, hx_sf2, hx_ss2, hx_sf3, hx_ss3, hx_lkli, hx_lksi, hx_fill9 hg]
  exact h2
theorem sX7_lookOf (hg : 4000 ≤ g) (z : Nat → Int32) (w : Nat → Nat → Int32) (b : Int64) (hr : hx_rg w) {n : Nat} (hn : n ≤ 7) (hz : z 2 = nI n) (a : Nat) (ha : a < 7) (v : Int32) : ∃ t, aX7_lookOf g [.ref 5, .ref 3, .int (nI a), .int v] (hx z w b) = some (some (.int (if v = 0 then -1 else (gm_lp (gm_los a (fun j => gm_lw (gm_bit v) (fun s => gm_ix (gm_lk (w 17) (w 18) (upd (w 19) a (nI s)) a j)))) n 0 (-1, 11)).1)), hx z (va_up w 4 t) b) := by
  have loop : ∀ (k i F : Nat) (t : Nat → Int32) (x : Int32 × Nat), i + k = n → k + 1 ≤ F → x.2 ≤ 11 → ∃ t2, ah_run (kX7_lookOf g) F 16 [(0, .ref 5), (1, .ref 3), (2, .int (nI a)), (3, .int v), (4, .int x.1), (5, .int (nI x.2)), (6, .int (nI i))] [] (hx z (va_up w 4 t) b) = some (some (.int (gm_lp (gm_los a (fun j => gm_lw (gm_bit v) (fun s => gm_ix (gm_lk (w 17) (w 18) (upd (w 19) a (nI s)) a j)))) k i x).1), hx z (va_up w 4 t2) b) := by
    intro k
    induction k with
    | zero =>
      intro i F t x hi hF hP
      obtain ⟨f, rfl⟩ : ∃ f, F = f + 1 := ⟨F - 1, by omega⟩
      have e : i = n := by omega
      subst e
      refine ⟨t, ?_⟩
      simp only [rX7_lookOf_16, ob_s, ob_n, ar_I, ar_L, ar_V, hx_v0, hx_fr0_0, hx_fr0_1, hx_fr0_2, hx_fr0_3, hx_fr0_4, hx_fi0_5, hx_sv0_5, hx_v1, hx_fr1_0, hx_fi1_1, hx_sv1_1, hx_v3, hx_fr3_0, hx_fr3_1, hx_fi3_2, hx_sv3_2, hx_fi3_3, hx_sv3_3, hx_fi3_4, hx_sv3_4, hx_fi3_5, hx_sv3_5, hx_fi3_6, hx_sv3_6, hx_fr3_7, hx_v5, hx_fi5_0, hx_sv5_0, hx_fr5_1, hx_fr5_2, hx_fr5_3, hx_fr5_4, hx_v11, hx_fi11_0, hx_sv11_0, hx_fr11_1, hx_fr11_2, hx_fr11_3, hx_fr11_4, hx_fi11_5, hx_sv11_5, hx_fi11_6, hx_sv11_6, hx_fi11_7, hx_sv11_7, hx_fi11_8, hx_sv11_8, hx_v15, hx_fi15_0, hx_sv15_0, hx_fr15_1, hx_fr15_2, hx_fr15_3, hx_fr15_4, hx_v20, hx_fi20_0, hx_sv20_0, hx_fi20_1, hx_sv20_1, hx_fi20_2, hx_sv20_2, hx_fi20_3, hx_sv20_3, hx_fr20_4, hx_fr20_5, hx_fr20_6, hx_fr20_7, hx_fi20_8, hx_sv20_8, hx_fi20_9, hx_sv20_9, hx_fi20_10, hx_sv20_10, hx_fi20_11, hx_sv20_11, hx_v25, hx_fi25_0, hx_sv25_0, hx_fi25_1, hx_sv25_1, hx_fl, hx_sl, hx_fr25_3, hx_li2, hx_ai2, hx_si2, hx_li6, hx_ai6, hx_si6, hx_li7, hx_ai7, hx_si7, hx_li8, hx_ai8, hx_si8, hx_li9, hx_ai9, hx_si9, hx_li10, hx_ai10, hx_si10, hx_li12, hx_ai12, hx_si12, hx_li13, hx_ai13, hx_si13, hx_li14, hx_ai14, hx_si14, hx_li16, hx_ai16, hx_si16, hx_li17, hx_ai17, hx_si17, hx_li18, hx_ai18, hx_si18, hx_li19, hx_ai19, hx_si19, hx_li21, hx_ai21, hx_si21, hx_li22, hx_ai22, hx_si22, hx_li24, hx_ai24, hx_si24, hx_li26, hx_ai26, hx_si26, hx_li27, hx_ai27, hx_si27, hx_li28, hx_ai28, hx_si28, hx_li29, hx_ai29, hx_si29, hx_li30, hx_ai30, hx_si30, hx_li31, hx_ai31, hx_si31, hx_li32, hx_ai32, hx_si32, hx_li33, hx_ai33, hx_si33, hx_lr4, hx_lr23, hx_sf0, hx_sf1, hx_ss1, hx_sf2, hx_ss2, hx_sf3, hx_ss3, hx_lkli, hx_lksi, hz, nI_ltnn (show i < 1000 by omega), if_false]
      rfl
    | succ k ih =>
      intro i F t x hi hF hP
      obtain ⟨f, rfl⟩ : ∃ f, F = f + 1 := ⟨F - 1, by omega⟩
      obtain ⟨t3, h3⟩ := sX7_leftAtWorst hg z (va_up w 4 t) b (show hx_rg (va_up w 4 t) from hr) a i ha (by omega) v
      simp only [va_l, Nat.reduceEqDiff, reduceIte, bx_uu] at h3
      have hw := gm_lw_le (gm_bit v) (fun s => gm_ix (gm_lk (w 17) (w 18) (upd (w 19) a (nI s)) a i))
      have n11 : (11 < nI x.2) = False := by
        rw [show (11 : Int32) = nI 11 from rfl, nI_lti (by omega) (by omega)]
        exact eq_false (by omega)
      rw [gm_lp_s]
      by_cases c1 : i = a
      · have hst : ∀ lw, gm_los a lw x i = x := fun lw => if_pos c1
        rw [hst]
        simp only [rX7_lookOf_16, ob_s, ob_n, ar_I, ar_L, ar_V, hx_v0, hx_fr0_0, hx_fr0_1, hx_fr0_2, hx_fr0_3, hx_fr0_4, hx_fi0_5, hx_sv0_5, hx_v1, hx_fr1_0, hx_fi1_1, hx_sv1_1, hx_v3, hx_fr3_0, hx_fr3_1, hx_fi3_2, hx_sv3_2, hx_fi3_3, hx_sv3_3, hx_fi3_4, hx_sv3_4, hx_fi3_5, hx_sv3_5, hx_fi3_6, hx_sv3_6, hx_fr3_7, hx_v5, hx_fi5_0, hx_sv5_0, hx_fr5_1, hx_fr5_2, hx_fr5_3, hx_fr5_4, hx_v11, hx_fi11_0, hx_sv11_0, hx_fr11_1, hx_fr11_2, hx_fr11_3, hx_fr11_4, hx_fi11_5, hx_sv11_5, hx_fi11_6, hx_sv11_6, hx_fi11_7, hx_sv11_7, hx_fi11_8, hx_sv11_8, hx_v15, hx_fi15_0, hx_sv15_0, hx_fr15_1, hx_fr15_2, hx_fr15_3, hx_fr15_4, hx_v20, hx_fi20_0, hx_sv20_0, hx_fi20_1, hx_sv20_1, hx_fi20_2, hx_sv20_2, hx_fi20_3, hx_sv20_3, hx_fr20_4, hx_fr20_5, hx_fr20_6, hx_fr20_7, hx_fi20_8, hx_sv20_8, hx_fi20_9, hx_sv20_9, hx_fi20_10, hx_sv20_10, hx_fi20_11, hx_sv20_11, hx_v25, hx_fi25_0, hx_sv25_0, hx_fi25_1, hx_sv25_1, hx_fl, hx_sl, hx_fr25_3, hx_li2, hx_ai2, hx_si2, hx_li6, hx_ai6, hx_si6, hx_li7, hx_ai7, hx_si7, hx_li8, hx_ai8, hx_si8, hx_li9, hx_ai9, hx_si9, hx_li10, hx_ai10, hx_si10, hx_li12, hx_ai12, hx_si12, hx_li13, hx_ai13, hx_si13, hx_li14, hx_ai14, hx_si14, hx_li16, hx_ai16, hx_si16, hx_li17, hx_ai17, hx_si17, hx_li18, hx_ai18, hx_si18, hx_li19, hx_ai19, hx_si19, hx_li21, hx_ai21, hx_si21, hx_li22, hx_ai22, hx_si22, hx_li24, hx_ai24, hx_si24, hx_li26, hx_ai26, hx_si26, hx_li27, hx_ai27, hx_si27, hx_li28, hx_ai28, hx_si28, hx_li29, hx_ai29, hx_si29, hx_li30, hx_ai30, hx_si30, hx_li31, hx_ai31, hx_si31, hx_li32, hx_ai32, hx_si32, hx_li33, hx_ai33, hx_si33, hx_lr4, hx_lr23, hx_sf0, hx_sf1, hx_ss1, hx_sf2, hx_ss2, hx_sf3, hx_ss3, hx_lkli, hx_lksi, hz, nI_ltin (show i < n by omega) (show n < 1000 by omega), if_true, nI_eqi (show i < 1000 by omega) (show a < 1000 by omega), eq_true c1, n11, if_false, nI_1]
        exact ih (i + 1) f t x (by omega) (by omega) hP
      · have hst : ∀ lw : Nat → Nat, gm_los a lw x i = if lw i < x.2 then (nI i, lw i) else x := fun lw => if_neg c1
        rw [hst]
        simp only [rX7_lookOf_16, ob_s, ob_n, ar_I, ar_L, ar_V, hx_v0, hx_fr0_0, hx_fr0_1, hx_fr0_2, hx_fr0_3, hx_fr0_4, hx_fi0_5, hx_sv0_5, hx_v1, hx_fr1_0, hx_fi1_1, hx_sv1_1, hx_v3, hx_fr3_0, hx_fr3_1, hx_fi3_2, hx_sv3_2, hx_fi3_3, hx_sv3_3, hx_fi3_4, hx_sv3_4, hx_fi3_5, hx_sv3_5, hx_fi3_6, hx_sv3_6, hx_fr3_7, hx_v5, hx_fi5_0, hx_sv5_0, hx_fr5_1, hx_fr5_2, hx_fr5_3, hx_fr5_4, hx_v11, hx_fi11_0, hx_sv11_0, hx_fr11_1, hx_fr11_2, hx_fr11_3, hx_fr11_4, hx_fi11_5, hx_sv11_5, hx_fi11_6, hx_sv11_6, hx_fi11_7, hx_sv11_7, hx_fi11_8, hx_sv11_8, hx_v15, hx_fi15_0, hx_sv15_0, hx_fr15_1, hx_fr15_2, hx_fr15_3, hx_fr15_4, hx_v20, hx_fi20_0, hx_sv20_0, hx_fi20_1, hx_sv20_1, hx_fi20_2, hx_sv20_2, hx_fi20_3, hx_sv20_3, hx_fr20_4, hx_fr20_5, hx_fr20_6, hx_fr20_7, hx_fi20_8, hx_sv20_8, hx_fi20_9, hx_sv20_9, hx_fi20_10, hx_sv20_10, hx_fi20_11, hx_sv20_11, hx_v25, hx_fi25_0, hx_sv25_0, hx_fi25_1, hx_sv25_1, hx_fl, hx_sl, hx_fr25_3, hx_li2, hx_ai2, hx_si2, hx_li6, hx_ai6, hx_si6, hx_li7, hx_ai7, hx_si7, hx_li8, hx_ai8, hx_si8, hx_li9, hx_ai9, hx_si9, hx_li10, hx_ai10, hx_si10, hx_li12, hx_ai12, hx_si12, hx_li13, hx_ai13, hx_si13, hx_li14, hx_ai14, hx_si14, hx_li16, hx_ai16, hx_si16, hx_li17, hx_ai17, hx_si17, hx_li18, hx_ai18, hx_si18, hx_li19, hx_ai19, hx_si19, hx_li21, hx_ai21, hx_si21, hx_li22, hx_ai22, hx_si22, hx_li24, hx_ai24, hx_si24, hx_li26, hx_ai26, hx_si26, hx_li27, hx_ai27, hx_si27, hx_li28, hx_ai28, hx_si28, hx_li29, hx_ai29, hx_si29, hx_li30, hx_ai30, hx_si30, hx_li31, hx_ai31, hx_si31, hx_li32, hx_ai32, hx_si32, hx_li33, hx_ai33, hx_si33, hx_lr4, hx_lr23, hx_sf0, hx_sf1, hx_ss1, hx_sf2, hx_ss2, hx_sf3, hx_ss3, hx_lkli, hx_lksi, hz, nI_ltin (show i < n by omega) (show n < 1000 by omega), if_true, nI_eqi (show i < 1000 by omega) (show a < 1000 by omega), c1, if_false, h3, nI_lti (show gm_lw (gm_bit v) (fun s => gm_ix (gm_lk (w 17) (w 18) (upd (w 19) a (nI s)) a i)) < 1000 by omega) (show x.2 < 1000 by omega), nI_1]
        by_cases c2 : gm_lw (gm_bit v) (fun s => gm_ix (gm_lk (w 17) (w 18) (upd (w 19) a (nI s)) a i)) < x.2
        · rw [if_pos c2, if_pos c2]
          exact ih (i + 1) f t3 (nI i, gm_lw (gm_bit v) (fun s => gm_ix (gm_lk (w 17) (w 18) (upd (w 19) a (nI s)) a i))) (by omega) (by omega) (by dsimp only; omega)
        · rw [if_neg c2, if_neg c2]
          exact ih (i + 1) f t3 x (by omega) (by omega) hP
  by_cases c0 : v = 0
  · refine ⟨w 4, ?_⟩
    rw [gm_up_id, if_pos c0]
    obtain ⟨f, rfl⟩ : ∃ f, g = f + 20 := ⟨g - 20, by omega⟩
    unfold aX7_lookOf
    rw [eX7_lookOf]
    rw [if_pos c0]
  · obtain ⟨t2, h2⟩ := loop n 0 (g - 1) (w 4) (-1, 11) (by omega) (by omega) (by omega)
    refine ⟨t2, ?_⟩
    rw [gm_up_id] at h2
    rw [if_neg c0]
    obtain ⟨f, rfl⟩ : ∃ f, g = f + 20 := ⟨g - 20, by omega⟩
    unfold aX7_lookOf
    rw [eX7_lookOf]
    rw [if_neg c0]
    rw [show f + 20 - 1 = f + 19 by omega, show nI 0 = 0 from rfl, show nI 11 = 11 from rfl] at h2
    exact h2
end SG1
