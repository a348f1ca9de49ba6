/-! pair: may -/
theorem va_2 {α : Type} (f : Nat → α) {a b : Nat} (A B A2 B2 : α) (h1 : ¬ a = b) : va_up (va_up (va_up (va_up f a A) b B) a A2) b B2 = va_up (va_up f a A2) b B2 := by
  rw [va_c _ _ _ h1, bx_uu, bx_uu]
def gm_fst (p : Nat → Bool) : Nat → Nat → Option Nat
  | 0, _ => none
  | k + 1, i => if p i = true then some i else gm_fst p k (i + 1)
theorem gm_fst_0 (p : Nat → Bool) (i : Nat) : gm_fst p 0 i = none := Eq.trans rfl rfl
theorem gm_fst_s (p : Nat → Bool) (k i : Nat) : gm_fst p (k + 1) i = if p i = true then some i else gm_fst p k (i + 1) := Eq.trans rfl rfl
theorem gm_fst_c {p q : Nat → Bool} : ∀ k i : Nat, (∀ j, i ≤ j → j < i + k → p j = q j) → gm_fst p k i = gm_fst q k i
  | 0, _, _ => rfl
  | k + 1, i, h => by
    rw [gm_fst_s, gm_fst_s, h i (by omega) (by omega), gm_fst_c k (i + 1) (fun j h1 h2 => h j (by omega) (by omega))]
theorem gm_fst_i {p : Nat → Bool} : ∀ {k i o : Nat}, gm_fst p k i = some o → i ≤ o ∧ o < i + k ∧ p o = true
  | 0, _, _, h => by cases h
  | k + 1, i, o, h => by
    rw [gm_fst_s] at h
    by_cases c : p i = true
    · rw [if_pos c] at h
      cases h
      exact ⟨by omega, by omega, c⟩
    · rw [if_neg c] at h
      have := gm_fst_i h
      exact ⟨by omega, by omega, this.2.2⟩
def gm_o2i : Option Nat → Int32
  | none => -1
  | some o => nI o
def gm_pu (m : Nat → Int32) (a : Nat) : Option Nat → Nat → Int32
  | none => m
  | some o => upd (upd m a (nI o)) o (nI a)
def gm_mst (dead : Nat → Bool) (sel : (Nat → Int32) → Nat → Nat → Bool) (n : Nat) (m : Nat → Int32) (a : Nat) : Nat → Int32 := if (dead a || !decide (m a = -1)) = true then m else gm_pu m a (gm_fst (sel m a) n 0)
def gm_selX (mb : Nat → Nat → Bool) (bf m : Nat → Int32) (a o : Nat) : Bool := !decide (bf o = -1) && (!decide (bf o = nI a) && (decide (m o = -1) && mb a o))
def gm_selM (mb : Nat → Nat → Bool) (bf m : Nat → Int32) (a o : Nat) : Bool := !decide (bf o = -1) && (decide (m o = -1) && (!decide (bf a = nI o) && mb a o))
section MAY
variable {g : Nat}
theorem sX0_newMateOf (hg : 4000 ≤ g) (z : Nat → Int32) (w : Nat → Nat → Int32) (b : Int64) (hr : hx_rg w) {n : Nat} (hn : n ≤ 7) (hz : z 2 = nI n) (hmo : hx_mo w n) (a : Nat) (ha : a < n) : aX0_newMateOf g [.ref 3, .int (nI a)] (hx z w b) = some (some (.int (if w 5 a = -1 then -1 else gm_o2i (gm_fst (gm_selX (xw_mb w) (w 5) (w 21) a) n 0))), hx z w b) := by
  have loop : ∀ (k i F : Nat), i + k = n → k + 1 ≤ F → ah_run (kX0_newMateOf g) F 14 [(0, .ref 3), (1, .int (nI a)), (2, .int (nI i))] [] (hx z w b) = some (some (.int (gm_o2i (gm_fst (gm_selX (xw_mb w) (w 5) (w 21) a) k i))), hx z w b) := by
    intro k
    induction k with
    | zero =>
      intro i F hi hF
      obtain ⟨f, rfl⟩ : ∃ f, F = f + 1 := ⟨F - 1, by omega⟩
      have e : i = n := by omega
      subst e
      simp only [rX0_newMateOf_14, ob_s, ob_n, ar_I, ar_L, ar_V, hx_v0, hx_fr0_0, hx_fr0_1, hx_fr0_2, hx_fr0_3, hx_fr0_4, hx_fi0_5, hx_sv0_5, hx_v1, hx_fr1_0, hx_fi1_1, hx_sv1_1, hx_v3, hx_fr3_0, hx_fr3_1, hx_fi3_2, hx_sv3_2, hx_fi3_3, hx_sv3_3, hx_fi3_4, hx_sv3_4, hx_fi3_5, hx_sv3_5, hx_fi3_6, hx_sv3_6, hx_fr3_7, hx_v5, hx_fi5_0, hx_sv5_0, hx_fr5_1, hx_fr5_2, hx_fr5_3, hx_fr5_4, hx_v11, hx_fi11_0, hx_sv11_0, hx_fr11_1, hx_fr11_2, hx_fr11_3, hx_fr11_4, hx_fi11_5, hx_sv11_5, hx_fi11_6, hx_sv11_6, hx_fi11_7, hx_sv11_7, hx_fi11_8, hx_sv11_8, hx_v15, hx_fi15_0, hx_sv15_0, hx_fr15_1, hx_fr15_2, hx_fr15_3, hx_fr15_4, hx_v20, hx_fi20_0, hx_sv20_0, hx_fi20_1, hx_sv20_1, hx_fi20_2, hx_sv20_2, hx_fi20_3, hx_sv20_3, hx_fr20_4, hx_fr20_5, hx_fr20_6, hx_fr20_7, hx_fi20_8, hx_sv20_8, hx_fi20_9, hx_sv20_9, hx_fi20_10, hx_sv20_10, hx_fi20_11, hx_sv20_11, hx_v25, hx_fi25_0, hx_sv25_0, hx_fi25_1, hx_sv25_1, hx_fl, hx_sl, hx_fr25_3, hx_li2, hx_ai2, hx_si2, hx_li6, hx_ai6, hx_si6, hx_li7, hx_ai7, hx_si7, hx_li8, hx_ai8, hx_si8, hx_li9, hx_ai9, hx_si9, hx_li10, hx_ai10, hx_si10, hx_li12, hx_ai12, hx_si12, hx_li13, hx_ai13, hx_si13, hx_li14, hx_ai14, hx_si14, hx_li16, hx_ai16, hx_si16, hx_li17, hx_ai17, hx_si17, hx_li18, hx_ai18, hx_si18, hx_li19, hx_ai19, hx_si19, hx_li21, hx_ai21, hx_si21, hx_li22, hx_ai22, hx_si22, hx_li24, hx_ai24, hx_si24, hx_li26, hx_ai26, hx_si26, hx_li27, hx_ai27, hx_si27, hx_li28, hx_ai28, hx_si28, hx_li29, hx_ai29, hx_si29, hx_li30, hx_ai30, hx_si30, hx_li31, hx_ai31, hx_si31, hx_li32, hx_ai32, hx_si32, hx_li33, hx_ai33, hx_si33, hx_lr4, hx_lr23, hx_sf0, hx_sf1, hx_ss1, hx_sf2, hx_ss2, hx_sf3, hx_ss3, hx_lkli, hx_lksi, hz, nI_ltnn (show i < 1000 by omega), if_false, gm_fst_0]
      rfl
    | succ k ih =>
      intro i F hi hF
      obtain ⟨f, rfl⟩ : ∃ f, F = f + 1 := ⟨F - 1, by omega⟩
      have i7 : i < 7 := by omega
      have m1 : ∀ f : Nat → Int32, ah_rd f 7 (nI i) = some (f i) := fun f => ah_rdN i7 (by decide)
      have hin : i < n := by omega
      simp only [rX0_newMateOf_14, ob_s, ob_n, ar_I, ar_L, ar_V, hx_v0, hx_fr0_0, hx_fr0_1, hx_fr0_2, hx_fr0_3, hx_fr0_4, hx_fi0_5, hx_sv0_5, hx_v1, hx_fr1_0, hx_fi1_1, hx_sv1_1, hx_v3, hx_fr3_0, hx_fr3_1, hx_fi3_2, hx_sv3_2, hx_fi3_3, hx_sv3_3, hx_fi3_4, hx_sv3_4, hx_fi3_5, hx_sv3_5, hx_fi3_6, hx_sv3_6, hx_fr3_7, hx_v5, hx_fi5_0, hx_sv5_0, hx_fr5_1, hx_fr5_2, hx_fr5_3, hx_fr5_4, hx_v11, hx_fi11_0, hx_sv11_0, hx_fr11_1, hx_fr11_2, hx_fr11_3, hx_fr11_4, hx_fi11_5, hx_sv11_5, hx_fi11_6, hx_sv11_6, hx_fi11_7, hx_sv11_7, hx_fi11_8, hx_sv11_8, hx_v15, hx_fi15_0, hx_sv15_0, hx_fr15_1, hx_fr15_2, hx_fr15_3, hx_fr15_4, hx_v20, hx_fi20_0, hx_sv20_0, hx_fi20_1, hx_sv20_1, hx_fi20_2, hx_sv20_2, hx_fi20_3, hx_sv20_3, hx_fr20_4, hx_fr20_5, hx_fr20_6, hx_fr20_7, hx_fi20_8, hx_sv20_8, hx_fi20_9, hx_sv20_9, hx_fi20_10, hx_sv20_10, hx_fi20_11, hx_sv20_11, hx_v25, hx_fi25_0, hx_sv25_0, hx_fi25_1, hx_sv25_1, hx_fl, hx_sl, hx_fr25_3, hx_li2, hx_ai2, hx_si2, hx_li6, hx_ai6, hx_si6, hx_li7, hx_ai7, hx_si7, hx_li8, hx_ai8, hx_si8, hx_li9, hx_ai9, hx_si9, hx_li10, hx_ai10, hx_si10, hx_li12, hx_ai12, hx_si12, hx_li13, hx_ai13, hx_si13, hx_li14, hx_ai14, hx_si14, hx_li16, hx_ai16, hx_si16, hx_li17, hx_ai17, hx_si17, hx_li18, hx_ai18, hx_si18, hx_li19, hx_ai19, hx_si19, hx_li21, hx_ai21, hx_si21, hx_li22, hx_ai22, hx_si22, hx_li24, hx_ai24, hx_si24, hx_li26, hx_ai26, hx_si26, hx_li27, hx_ai27, hx_si27, hx_li28, hx_ai28, hx_si28, hx_li29, hx_ai29, hx_si29, hx_li30, hx_ai30, hx_si30, hx_li31, hx_ai31, hx_si31, hx_li32, hx_ai32, hx_si32, hx_li33, hx_ai33, hx_si33, hx_lr4, hx_lr23, hx_sf0, hx_sf1, hx_ss1, hx_sf2, hx_ss2, hx_sf3, hx_ss3, hx_lkli, hx_lksi, hz, nI_ltin hin (show n < 1000 by omega), if_true, m1, n32_00, n32_10, if_false, sX0_isPaired z w b hg hn hz hmo i hin, sX0_mayPair z w b hg hr a i (by omega) (by omega), bI_0, nI_1, gm_fst_s]
      rw [ih (i + 1) f (by omega) (by omega)]
      have hv : gm_selX (xw_mb w) (w 5) (w 21) a i = (!decide (w 5 i = -1) && (!decide (w 5 i = nI a) && (decide (w 21 i = -1) && xw_mb w a i))) := rfl
      rw [hv]
      by_cases c1 : w 5 i = -1
      · rw [if_pos c1, decide_eq_true c1]
        rfl
      · rw [if_neg c1, decide_eq_false c1]
        by_cases c2 : w 5 i = nI a
        · rw [if_pos c2, decide_eq_true c2]
          rfl
        · rw [if_neg c2, decide_eq_false c2]
          by_cases c3 : w 21 i = -1
          · rw [decide_eq_true c3, if_pos (show (!true) = false from rfl)]
            cases c4 : xw_mb w a i
            · rw [if_pos rfl]
              rfl
            · rw [if_neg (by decide)]
              rfl
          · rw [decide_eq_false c3, if_neg (by decide)]
            rfl
  have m1 : ∀ f : Nat → Int32, ah_rd f 7 (nI a) = some (f a) := fun f => ah_rdN (by omega) (by decide)
  obtain ⟨f, rfl⟩ : ∃ f, g = f + 20 := ⟨g - 20, by omega⟩
  unfold aX0_newMateOf
  rw [eX0_newMateOf]
  simp only [ob_s, ob_n, ar_I, ar_L, ar_V, hx_v0, hx_fr0_0, hx_fr0_1, hx_fr0_2, hx_fr0_3, hx_fr0_4, hx_fi0_5, hx_sv0_5, hx_v1, hx_fr1_0, hx_fi1_1, hx_sv1_1, hx_v3, hx_fr3_0, hx_fr3_1, hx_fi3_2, hx_sv3_2, hx_fi3_3, hx_sv3_3, hx_fi3_4, hx_sv3_4, hx_fi3_5, hx_sv3_5, hx_fi3_6, hx_sv3_6, hx_fr3_7, hx_v5, hx_fi5_0, hx_sv5_0, hx_fr5_1, hx_fr5_2, hx_fr5_3, hx_fr5_4, hx_v11, hx_fi11_0, hx_sv11_0, hx_fr11_1, hx_fr11_2, hx_fr11_3, hx_fr11_4, hx_fi11_5, hx_sv11_5, hx_fi11_6, hx_sv11_6, hx_fi11_7, hx_sv11_7, hx_fi11_8, hx_sv11_8, hx_v15, hx_fi15_0, hx_sv15_0, hx_fr15_1, hx_fr15_2, hx_fr15_3, hx_fr15_4, hx_v20, hx_fi20_0, hx_sv20_0, hx_fi20_1, hx_sv20_1, hx_fi20_2, hx_sv20_2, hx_fi20_3, hx_sv20_3, hx_fr20_4, hx_fr20_5, hx_fr20_6, hx_fr20_7, hx_fi20_8, hx_sv20_8, hx_fi20_9, hx_sv20_9, hx_fi20_10, hx_sv20_10, hx_fi20_11, hx_sv20_11, hx_v25, hx_fi25_0, hx_sv25_0, hx_fi25_1, hx_sv25_1, hx_fl, hx_sl, hx_fr25_3, hx_li2, hx_ai2, hx_si2, hx_li6, hx_ai6, hx_si6, hx_li7, hx_ai7, hx_si7, hx_li8, hx_ai8, hx_si8, hx_li9, hx_ai9, hx_si9, hx_li10, hx_ai10, hx_si10, hx_li12, hx_ai12, hx_si12, hx_li13, hx_ai13, hx_si13, hx_li14, hx_ai14, hx_si14, hx_li16, hx_ai16, hx_si16, hx_li17, hx_ai17, hx_si17, hx_li18, hx_ai18, hx_si18, hx_li19, hx_ai19, hx_si19, hx_li21, hx_ai21, hx_si21, hx_li22, hx_ai22, hx_si22, hx_li24, hx_ai24, hx_si24, hx_li26, hx_ai26, hx_si26, hx_li27, hx_ai27, hx_si27, hx_li28, hx_ai28, hx_si28, hx_li29, hx_ai29, hx_si29, hx_li30, hx_ai30, hx_si30, hx_li31, hx_ai31, hx_si31, hx_li32, hx_ai32, hx_si32, hx_li33, hx_ai33, hx_si33, hx_lr4, hx_lr23, hx_sf0, hx_sf1, hx_ss1, hx_sf2, hx_ss2, hx_sf3, hx_ss3, hx_lkli, hx_lksi, m1]
  have := loop n 0 (f + 19) (by omega) (by omega)
  rw [show nI 0 = 0 from rfl] at this
  rw [this]
  by_cases c1 : w 5 a = -1
  · rw [if_pos c1, if_pos c1]
  · rw [if_neg c1, if_neg c1]
theorem sX0_pairUp (hg : 4000 ≤ g) (z : Nat → Int32) (w : Nat → Nat → Int32) (b : Int64) (i j : Nat) (hi : i < 7) (hj : j < 7) : aX0_pairUp g [.ref 3, .int (nI i), .int (nI j)] (hx z w b) = some (none, hx z (va_up w 21 (upd (upd (w 21) i (nI j)) j (nI i))) b) := by
  obtain ⟨f, rfl⟩ : ∃ f, g = f + 1 := ⟨g - 1, by omega⟩
  unfold aX0_pairUp
  rw [eX0_pairUp]
  simp only [ob_s, ob_n, ar_I, ar_L, ar_V, hx_v0, hx_fr0_0, hx_fr0_1, hx_fr0_2, hx_fr0_3, hx_fr0_4, hx_fi0_5, hx_sv0_5, hx_v1, hx_fr1_0, hx_fi1_1, hx_sv1_1, hx_v3, hx_fr3_0, hx_fr3_1, hx_fi3_2, hx_sv3_2, hx_fi3_3, hx_sv3_3, hx_fi3_4, hx_sv3_4, hx_fi3_5, hx_sv3_5, hx_fi3_6, hx_sv3_6, hx_fr3_7, hx_v5, hx_fi5_0, hx_sv5_0, hx_fr5_1, hx_fr5_2, hx_fr5_3, hx_fr5_4, hx_v11, hx_fi11_0, hx_sv11_0, hx_fr11_1, hx_fr11_2, hx_fr11_3, hx_fr11_4, hx_fi11_5, hx_sv11_5, hx_fi11_6, hx_sv11_6, hx_fi11_7, hx_sv11_7, hx_fi11_8, hx_sv11_8, hx_v15, hx_fi15_0, hx_sv15_0, hx_fr15_1, hx_fr15_2, hx_fr15_3, hx_fr15_4, hx_v20, hx_fi20_0, hx_sv20_0, hx_fi20_1, hx_sv20_1, hx_fi20_2, hx_sv20_2, hx_fi20_3, hx_sv20_3, hx_fr20_4, hx_fr20_5, hx_fr20_6, hx_fr20_7, hx_fi20_8, hx_sv20_8, hx_fi20_9, hx_sv20_9, hx_fi20_10, hx_sv20_10, hx_fi20_11, hx_sv20_11, hx_v25, hx_fi25_0, hx_sv25_0, hx_fi25_1, hx_sv25_1, hx_fl, hx_sl, hx_fr25_3, hx_li2, hx_ai2, hx_si2, hx_li6, hx_ai6, hx_si6, hx_li7, hx_ai7, hx_si7, hx_li8, hx_ai8, hx_si8, hx_li9, hx_ai9, hx_si9, hx_li10, hx_ai10, hx_si10, hx_li12, hx_ai12, hx_si12, hx_li13, hx_ai13, hx_si13, hx_li14, hx_ai14, hx_si14, hx_li16, hx_ai16, hx_si16, hx_li17, hx_ai17, hx_si17, hx_li18, hx_ai18, hx_si18, hx_li19, hx_ai19, hx_si19, hx_li21, hx_ai21, hx_si21, hx_li22, hx_ai22, hx_si22, hx_li24, hx_ai24, hx_si24, hx_li26, hx_ai26, hx_si26, hx_li27, hx_ai27, hx_si27, hx_li28, hx_ai28, hx_si28, hx_li29, hx_ai29, hx_si29, hx_li30, hx_ai30, hx_si30, hx_li31, hx_ai31, hx_si31, hx_li32, hx_ai32, hx_si32, hx_li33, hx_ai33, hx_si33, hx_lr4, hx_lr23, hx_sf0, hx_sf1, hx_ss1, hx_sf2, hx_ss2, hx_sf3, hx_ss3, hx_lkli, hx_lksi, hi, hj, va_l, Nat.reduceEqDiff, reduceIte, bx_uu]
theorem gm_mst_Mt {dead : Nat → Bool} {sel : (Nat → Int32) → Nat → Nat → Bool} {n : Nat} (hn : n ≤ 7) (hs : ∀ m a o, sel m a o = true → m o = -1 ∧ ¬ a = o) {m : Nat → Int32} {a : Nat} (ha : a < n) (h : gm_Mt n m) : gm_Mt n (gm_mst dead sel n m a) := by
  unfold gm_mst
  split
  · exact h
  · rename_i hc
    cases e : gm_fst (sel m a) n 0 with
    | none => exact h
    | some o =>
      have h1 := gm_fst_i e
      have h2 := hs m a o h1.2.2
      have h3 : m a = -1 := by
        by_cases q : m a = -1
        · exact q
        · exact absurd (by rw [decide_eq_false q]; simp) hc
      exact gm_Mt_pair h hn ha (by omega) h2.2 h3 h2.1
theorem sX0_swapMates (hg : 4000 ≤ g) (z : Nat → Int32) (w : Nat → Nat → Int32) (b : Int64) (hr : hx_rg w) {n : Nat} (hn : n ≤ 7) (hz : z 2 = nI n) : aX0_swapMates g [.ref 3] (hx z w b) = some (none, hx z (va_up (va_up w 5 (gm_cpy (w 21) (w 5) n)) 21 (gm_lp (gm_mst (fun a => decide (gm_cpy (w 21) (w 5) n a = -1)) (gm_selX (xw_mb w) (gm_cpy (w 21) (w 5) n)) n) n 0 (gm_cpy (fun _ => -1) (w 21) n))) b) := by
  generalize hbf : gm_cpy (w 21) (w 5) n = bf
  have loop2 := gm_loopx (n := n) (fun F i m => ah_run (kX0_swapMates g) F 43 [(0, .ref 3), (1, .int (nI i))] [] (hx z (va_up (va_up w 5 bf) 21 m) b)) (gm_mst (fun a => decide (bf a = -1)) (gm_selX (xw_mb w) bf) n) (fun m => some (none, hx z (va_up (va_up w 5 bf) 21 m) b)) (fun _ m => gm_Mt n m) (fun f m _ => by
      simp only [rX0_swapMates_43, ob_s, ob_n, ar_I, ar_L, ar_V, hx_v0, hx_fr0_0, hx_fr0_1, hx_fr0_2, hx_fr0_3, hx_fr0_4, hx_fi0_5, hx_sv0_5, hx_v1, hx_fr1_0, hx_fi1_1, hx_sv1_1, hx_v3, hx_fr3_0, hx_fr3_1, hx_fi3_2, hx_sv3_2, hx_fi3_3, hx_sv3_3, hx_fi3_4, hx_sv3_4, hx_fi3_5, hx_sv3_5, hx_fi3_6, hx_sv3_6, hx_fr3_7, hx_v5, hx_fi5_0, hx_sv5_0, hx_fr5_1, hx_fr5_2, hx_fr5_3, hx_fr5_4, hx_v11, hx_fi11_0, hx_sv11_0, hx_fr11_1, hx_fr11_2, hx_fr11_3, hx_fr11_4, hx_fi11_5, hx_sv11_5, hx_fi11_6, hx_sv11_6, hx_fi11_7, hx_sv11_7, hx_fi11_8, hx_sv11_8, hx_v15, hx_fi15_0, hx_sv15_0, hx_fr15_1, hx_fr15_2, hx_fr15_3, hx_fr15_4, hx_v20, hx_fi20_0, hx_sv20_0, hx_fi20_1, hx_sv20_1, hx_fi20_2, hx_sv20_2, hx_fi20_3, hx_sv20_3, hx_fr20_4, hx_fr20_5, hx_fr20_6, hx_fr20_7, hx_fi20_8, hx_sv20_8, hx_fi20_9, hx_sv20_9, hx_fi20_10, hx_sv20_10, hx_fi20_11, hx_sv20_11, hx_v25, hx_fi25_0, hx_sv25_0, hx_fi25_1, hx_sv25_1, hx_fl, hx_sl, hx_fr25_3, hx_li2, hx_ai2, hx_si2, hx_li6, hx_ai6, hx_si6, hx_li7, hx_ai7, hx_si7, hx_li8, hx_ai8, hx_si8, hx_li9, hx_ai9, hx_si9, hx_li10, hx_ai10, hx_si10, hx_li12, hx_ai12, hx_si12, hx_li13, hx_ai13, hx_si13, hx_li14, hx_ai14, hx_si14, hx_li16, hx_ai16, hx_si16, hx_li17, hx_ai17, hx_si17, hx_li18, hx_ai18, hx_si18, hx_li19, hx_ai19, hx_si19, hx_li21, hx_ai21, hx_si21, hx_li22, hx_ai22, hx_si22, hx_li24, hx_ai24, hx_si24, hx_li26, hx_ai26, hx_si26, hx_li27, hx_ai27, hx_si27, hx_li28, hx_ai28, hx_si28, hx_li29, hx_ai29, hx_si29, hx_li30, hx_ai30, hx_si30, hx_li31, hx_ai31, hx_si31, hx_li32, hx_ai32, hx_si32, hx_li33, hx_ai33, hx_si33, hx_lr4, hx_lr23, hx_sf0, hx_sf1, hx_ss1, hx_sf2, hx_ss2, hx_sf3, hx_ss3, hx_lkli, hx_lksi, hz, nI_ltnn (show n < 1000 by omega), if_false]) (fun f i m hi hM => ⟨by
      have hmo : hx_mo (va_up (va_up w 5 bf) 21 m) n := fun i hi => by
        rcases hM i hi with e | ⟨j, h1, -, h2, -⟩
        · exact Or.inl e
        · exact Or.inr ⟨j, h1, h2⟩
      have hp := sX0_isPaired z (va_up (va_up w 5 bf) 21 m) b hg hn hz hmo i hi
      have hnm := sX0_newMateOf hg z (va_up (va_up w 5 bf) 21 m) b (show hx_rg (va_up (va_up w 5 bf) 21 m) from hr) hn hz hmo i hi
      have hxm : xw_mb (va_up (va_up w 5 bf) 21 m) = xw_mb w := rfl
      rw [hxm] at hnm
      simp only [va_l, Nat.reduceEqDiff, reduceIte] at hp hnm
      simp only [rX0_swapMates_43, ob_s, ob_n, ar_I, ar_L, ar_V, hx_v0, hx_fr0_0, hx_fr0_1, hx_fr0_2, hx_fr0_3, hx_fr0_4, hx_fi0_5, hx_sv0_5, hx_v1, hx_fr1_0, hx_fi1_1, hx_sv1_1, hx_v3, hx_fr3_0, hx_fr3_1, hx_fi3_2, hx_sv3_2, hx_fi3_3, hx_sv3_3, hx_fi3_4, hx_sv3_4, hx_fi3_5, hx_sv3_5, hx_fi3_6, hx_sv3_6, hx_fr3_7, hx_v5, hx_fi5_0, hx_sv5_0, hx_fr5_1, hx_fr5_2, hx_fr5_3, hx_fr5_4, hx_v11, hx_fi11_0, hx_sv11_0, hx_fr11_1, hx_fr11_2, hx_fr11_3, hx_fr11_4, hx_fi11_5, hx_sv11_5, hx_fi11_6, hx_sv11_6, hx_fi11_7, hx_sv11_7, hx_fi11_8, hx_sv11_8, hx_v15, hx_fi15_0, hx_sv15_0, hx_fr15_1, hx_fr15_2, hx_fr15_3, hx_fr15_4, hx_v20, hx_fi20_0, hx_sv20_0, hx_fi20_1, hx_sv20_1, hx_fi20_2, hx_sv20_2, hx_fi20_3, hx_sv20_3, hx_fr20_4, hx_fr20_5, hx_fr20_6, hx_fr20_7, hx_fi20_8, hx_sv20_8, hx_fi20_9, hx_sv20_9, hx_fi20_10, hx_sv20_10, hx_fi20_11, hx_sv20_11, hx_v25, hx_fi25_0, hx_sv25_0, hx_fi25_1, hx_sv25_1, hx_fl, hx_sl, hx_fr25_3, hx_li2, hx_ai2, hx_si2, hx_li6, hx_ai6, hx_si6, hx_li7, hx_ai7, hx_si7, hx_li8, hx_ai8, hx_si8, hx_li9, hx_ai9, hx_si9, hx_li10, hx_ai10, hx_si10, hx_li12, hx_ai12, hx_si12, hx_li13, hx_ai13, hx_si13, hx_li14, hx_ai14, hx_si14, hx_li16, hx_ai16, hx_si16, hx_li17, hx_ai17, hx_si17, hx_li18, hx_ai18, hx_si18, hx_li19, hx_ai19, hx_si19, hx_li21, hx_ai21, hx_si21, hx_li22, hx_ai22, hx_si22, hx_li24, hx_ai24, hx_si24, hx_li26, hx_ai26, hx_si26, hx_li27, hx_ai27, hx_si27, hx_li28, hx_ai28, hx_si28, hx_li29, hx_ai29, hx_si29, hx_li30, hx_ai30, hx_si30, hx_li31, hx_ai31, hx_si31, hx_li32, hx_ai32, hx_si32, hx_li33, hx_ai33, hx_si33, hx_lr4, hx_lr23, hx_sf0, hx_sf1, hx_ss1, hx_sf2, hx_ss2, hx_sf3, hx_ss3, hx_lkli, hx_lksi, hz, nI_ltin hi (show n < 1000 by omega), if_true, hp, hnm, bI_0, n32_mm, nI_1]
      have hv : gm_mst (fun a => decide (bf a = -1)) (gm_selX (xw_mb w) bf) n m i = if (decide (bf i = -1) || !decide (m i = -1)) = true then m else gm_pu m i (gm_fst (gm_selX (xw_mb w) bf m i) n 0) := rfl
      rw [hv]
      by_cases c1 : m i = -1
      · rw [decide_eq_true c1, if_pos (show (!true) = false from rfl)]
        by_cases c2 : bf i = -1
        · rw [decide_eq_true c2, if_pos c2, if_pos rfl, if_pos (show (true || !true) = true from rfl)]
        · rw [decide_eq_false c2, if_neg c2, if_neg (show ¬ (false || !true) = true by decide)]
          cases e : gm_fst (gm_selX (xw_mb w) bf m i) n 0 with
          | none =>
            rw [show gm_o2i none = -1 from rfl, if_pos rfl]
            rfl
          | some o =>
            have h1 := gm_fst_i e
            have hpu := sX0_pairUp hg z (va_up (va_up w 5 bf) 21 m) b i o (by omega) (by omega)
            simp only [va_l, Nat.reduceEqDiff, reduceIte, bx_uu] at hpu
            rw [show gm_o2i (some o) = nI o from rfl, if_neg (gm_nI_m1 (show o < 1000 by omega)), hpu, ar_V, ob_s]
            rfl
      · rw [decide_eq_false c1, if_neg (by decide), if_pos (by simp)], gm_mst_Mt hn (fun m a o h => by
      have h : (!decide (bf o = -1) && (!decide (bf o = nI a) && (decide (m o = -1) && xw_mb w a o))) = true := h
      rw [Bool.and_eq_true, Bool.and_eq_true, Bool.and_eq_true] at h
      refine ⟨of_decide_eq_true h.2.2.1, ?_⟩
      have h4 : (decide (¬ a = o) && _) = true := h.2.2.2
      rw [Bool.and_eq_true] at h4
      exact of_decide_eq_true h4.1) hi hM⟩)
  have loop1 : ∀ (k i F : Nat), i + k = n → k + 10 ≤ F → ah_run (kX0_swapMates g) F 2 [(0, .ref 3), (1, .int (nI i))] [] (hx z (va_up (va_up w 5 (gm_cpy (w 21) (w 5) i)) 21 (gm_cpy (fun _ => -1) (w 21) i)) b) = some (none, hx z (va_up (va_up w 5 bf) 21 (gm_lp (gm_mst (fun a => decide (bf a = -1)) (gm_selX (xw_mb w) bf) n) n 0 (gm_cpy (fun _ => -1) (w 21) n))) b) := by
    intro k
    induction k with
    | zero =>
      intro i F hi hF
      obtain ⟨f, rfl⟩ : ∃ f, F = f + 1 := ⟨F - 1, by omega⟩
      have e : i = n := by omega
      subst e
      simp only [rX0_swapMates_2, ob_s, ob_n, ar_I, ar_L, ar_V, hx_v0, hx_fr0_0, hx_fr0_1, hx_fr0_2, hx_fr0_3, hx_fr0_4, hx_fi0_5, hx_sv0_5, hx_v1, hx_fr1_0, hx_fi1_1, hx_sv1_1, hx_v3, hx_fr3_0, hx_fr3_1, hx_fi3_2, hx_sv3_2, hx_fi3_3, hx_sv3_3, hx_fi3_4, hx_sv3_4, hx_fi3_5, hx_sv3_5, hx_fi3_6, hx_sv3_6, hx_fr3_7, hx_v5, hx_fi5_0, hx_sv5_0, hx_fr5_1, hx_fr5_2, hx_fr5_3, hx_fr5_4, hx_v11, hx_fi11_0, hx_sv11_0, hx_fr11_1, hx_fr11_2, hx_fr11_3, hx_fr11_4, hx_fi11_5, hx_sv11_5, hx_fi11_6, hx_sv11_6, hx_fi11_7, hx_sv11_7, hx_fi11_8, hx_sv11_8, hx_v15, hx_fi15_0, hx_sv15_0, hx_fr15_1, hx_fr15_2, hx_fr15_3, hx_fr15_4, hx_v20, hx_fi20_0, hx_sv20_0, hx_fi20_1, hx_sv20_1, hx_fi20_2, hx_sv20_2, hx_fi20_3, hx_sv20_3, hx_fr20_4, hx_fr20_5, hx_fr20_6, hx_fr20_7, hx_fi20_8, hx_sv20_8, hx_fi20_9, hx_sv20_9, hx_fi20_10, hx_sv20_10, hx_fi20_11, hx_sv20_11, hx_v25, hx_fi25_0, hx_sv25_0, hx_fi25_1, hx_sv25_1, hx_fl, hx_sl, hx_fr25_3, hx_li2, hx_ai2, hx_si2, hx_li6, hx_ai6, hx_si6, hx_li7, hx_ai7, hx_si7, hx_li8, hx_ai8, hx_si8, hx_li9, hx_ai9, hx_si9, hx_li10, hx_ai10, hx_si10, hx_li12, hx_ai12, hx_si12, hx_li13, hx_ai13, hx_si13, hx_li14, hx_ai14, hx_si14, hx_li16, hx_ai16, hx_si16, hx_li17, hx_ai17, hx_si17, hx_li18, hx_ai18, hx_si18, hx_li19, hx_ai19, hx_si19, hx_li21, hx_ai21, hx_si21, hx_li22, hx_ai22, hx_si22, hx_li24, hx_ai24, hx_si24, hx_li26, hx_ai26, hx_si26, hx_li27, hx_ai27, hx_si27, hx_li28, hx_ai28, hx_si28, hx_li29, hx_ai29, hx_si29, hx_li30, hx_ai30, hx_si30, hx_li31, hx_ai31, hx_si31, hx_li32, hx_ai32, hx_si32, hx_li33, hx_ai33, hx_si33, hx_lr4, hx_lr23, hx_sf0, hx_sf1, hx_ss1, hx_sf2, hx_ss2, hx_sf3, hx_ss3, hx_lkli, hx_lksi, hz, nI_ltnn (show i < 1000 by omega), if_false]
      rw [hbf]
      have := loop2 (gm_cpy (fun _ => -1) (w 21) i) (fun j hj => Or.inl (gm_cpy_lt hj)) f (by omega)
      rw [show nI 0 = 0 from rfl] at this
      exact this
    | succ k ih =>
      intro i F hi hF
      obtain ⟨f, rfl⟩ : ∃ f, F = f + 1 := ⟨F - 1, by omega⟩
      have i7 : i < 7 := by omega
      simp only [rX0_swapMates_2, ob_s, ob_n, ar_I, ar_L, ar_V, hx_v0, hx_fr0_0, hx_fr0_1, hx_fr0_2, hx_fr0_3, hx_fr0_4, hx_fi0_5, hx_sv0_5, hx_v1, hx_fr1_0, hx_fi1_1, hx_sv1_1, hx_v3, hx_fr3_0, hx_fr3_1, hx_fi3_2, hx_sv3_2, hx_fi3_3, hx_sv3_3, hx_fi3_4, hx_sv3_4, hx_fi3_5, hx_sv3_5, hx_fi3_6, hx_sv3_6, hx_fr3_7, hx_v5, hx_fi5_0, hx_sv5_0, hx_fr5_1, hx_fr5_2, hx_fr5_3, hx_fr5_4, hx_v11, hx_fi11_0, hx_sv11_0, hx_fr11_1, hx_fr11_2, hx_fr11_3, hx_fr11_4, hx_fi11_5, hx_sv11_5, hx_fi11_6, hx_sv11_6, hx_fi11_7, hx_sv11_7, hx_fi11_8, hx_sv11_8, hx_v15, hx_fi15_0, hx_sv15_0, hx_fr15_1, hx_fr15_2, hx_fr15_3, hx_fr15_4, hx_v20, hx_fi20_0, hx_sv20_0, hx_fi20_1, hx_sv20_1, hx_fi20_2, hx_sv20_2, hx_fi20_3, hx_sv20_3, hx_fr20_4, hx_fr20_5, hx_fr20_6, hx_fr20_7, hx_fi20_8, hx_sv20_8, hx_fi20_9, hx_sv20_9, hx_fi20_10, hx_sv20_10, hx_fi20_11, hx_sv20_11, hx_v25, hx_fi25_0, hx_sv25_0, hx_fi25_1, hx_sv25_1, hx_fl, hx_sl, hx_fr25_3, hx_li2, hx_ai2, hx_si2, hx_li6, hx_ai6, hx_si6, hx_li7, hx_ai7, hx_si7, hx_li8, hx_ai8, hx_si8, hx_li9, hx_ai9, hx_si9, hx_li10, hx_ai10, hx_si10, hx_li12, hx_ai12, hx_si12, hx_li13, hx_ai13, hx_si13, hx_li14, hx_ai14, hx_si14, hx_li16, hx_ai16, hx_si16, hx_li17, hx_ai17, hx_si17, hx_li18, hx_ai18, hx_si18, hx_li19, hx_ai19, hx_si19, hx_li21, hx_ai21, hx_si21, hx_li22, hx_ai22, hx_si22, hx_li24, hx_ai24, hx_si24, hx_li26, hx_ai26, hx_si26, hx_li27, hx_ai27, hx_si27, hx_li28, hx_ai28, hx_si28, hx_li29, hx_ai29, hx_si29, hx_li30, hx_ai30, hx_si30, hx_li31, hx_ai31, hx_si31, hx_li32, hx_ai32, hx_si32, hx_li33, hx_ai33, hx_si33, hx_lr4, hx_lr23, hx_sf0, hx_sf1, hx_ss1, hx_sf2, hx_ss2, hx_sf3, hx_ss3, hx_lkli, hx_lksi, va_l, Nat.reduceEqDiff, reduceIte, i7, hz, nI_ltin (show i < n by omega) (show n < 1000 by omega), nI_1, gm_cpy_ge (show ¬ i < i by omega)]
      rw [va_2 _ _ _ _ _ (by decide), gm_cpy_s, gm_cpy_s (fun _ => -1) (w 21) i]
      exact ih (i + 1) f (by omega) (by omega)
  obtain ⟨f, rfl⟩ : ∃ f, g = f + 40 := ⟨g - 40, by omega⟩
  unfold aX0_swapMates
  rw [eX0_swapMates]
  have := loop1 n 0 (f + 39) (by omega) (by omega)
  rw [gm_cpy_0, gm_cpy_0, show va_up (va_up w 5 (w 5)) 21 (w 21) = w by rw [gm_up_id, gm_up_id], show nI 0 = 0 from rfl] at this
  exact this
theorem sX12_mayIn (hg : 4000 ≤ g) (y : Nat → Int32) (v : Nat → Nat → Int32) (c : Int64) {n : Nat} (hn : n ≤ 7) (hz : y 2 = nI n) (bf m : Nat → Int32) (a : Nat) (ha : a < n) (hb : ¬ bf a = -1) (hm1 : m a = -1) : ∀ (k i F : Nat), i + k = n → k + 1 ≤ F → ∃ F2, F ≤ F2 + (k + 1) ∧ ah_run (kX12_may g) F 56 [(0, .ref 0), (1, .int (nI a)), (2, .int (nI i))] [] (hm y (va_up (va_up v 12 bf) 11 m) c) = ah_run (kX12_may g) F2 46 [(0, .ref 0), (1, .int (nI (a + 1)))] [] (hm y (va_up (va_up v 12 bf) 11 (gm_pu m a (gm_fst (gm_selM (mw_mb v) bf m a) k i))) c) := by
  have ma : ∀ f : Nat → Int32, ah_rd f 7 (nI a) = some (f a) := fun f => ah_rdN (by omega) (by decide)
  intro k
  induction k with
  | zero =>
    intro i F hi hF
    obtain ⟨f, rfl⟩ : ∃ f, F = f + 1 := ⟨F - 1, by omega⟩
    have e : i = n := by omega
    subst e
    refine ⟨f, by omega, ?_⟩
    simp only [rX12_may_56, ob_s, ob_n, ar_I, ar_L, ar_V, hm_vI, hm_fr0, hm_li0, hm_ai0, hm_si0, hm_fi1, hm_sv1, hm_fi2, hm_sv2, hm_fi3, hm_sv3, hm_fi4, hm_sv4, hm_fi5, hm_sv5, hm_fi6, hm_sv6, hm_fi7, hm_sv7, hm_fr8, hm_li8, hm_ai8, hm_si8, hm_fr9, hm_li9, hm_ai9, hm_si9, hm_fr10, hm_li10, hm_ai10, hm_si10, hm_fr11, hm_li11, hm_ai11, hm_si11, hm_fr12, hm_li12, hm_ai12, hm_si12, hm_fr13, hm_li13, hm_ai13, hm_si13, hm_fr14, hm_li14, hm_ai14, hm_si14, hm_fi15, hm_sv15, hm_fr16, hm_li16, hm_ai16, hm_si16, hm_fr17, hm_li17, hm_ai17, hm_si17, hm_fi18, hm_sv18, hm_fi19, hm_sv19, hm_fi20, hm_sv20, hm_fi21, hm_sv21, hm_fi22, hm_sv22, hm_fi23, hm_sv23, hm_fi24, hm_sv24, hm_fr25, hm_li25, hm_ai25, hm_si25, hm_fr26, hm_li26, hm_ai26, hm_si26, hm_fr27, hm_li27, hm_ai27, hm_si27, hm_fr28, hm_li28, hm_ai28, hm_si28, hm_fl, hm_sl, hz, nI_ltnn (show i < 1000 by omega), if_false, gm_fst_0, nI_1]
    rfl
  | succ k ih =>
    intro i F hi hF
    obtain ⟨f, rfl⟩ : ∃ f, F = f + 1 := ⟨F - 1, by omega⟩
    have i7 : i < 7 := by omega
    have a7 : a < 7 := by omega
    have hin : i < n := by omega
    have m1 : ∀ f : Nat → Int32, ah_rd f 7 (nI i) = some (f i) := fun f => ah_rdN i7 (by decide)
    have hmb := sX12_mayBe y (va_up (va_up v 12 bf) 11 m) c hg a i a7 i7
    have hxm : gm_mb (mw_k (va_up (va_up v 12 bf) 11 m)) (mw_h (va_up (va_up v 12 bf) 11 m)) (va_up (va_up v 12 bf) 11 m 9) a i = mw_mb v a i := rfl
    rw [hxm] at hmb
    have hv : gm_selM (mw_mb v) bf m a i = (!decide (bf i = -1) && (decide (m i = -1) && (!decide (bf a = nI i) && mw_mb v a i))) := rfl
    cases hc : gm_selM (mw_mb v) bf m a i
    · obtain ⟨F2, h1, h2⟩ := ih (i + 1) f (by omega) (by omega)
      refine ⟨F2, by omega, ?_⟩
      rw [gm_fst_s, hc, if_neg (by decide), ← h2]
      rw [hv] at hc
      simp only [rX12_may_56, ob_s, ob_n, ar_I, ar_L, ar_V, hm_vI, hm_fr0, hm_li0, hm_ai0, hm_si0, hm_fi1, hm_sv1, hm_fi2, hm_sv2, hm_fi3, hm_sv3, hm_fi4, hm_sv4, hm_fi5, hm_sv5, hm_fi6, hm_sv6, hm_fi7, hm_sv7, hm_fr8, hm_li8, hm_ai8, hm_si8, hm_fr9, hm_li9, hm_ai9, hm_si9, hm_fr10, hm_li10, hm_ai10, hm_si10, hm_fr11, hm_li11, hm_ai11, hm_si11, hm_fr12, hm_li12, hm_ai12, hm_si12, hm_fr13, hm_li13, hm_ai13, hm_si13, hm_fr14, hm_li14, hm_ai14, hm_si14, hm_fi15, hm_sv15, hm_fr16, hm_li16, hm_ai16, hm_si16, hm_fr17, hm_li17, hm_ai17, hm_si17, hm_fi18, hm_sv18, hm_fi19, hm_sv19, hm_fi20, hm_sv20, hm_fi21, hm_sv21, hm_fi22, hm_sv22, hm_fi23, hm_sv23, hm_fi24, hm_sv24, hm_fr25, hm_li25, hm_ai25, hm_si25, hm_fr26, hm_li26, hm_ai26, hm_si26, hm_fr27, hm_li27, hm_ai27, hm_si27, hm_fr28, hm_li28, hm_ai28, hm_si28, hm_fl, hm_sl, va_l, Nat.reduceEqDiff, reduceIte, hz, nI_ltin hin (show n < 1000 by omega), ma, m1, hb, hm1, hmb, bI_0, nI_1]
      by_cases c1 : bf i = -1
      · rw [if_pos c1]
      · rw [if_neg c1]
        by_cases c2 : m i = -1
        · rw [if_pos c2]
          by_cases c3 : bf a = nI i
          · rw [if_pos c3]
          · rw [if_neg c3]
            rw [decide_eq_false c1, decide_eq_true c2, decide_eq_false c3] at hc
            have hc : mw_mb v a i = false := hc
            rw [if_pos hc]
        · rw [if_neg c2]
    · rw [gm_fst_s, hc, if_pos rfl]
      rw [hv, Bool.and_eq_true, Bool.and_eq_true, Bool.and_eq_true] at hc
      obtain ⟨q1, q2, q3, q4⟩ := hc
      have c1 : ¬ bf i = -1 := fun e => by rw [decide_eq_true e] at q1; cases q1
      have c2 : m i = -1 := of_decide_eq_true q2
      have c3 : ¬ bf a = nI i := fun e => by rw [decide_eq_true e] at q3; cases q3
      have hai : ¬ a = i := by
        have h4 : (decide (¬ a = i) && _) = true := q4
        rw [Bool.and_eq_true] at h4
        exact of_decide_eq_true h4.1
      obtain ⟨f2, rfl⟩ : ∃ f2, f = f2 + 1 := ⟨f - 1, by omega⟩
      refine ⟨f2, by omega, ?_⟩
      have hne : upd (upd m a (nI i)) i (nI a) a = nI i := by
        rw [upd_ne _ _ hai, upd_self]
      rw [rX12_may_56]
      simp only [ob_s, ob_n, ar_I, ar_L, ar_V, hm_vI, hm_fr0, hm_li0, hm_ai0, hm_si0, hm_fi1, hm_sv1, hm_fi2, hm_sv2, hm_fi3, hm_sv3, hm_fi4, hm_sv4, hm_fi5, hm_sv5, hm_fi6, hm_sv6, hm_fi7, hm_sv7, hm_fr8, hm_li8, hm_ai8, hm_si8, hm_fr9, hm_li9, hm_ai9, hm_si9, hm_fr10, hm_li10, hm_ai10, hm_si10, hm_fr11, hm_li11, hm_ai11, hm_si11, hm_fr12, hm_li12, hm_ai12, hm_si12, hm_fr13, hm_li13, hm_ai13, hm_si13, hm_fr14, hm_li14, hm_ai14, hm_si14, hm_fi15, hm_sv15, hm_fr16, hm_li16, hm_ai16, hm_si16, hm_fr17, hm_li17, hm_ai17, hm_si17, hm_fi18, hm_sv18, hm_fi19, hm_sv19, hm_fi20, hm_sv20, hm_fi21, hm_sv21, hm_fi22, hm_sv22, hm_fi23, hm_sv23, hm_fi24, hm_sv24, hm_fr25, hm_li25, hm_ai25, hm_si25, hm_fr26, hm_li26, hm_ai26, hm_si26, hm_fr27, hm_li27, hm_ai27, hm_si27, hm_fr28, hm_li28, hm_ai28, hm_si28, hm_fl, hm_sl, va_l, Nat.reduceEqDiff, reduceIte, hz, nI_ltin hin (show n < 1000 by omega), ma, m1, hb, hm1, hmb, bI_0, nI_1, c1, c2, c3, q4, Bool.true_eq_false, i7, a7, bx_uu]
      rw [rX12_may_56]
      simp only [ob_s, ob_n, ar_I, ar_L, ar_V, hm_vI, hm_fr0, hm_li0, hm_ai0, hm_si0, hm_fi1, hm_sv1, hm_fi2, hm_sv2, hm_fi3, hm_sv3, hm_fi4, hm_sv4, hm_fi5, hm_sv5, hm_fi6, hm_sv6, hm_fi7, hm_sv7, hm_fr8, hm_li8, hm_ai8, hm_si8, hm_fr9, hm_li9, hm_ai9, hm_si9, hm_fr10, hm_li10, hm_ai10, hm_si10, hm_fr11, hm_li11, hm_ai11, hm_si11, hm_fr12, hm_li12, hm_ai12, hm_si12, hm_fr13, hm_li13, hm_ai13, hm_si13, hm_fr14, hm_li14, hm_ai14, hm_si14, hm_fi15, hm_sv15, hm_fr16, hm_li16, hm_ai16, hm_si16, hm_fr17, hm_li17, hm_ai17, hm_si17, hm_fi18, hm_sv18, hm_fi19, hm_sv19, hm_fi20, hm_sv20, hm_fi21, hm_sv21, hm_fi22, hm_sv22, hm_fi23, hm_sv23, hm_fi24, hm_sv24, hm_fr25, hm_li25, hm_ai25, hm_si25, hm_fr26, hm_li26, hm_ai26, hm_si26, hm_fr27, hm_li27, hm_ai27, hm_si27, hm_fr28, hm_li28, hm_ai28, hm_si28, hm_fl, hm_sl, va_l, Nat.reduceEqDiff, reduceIte, hz, ma, hb, hne, gm_ok_ne (show i < 1000 by omega), ite_self, nI_1]
      rfl
theorem sX12_may (hg : 4000 ≤ g) (y : Nat → Int32) (v : Nat → Nat → Int32) (c : Int64) {n : Nat} (hn : n ≤ 7) (hz : y 2 = nI n) (h0 : ¬ y 2 = 0) : ∃ bf m : Nat → Int32, bf = gm_cpy (v 11) (v 12) 7 ∧ m = gm_lp (gm_mst (fun a => decide (bf a = -1)) (gm_selM (mw_mb v) bf) n) n 0 (gm_cpy (fun _ => -1) (v 11) n) ∧ aX12_may g [.ref 0] (hm y v c) = some (some (.int (gm_prs m n)), hm (va_up y 6 (y 6 + 1)) (va_up (va_up v 12 bf) 11 m) c) := by
  refine ⟨gm_cpy (v 11) (v 12) 7, _, rfl, rfl, ?_⟩
  generalize hbf : gm_cpy (v 11) (v 12) 7 = bf
  generalize hms : gm_cpy (fun _ => -1) (v 11) n = ms
  have loop2 := gm_loop (n := n) 10 1 (fun F i m => ah_run (kX12_may g) F 46 [(0, .ref 0), (1, .int (nI i))] [] (hm y (va_up (va_up v 12 bf) 11 m) c)) (gm_mst (fun a => decide (bf a = -1)) (gm_selM (mw_mb v) bf) n) (fun m => some (some (.int (gm_prs m n)), hm (va_up y 6 (y 6 + 1)) (va_up (va_up v 12 bf) 11 m) c)) (fun _ _ => True) (fun F m hF _ => by
      obtain ⟨f, rfl⟩ : ∃ f, F = f + 1 := ⟨F - 1, by omega⟩
      have hpo := sX12_pairsOf (va_up y 6 (y 6 + 1)) (va_up (va_up v 12 bf) 11 m) c hg hn hz 5 m (hm_li11 (va_up y 6 (y 6 + 1)) (va_up (va_up v 12 bf) 11 m) c)
      simp only [rX12_may_46, ob_s, ob_n, ar_I, ar_L, ar_V, hm_vI, hm_fr0, hm_li0, hm_ai0, hm_si0, hm_fi1, hm_sv1, hm_fi2, hm_sv2, hm_fi3, hm_sv3, hm_fi4, hm_sv4, hm_fi5, hm_sv5, hm_fi6, hm_sv6, hm_fi7, hm_sv7, hm_fr8, hm_li8, hm_ai8, hm_si8, hm_fr9, hm_li9, hm_ai9, hm_si9, hm_fr10, hm_li10, hm_ai10, hm_si10, hm_fr11, hm_li11, hm_ai11, hm_si11, hm_fr12, hm_li12, hm_ai12, hm_si12, hm_fr13, hm_li13, hm_ai13, hm_si13, hm_fr14, hm_li14, hm_ai14, hm_si14, hm_fi15, hm_sv15, hm_fr16, hm_li16, hm_ai16, hm_si16, hm_fr17, hm_li17, hm_ai17, hm_si17, hm_fi18, hm_sv18, hm_fi19, hm_sv19, hm_fi20, hm_sv20, hm_fi21, hm_sv21, hm_fi22, hm_sv22, hm_fi23, hm_sv23, hm_fi24, hm_sv24, hm_fr25, hm_li25, hm_ai25, hm_si25, hm_fr26, hm_li26, hm_ai26, hm_si26, hm_fr27, hm_li27, hm_ai27, hm_si27, hm_fr28, hm_li28, hm_ai28, hm_si28, hm_fl, hm_sl, hz, nI_ltnn (show n < 1000 by omega), if_false, hpo]) (fun F i m hF hi _ => by
      obtain ⟨f, rfl⟩ : ∃ f, F = f + 1 := ⟨F - 1, by omega⟩
      have mi : ∀ f : Nat → Int32, ah_rd f 7 (nI i) = some (f i) := fun f => ah_rdN (by omega) (by decide)
      have n0 : ((0 : Int32) < nI n) = True := by
        rw [nI_gt0 (by omega)]
        exact eq_true (by omega)
      have hv : gm_mst (fun a => decide (bf a = -1)) (gm_selM (mw_mb v) bf) n m i = if (decide (bf i = -1) || !decide (m i = -1)) = true then m else gm_pu m i (gm_fst (gm_selM (mw_mb v) bf m i) n 0) := rfl
      rw [hv]
      by_cases c1 : bf i = -1
      · obtain ⟨f2, rfl⟩ : ∃ f2, f = f2 + 1 := ⟨f - 1, by omega⟩
        refine ⟨f2, by omega, ?_, trivial⟩
        rw [decide_eq_true c1, if_pos (by simp)]
        simp only [rX12_may_46, rX12_may_56, ob_s, ob_n, ar_I, ar_L, ar_V, hm_vI, hm_fr0, hm_li0, hm_ai0, hm_si0, hm_fi1, hm_sv1, hm_fi2, hm_sv2, hm_fi3, hm_sv3, hm_fi4, hm_sv4, hm_fi5, hm_sv5, hm_fi6, hm_sv6, hm_fi7, hm_sv7, hm_fr8, hm_li8, hm_ai8, hm_si8, hm_fr9, hm_li9, hm_ai9, hm_si9, hm_fr10, hm_li10, hm_ai10, hm_si10, hm_fr11, hm_li11, hm_ai11, hm_si11, hm_fr12, hm_li12, hm_ai12, hm_si12, hm_fr13, hm_li13, hm_ai13, hm_si13, hm_fr14, hm_li14, hm_ai14, hm_si14, hm_fi15, hm_sv15, hm_fr16, hm_li16, hm_ai16, hm_si16, hm_fr17, hm_li17, hm_ai17, hm_si17, hm_fi18, hm_sv18, hm_fi19, hm_sv19, hm_fi20, hm_sv20, hm_fi21, hm_sv21, hm_fi22, hm_sv22, hm_fi23, hm_sv23, hm_fi24, hm_sv24, hm_fr25, hm_li25, hm_ai25, hm_si25, hm_fr26, hm_li26, hm_ai26, hm_si26, hm_fr27, hm_li27, hm_ai27, hm_si27, hm_fr28, hm_li28, hm_ai28, hm_si28, hm_fl, hm_sl, va_l, Nat.reduceEqDiff, reduceIte, hz, nI_ltin hi (show n < 1000 by omega), n0, mi, c1, n32_mm, nI_1]
      · by_cases c2 : m i = -1
        · obtain ⟨F2, h1, h2⟩ := sX12_mayIn hg y v c hn hz bf m i hi c1 c2 n 0 f (by omega) (by omega)
          refine ⟨F2, by omega, ?_, trivial⟩
          rw [decide_eq_false c1, decide_eq_true c2, if_neg (by decide), ← h2]
          simp only [rX12_may_46, ob_s, ob_n, ar_I, ar_L, ar_V, hm_vI, hm_fr0, hm_li0, hm_ai0, hm_si0, hm_fi1, hm_sv1, hm_fi2, hm_sv2, hm_fi3, hm_sv3, hm_fi4, hm_sv4, hm_fi5, hm_sv5, hm_fi6, hm_sv6, hm_fi7, hm_sv7, hm_fr8, hm_li8, hm_ai8, hm_si8, hm_fr9, hm_li9, hm_ai9, hm_si9, hm_fr10, hm_li10, hm_ai10, hm_si10, hm_fr11, hm_li11, hm_ai11, hm_si11, hm_fr12, hm_li12, hm_ai12, hm_si12, hm_fr13, hm_li13, hm_ai13, hm_si13, hm_fr14, hm_li14, hm_ai14, hm_si14, hm_fi15, hm_sv15, hm_fr16, hm_li16, hm_ai16, hm_si16, hm_fr17, hm_li17, hm_ai17, hm_si17, hm_fi18, hm_sv18, hm_fi19, hm_sv19, hm_fi20, hm_sv20, hm_fi21, hm_sv21, hm_fi22, hm_sv22, hm_fi23, hm_sv23, hm_fi24, hm_sv24, hm_fr25, hm_li25, hm_ai25, hm_si25, hm_fr26, hm_li26, hm_ai26, hm_si26, hm_fr27, hm_li27, hm_ai27, hm_si27, hm_fr28, hm_li28, hm_ai28, hm_si28, hm_fl, hm_sl, hz, nI_ltin hi (show n < 1000 by omega), if_true]
          rfl
        · obtain ⟨f2, rfl⟩ : ∃ f2, f = f2 + 1 := ⟨f - 1, by omega⟩
          refine ⟨f2, by omega, ?_, trivial⟩
          rw [decide_eq_false c2, if_pos (by simp)]
          simp only [rX12_may_46, rX12_may_56, ob_s, ob_n, ar_I, ar_L, ar_V, hm_vI, hm_fr0, hm_li0, hm_ai0, hm_si0, hm_fi1, hm_sv1, hm_fi2, hm_sv2, hm_fi3, hm_sv3, hm_fi4, hm_sv4, hm_fi5, hm_sv5, hm_fi6, hm_sv6, hm_fi7, hm_sv7, hm_fr8, hm_li8, hm_ai8, hm_si8, hm_fr9, hm_li9, hm_ai9, hm_si9, hm_fr10, hm_li10, hm_ai10, hm_si10, hm_fr11, hm_li11, hm_ai11, hm_si11, hm_fr12, hm_li12, hm_ai12, hm_si12, hm_fr13, hm_li13, hm_ai13, hm_si13, hm_fr14, hm_li14, hm_ai14, hm_si14, hm_fi15, hm_sv15, hm_fr16, hm_li16, hm_ai16, hm_si16, hm_fr17, hm_li17, hm_ai17, hm_si17, hm_fi18, hm_sv18, hm_fi19, hm_sv19, hm_fi20, hm_sv20, hm_fi21, hm_sv21, hm_fi22, hm_sv22, hm_fi23, hm_sv23, hm_fi24, hm_sv24, hm_fr25, hm_li25, hm_ai25, hm_si25, hm_fr26, hm_li26, hm_ai26, hm_si26, hm_fr27, hm_li27, hm_ai27, hm_si27, hm_fr28, hm_li28, hm_ai28, hm_si28, hm_fl, hm_sl, va_l, Nat.reduceEqDiff, reduceIte, hz, nI_ltin hi (show n < 1000 by omega), n0, mi, c1, c2, nI_1])
  have loop1 : ∀ (k i F : Nat), i + k = n → k + 100 ≤ F → ah_run (kX12_may g) F 23 [(0, .ref 0), (1, .int (nI i))] [] (hm y (va_up (va_up v 12 bf) 11 (gm_cpy (fun _ => -1) (v 11) i)) c) = some (some (.int (gm_prs (gm_lp (gm_mst (fun a => decide (bf a = -1)) (gm_selM (mw_mb v) bf) n) n 0 ms) n)), hm (va_up y 6 (y 6 + 1)) (va_up (va_up v 12 bf) 11 (gm_lp (gm_mst (fun a => decide (bf a = -1)) (gm_selM (mw_mb v) bf) n) n 0 ms)) c) := by
    intro k
    induction k with
    | zero =>
      intro i F hi hF
      obtain ⟨f, rfl⟩ : ∃ f, F = f + 1 := ⟨F - 1, by omega⟩
      have e : i = n := by omega
      subst e
      simp only [rX12_may_23, ob_s, ob_n, ar_I, ar_L, ar_V, hm_vI, hm_fr0, hm_li0, hm_ai0, hm_si0, hm_fi1, hm_sv1, hm_fi2, hm_sv2, hm_fi3, hm_sv3, hm_fi4, hm_sv4, hm_fi5, hm_sv5, hm_fi6, hm_sv6, hm_fi7, hm_sv7, hm_fr8, hm_li8, hm_ai8, hm_si8, hm_fr9, hm_li9, hm_ai9, hm_si9, hm_fr10, hm_li10, hm_ai10, hm_si10, hm_fr11, hm_li11, hm_ai11, hm_si11, hm_fr12, hm_li12, hm_ai12, hm_si12, hm_fr13, hm_li13, hm_ai13, hm_si13, hm_fr14, hm_li14, hm_ai14, hm_si14, hm_fi15, hm_sv15, hm_fr16, hm_li16, hm_ai16, hm_si16, hm_fr17, hm_li17, hm_ai17, hm_si17, hm_fi18, hm_sv18, hm_fi19, hm_sv19, hm_fi20, hm_sv20, hm_fi21, hm_sv21, hm_fi22, hm_sv22, hm_fi23, hm_sv23, hm_fi24, hm_sv24, hm_fr25, hm_li25, hm_ai25, hm_si25, hm_fr26, hm_li26, hm_ai26, hm_si26, hm_fr27, hm_li27, hm_ai27, hm_si27, hm_fr28, hm_li28, hm_ai28, hm_si28, hm_fl, hm_sl, hz, nI_ltnn (show i < 1000 by omega), if_false]
      rw [hms]
      have := loop2 i 0 ms f (by omega) trivial (by omega)
      rw [show nI 0 = 0 from rfl] at this
      exact this
    | succ k ih =>
      intro i F hi hF
      obtain ⟨f, rfl⟩ : ∃ f, F = f + 1 := ⟨F - 1, by omega⟩
      have i7 : i < 7 := by omega
      simp only [rX12_may_23, ob_s, ob_n, ar_I, ar_L, ar_V, hm_vI, hm_fr0, hm_li0, hm_ai0, hm_si0, hm_fi1, hm_sv1, hm_fi2, hm_sv2, hm_fi3, hm_sv3, hm_fi4, hm_sv4, hm_fi5, hm_sv5, hm_fi6, hm_sv6, hm_fi7, hm_sv7, hm_fr8, hm_li8, hm_ai8, hm_si8, hm_fr9, hm_li9, hm_ai9, hm_si9, hm_fr10, hm_li10, hm_ai10, hm_si10, hm_fr11, hm_li11, hm_ai11, hm_si11, hm_fr12, hm_li12, hm_ai12, hm_si12, hm_fr13, hm_li13, hm_ai13, hm_si13, hm_fr14, hm_li14, hm_ai14, hm_si14, hm_fi15, hm_sv15, hm_fr16, hm_li16, hm_ai16, hm_si16, hm_fr17, hm_li17, hm_ai17, hm_si17, hm_fi18, hm_sv18, hm_fi19, hm_sv19, hm_fi20, hm_sv20, hm_fi21, hm_sv21, hm_fi22, hm_sv22, hm_fi23, hm_sv23, hm_fi24, hm_sv24, hm_fr25, hm_li25, hm_ai25, hm_si25, hm_fr26, hm_li26, hm_ai26, hm_si26, hm_fr27, hm_li27, hm_ai27, hm_si27, hm_fr28, hm_li28, hm_ai28, hm_si28, hm_fl, hm_sl, va_l, Nat.reduceEqDiff, reduceIte, i7, hz, nI_ltin (show i < n by omega) (show n < 1000 by omega), nI_1, bx_uu]
      rw [gm_cpy_s (fun _ => -1) (v 11) i]
      exact ih (i + 1) f (by omega) (by omega)
  have e1 : va_up (va_up v 12 bf) 11 (v 11) = va_up v 12 bf := gm_up_id (va_up v 12 bf) 11
  obtain ⟨f, rfl⟩ : ∃ f, g = f + 300 := ⟨g - 300, by omega⟩
  unfold aX12_may
  rw [eX12_may]
  simp only [ob_s, ob_n, ar_I, ar_L, ar_V, hm_vI, hm_fr0, hm_li0, hm_ai0, hm_si0, hm_fi1, hm_sv1, hm_fi2, hm_sv2, hm_fi3, hm_sv3, hm_fi4, hm_sv4, hm_fi5, hm_sv5, hm_fi6, hm_sv6, hm_fi7, hm_sv7, hm_fr8, hm_li8, hm_ai8, hm_si8, hm_fr9, hm_li9, hm_ai9, hm_si9, hm_fr10, hm_li10, hm_ai10, hm_si10, hm_fr11, hm_li11, hm_ai11, hm_si11, hm_fr12, hm_li12, hm_ai12, hm_si12, hm_fr13, hm_li13, hm_ai13, hm_si13, hm_fr14, hm_li14, hm_ai14, hm_si14, hm_fi15, hm_sv15, hm_fr16, hm_li16, hm_ai16, hm_si16, hm_fr17, hm_li17, hm_ai17, hm_si17, hm_fi18, hm_sv18, hm_fi19, hm_sv19, hm_fi20, hm_sv20, hm_fi21, hm_sv21, hm_fi22, hm_sv22, hm_fi23, hm_sv23, hm_fi24, hm_sv24, hm_fr25, hm_li25, hm_ai25, hm_si25, hm_fr26, hm_li26, hm_ai26, hm_si26, hm_fr27, hm_li27, hm_ai27, hm_si27, hm_fr28, hm_li28, hm_ai28, hm_si28, hm_fl, hm_sl, sX12_lacks y v c hg, bI_0, h0, decide_false, if_true, hm_cp11_12 hg]
  rw [hbf]
  have := loop1 n 0 (f + 299) (by omega) (by omega)
  rw [gm_cpy_0, e1, show nI 0 = 0 from rfl] at this
  exact this
theorem gm_Mt_sym {n : Nat} (hn : n ≤ 7) {m : Nat → Int32} (h : gm_Mt n m) {i j : Nat} (hi : i < n) (hj : j < n) : (m i = nI j) = (m j = nI i) := by
  have key : ∀ i j : Nat, i < n → j < n → m i = nI j → m j = nI i := fun i j hi hj e => by
    rcases h i hi with q | ⟨k, h1, -, h3, h4⟩
    · rw [q] at e
      exact absurd e.symm (gm_nI_m1 (by omega))
    · rw [h3] at e
      have : k = j := (nI_eqi (show k < 1000 by omega) (show j < 1000 by omega)).mp e
      rw [← this]
      exact h4
  exact propext ⟨key i j hi hj, key j i hj hi⟩
theorem gp_may (hg : 4000 ≤ g) : gm_Pair (aX11_may g) (aX12_may g) [.ref 0] := by
  intro K n ln sn z w b y v c hR
  have h7 := hR.n7
  have e2 : z 2 = y 2 := hR.zx.trans hR.zm.symm
  have hMt := hR.2.1.2.2.2.2.2
  by_cases h0 : z 2 = 0
  · refine gm_same hR (-103) ?_ ?_
    · obtain ⟨f, rfl⟩ : ∃ f, g = f + 1 := ⟨g - 1, by omega⟩
      unfold aX11_may
      rw [eX11_may]
      simp only [ob_s, ob_n, ar_I, ar_L, ar_V, hx_v0, hx_fr0_0, hx_fr0_1, hx_fr0_2, hx_fr0_3, hx_fr0_4, hx_fi0_5, hx_sv0_5, hx_v1, hx_fr1_0, hx_fi1_1, hx_sv1_1, hx_v3, hx_fr3_0, hx_fr3_1, hx_fi3_2, hx_sv3_2, hx_fi3_3, hx_sv3_3, hx_fi3_4, hx_sv3_4, hx_fi3_5, hx_sv3_5, hx_fi3_6, hx_sv3_6, hx_fr3_7, hx_v5, hx_fi5_0, hx_sv5_0, hx_fr5_1, hx_fr5_2, hx_fr5_3, hx_fr5_4, hx_v11, hx_fi11_0, hx_sv11_0, hx_fr11_1, hx_fr11_2, hx_fr11_3, hx_fr11_4, hx_fi11_5, hx_sv11_5, hx_fi11_6, hx_sv11_6, hx_fi11_7, hx_sv11_7, hx_fi11_8, hx_sv11_8, hx_v15, hx_fi15_0, hx_sv15_0, hx_fr15_1, hx_fr15_2, hx_fr15_3, hx_fr15_4, hx_v20, hx_fi20_0, hx_sv20_0, hx_fi20_1, hx_sv20_1, hx_fi20_2, hx_sv20_2, hx_fi20_3, hx_sv20_3, hx_fr20_4, hx_fr20_5, hx_fr20_6, hx_fr20_7, hx_fi20_8, hx_sv20_8, hx_fi20_9, hx_sv20_9, hx_fi20_10, hx_sv20_10, hx_fi20_11, hx_sv20_11, hx_v25, hx_fi25_0, hx_sv25_0, hx_fi25_1, hx_sv25_1, hx_fl, hx_sl, hx_fr25_3, hx_li2, hx_ai2, hx_si2, hx_li6, hx_ai6, hx_si6, hx_li7, hx_ai7, hx_si7, hx_li8, hx_ai8, hx_si8, hx_li9, hx_ai9, hx_si9, hx_li10, hx_ai10, hx_si10, hx_li12, hx_ai12, hx_si12, hx_li13, hx_ai13, hx_si13, hx_li14, hx_ai14, hx_si14, hx_li16, hx_ai16, hx_si16, hx_li17, hx_ai17, hx_si17, hx_li18, hx_ai18, hx_si18, hx_li19, hx_ai19, hx_si19, hx_li21, hx_ai21, hx_si21, hx_li22, hx_ai22, hx_si22, hx_li24, hx_ai24, hx_si24, hx_li26, hx_ai26, hx_si26, hx_li27, hx_ai27, hx_si27, hx_li28, hx_ai28, hx_si28, hx_li29, hx_ai29, hx_si29, hx_li30, hx_ai30, hx_si30, hx_li31, hx_ai31, hx_si31, hx_li32, hx_ai32, hx_si32, hx_li33, hx_ai33, hx_si33, hx_lr4, hx_lr23, hx_sf0, hx_sf1, hx_ss1, hx_sf2, hx_ss2, hx_sf3, hx_ss3, hx_lkli, hx_lksi, sX0_isMissing z w b hg, bI_0, h0, n32_00, decide_true, Bool.true_eq_false, if_false]
    · obtain ⟨f, rfl⟩ : ∃ f, g = f + 1 := ⟨g - 1, by omega⟩
      unfold aX12_may
      rw [eX12_may]
      simp only [ob_s, ob_n, ar_I, ar_L, ar_V, hm_vI, hm_fr0, hm_li0, hm_ai0, hm_si0, hm_fi1, hm_sv1, hm_fi2, hm_sv2, hm_fi3, hm_sv3, hm_fi4, hm_sv4, hm_fi5, hm_sv5, hm_fi6, hm_sv6, hm_fi7, hm_sv7, hm_fr8, hm_li8, hm_ai8, hm_si8, hm_fr9, hm_li9, hm_ai9, hm_si9, hm_fr10, hm_li10, hm_ai10, hm_si10, hm_fr11, hm_li11, hm_ai11, hm_si11, hm_fr12, hm_li12, hm_ai12, hm_si12, hm_fr13, hm_li13, hm_ai13, hm_si13, hm_fr14, hm_li14, hm_ai14, hm_si14, hm_fi15, hm_sv15, hm_fr16, hm_li16, hm_ai16, hm_si16, hm_fr17, hm_li17, hm_ai17, hm_si17, hm_fi18, hm_sv18, hm_fi19, hm_sv19, hm_fi20, hm_sv20, hm_fi21, hm_sv21, hm_fi22, hm_sv22, hm_fi23, hm_sv23, hm_fi24, hm_sv24, hm_fr25, hm_li25, hm_ai25, hm_si25, hm_fr26, hm_li26, hm_ai26, hm_si26, hm_fr27, hm_li27, hm_ai27, hm_si27, hm_fr28, hm_li28, hm_ai28, hm_si28, hm_fl, hm_sl, sX12_lacks y v c hg, bI_0, ← e2, h0, n32_00, decide_true, Bool.true_eq_false, if_false]
  · have hsw := sX0_swapMates hg z w b hR.rg h7 hR.zx
    obtain ⟨bfM, mM, q1, q2, q3⟩ := sX12_may hg y v c h7 hR.zm (by rw [← e2]; exact h0)
    generalize q4 : gm_cpy (w 21) (w 5) n = bfX at hsw
    have ebf : ∀ i, i < n → bfX i = w 21 i ∧ bfM i = w 21 i := fun i hi => by
      rw [← q4, q1, gm_cpy_lt hi, gm_cpy_lt (show i < 7 by omega)]
      exact ⟨rfl, (hR.mt hi).symm⟩
    generalize q5 : gm_lp (gm_mst (fun a => decide (bfX a = -1)) (gm_selX (xw_mb w) bfX) n) n 0 (gm_cpy (fun _ => -1) (w 21) n) = mX at hsw
    have em : ∀ i, i < n → mX i = mM i := by
      have := gm_lp_sim (st := gm_mst (fun a => decide (bfX a = -1)) (gm_selX (xw_mb w) bfX) n) (st2 := gm_mst (fun a => decide (bfM a = -1)) (gm_selM (mw_mb v) bfM) n) (fun _ (m m2 : Nat → Int32) => ∀ i, i < n → m i = m2 i) n 0 (gm_cpy (fun _ => -1) (w 21) n) (gm_cpy (fun _ => -1) (v 11) n) (fun i hi => by rw [gm_cpy_lt hi, gm_cpy_lt hi]) (fun j m m2 _ hj hm => by
        have hjn : j < n := by omega
        have hsel : gm_fst (gm_selX (xw_mb w) bfX m j) n 0 = gm_fst (gm_selM (mw_mb v) bfM m2 j) n 0 := gm_fst_c n 0 (fun o _ ho => by
          have hon : o < n := by omega
          unfold gm_selX gm_selM
          simp only [(ebf o hon).1, (ebf o hon).2, (ebf j hjn).2, hm o hon, hR.mb hjn hon, gm_Mt_sym h7 hMt hon hjn]
          cases decide (m2 o = -1) <;> cases decide (w 21 j = nI o) <;> rfl)
        unfold gm_mst
        simp only [hsel, (ebf j hjn).1, (ebf j hjn).2, hm j hjn]
        by_cases c1 : (decide (w 21 j = -1) || !decide (m2 j = -1)) = true
        · rw [if_pos c1, if_pos c1]
          exact hm
        · rw [if_neg c1, if_neg c1]
          cases gm_fst (gm_selM (mw_mb v) bfM m2 j) n 0 with
          | none => exact hm
          | some o =>
            intro i hi
            show upd (upd m j (nI o)) o (nI j) i = upd (upd m2 j (nI o)) o (nI j) i
            by_cases d1 : i = o
            · rw [d1, upd_self, upd_self]
            · rw [upd_ne _ _ d1, upd_ne _ _ d1]
              by_cases d2 : i = j
              · rw [d2, upd_self, upd_self]
              · rw [upd_ne _ _ d2, upd_ne _ _ d2]
                exact hm i hi)
      rw [q5, ← q2] at this
      exact this
    have hM : gm_Mt n mX := by
      have := gm_lp_inv (st := gm_mst (fun a => decide (bfX a = -1)) (gm_selX (xw_mb w) bfX) n) (fun _ m => gm_Mt n m) n 0 (gm_cpy (fun _ => -1) (w 21) n) (fun j hj => Or.inl (gm_cpy_lt hj)) (fun j m _ hj h => gm_mst_Mt h7 (fun m a o h => by
        have h : (!decide (bfX o = -1) && (!decide (bfX o = nI a) && (decide (m o = -1) && xw_mb w a o))) = true := h
        rw [Bool.and_eq_true, Bool.and_eq_true, Bool.and_eq_true] at h
        refine ⟨of_decide_eq_true h.2.2.1, ?_⟩
        have h4 : (decide (¬ a = o) && _) = true := h.2.2.2
        rw [Bool.and_eq_true] at h4
        exact of_decide_eq_true h4.1) (by omega) h)
      rw [q5] at this
      exact this
    refine ⟨gm_prs mX n, n, ln, sn, va_up z 6 (z 6 + 1), va_up (va_up w 5 bfX) 21 mX, b, va_up y 6 (y 6 + 1), va_up (va_up v 12 bfM) 11 mM, c, ?_, ?_, hR.1, gm_Rd_mt hR.2.1 em hM, hR.2.2.1, ⟨hR.2.2.2.1.1, hR.2.2.2.1.2.1, hR.2.2.2.1.2.2.1, ?_⟩, hR.2.2.2.2⟩
    · have hp := sX0_pairs (va_up z 6 (z 6 + 1)) (va_up (va_up w 5 bfX) 21 mX) b hg h7 hR.zx
      obtain ⟨f, rfl⟩ : ∃ f, g = f + 1 := ⟨g - 1, by omega⟩
      unfold aX11_may
      rw [eX11_may]
      simp only [ob_s, ob_n, ar_I, ar_L, ar_V, hx_v0, hx_fr0_0, hx_fr0_1, hx_fr0_2, hx_fr0_3, hx_fr0_4, hx_fi0_5, hx_sv0_5, hx_v1, hx_fr1_0, hx_fi1_1, hx_sv1_1, hx_v3, hx_fr3_0, hx_fr3_1, hx_fi3_2, hx_sv3_2, hx_fi3_3, hx_sv3_3, hx_fi3_4, hx_sv3_4, hx_fi3_5, hx_sv3_5, hx_fi3_6, hx_sv3_6, hx_fr3_7, hx_v5, hx_fi5_0, hx_sv5_0, hx_fr5_1, hx_fr5_2, hx_fr5_3, hx_fr5_4, hx_v11, hx_fi11_0, hx_sv11_0, hx_fr11_1, hx_fr11_2, hx_fr11_3, hx_fr11_4, hx_fi11_5, hx_sv11_5, hx_fi11_6, hx_sv11_6, hx_fi11_7, hx_sv11_7, hx_fi11_8, hx_sv11_8, hx_v15, hx_fi15_0, hx_sv15_0, hx_fr15_1, hx_fr15_2, hx_fr15_3, hx_fr15_4, hx_v20, hx_fi20_0, hx_sv20_0, hx_fi20_1, hx_sv20_1, hx_fi20_2, hx_sv20_2, hx_fi20_3, hx_sv20_3, hx_fr20_4, hx_fr20_5, hx_fr20_6, hx_fr20_7, hx_fi20_8, hx_sv20_8, hx_fi20_9, hx_sv20_9, hx_fi20_10, hx_sv20_10, hx_fi20_11, hx_sv20_11, hx_v25, hx_fi25_0, hx_sv25_0, hx_fi25_1, hx_sv25_1, hx_fl, hx_sl, hx_fr25_3, hx_li2, hx_ai2, hx_si2, hx_li6, hx_ai6, hx_si6, hx_li7, hx_ai7, hx_si7, hx_li8, hx_ai8, hx_si8, hx_li9, hx_ai9, hx_si9, hx_li10, hx_ai10, hx_si10, hx_li12, hx_ai12, hx_si12, hx_li13, hx_ai13, hx_si13, hx_li14, hx_ai14, hx_si14, hx_li16, hx_ai16, hx_si16, hx_li17, hx_ai17, hx_si17, hx_li18, hx_ai18, hx_si18, hx_li19, hx_ai19, hx_si19, hx_li21, hx_ai21, hx_si21, hx_li22, hx_ai22, hx_si22, hx_li24, hx_ai24, hx_si24, hx_li26, hx_ai26, hx_si26, hx_li27, hx_ai27, hx_si27, hx_li28, hx_ai28, hx_si28, hx_li29, hx_ai29, hx_si29, hx_li30, hx_ai30, hx_si30, hx_li31, hx_ai31, hx_si31, hx_li32, hx_ai32, hx_si32, hx_li33, hx_ai33, hx_si33, hx_lr4, hx_lr23, hx_sf0, hx_sf1, hx_ss1, hx_sf2, hx_ss2, hx_sf3, hx_ss3, hx_lkli, hx_lksi, sX0_isMissing z w b hg, bI_0, h0, decide_false, if_true, hsw, hp]
      rfl
    · rw [gm_prs_c em]
      exact q3
    · show z 6 + 1 = y 6 + 1
      rw [hR.2.2.2.1.2.2.2]
end MAY
