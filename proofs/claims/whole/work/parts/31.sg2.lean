/-! sizes and looks: the reference -/
theorem i32_and1 (x : Int32) : (x &&& 1) = 0 ∨ (x &&& 1) = 1 := by
  have h : (x &&& 1).toBitVec = x.toBitVec &&& 1#32 := rfl
  rw [BitVec.and_one_eq_setWidth_ofBool_getLsbD] at h
  cases c : x.toBitVec.getLsbD 0
  · rw [c] at h
    exact Or.inl (Int32.toBitVec_inj.mp h)
  · rw [c] at h
    exact Or.inr (Int32.toBitVec_inj.mp h)
theorem nI_a3 (a : Nat) : nI a + 3 = nI (a + 3) := by
  rw [show (3 : Int32) = nI 3 from rfl, nI_add]
abbrev mw_ag (v : Nat → Nat → Int32) (a s : Nat) : Nat → Bool := gm_ag (mw_k v) (mw_h v) (v 9) (fun i => v 16 (3 * i)) (fun i => v 16 (3 * i + 1)) (fun i => v 16 (3 * i + 2)) a s
abbrev mw_lw (v : Nat → Nat → Int32) (x : Int32) (a j : Nat) : Nat := gm_lw (gm_bit x) (fun s => gm_ix (gm_lk (mw_k v) (mw_h v) (upd (v 9) a (nI s)) a j))
section SG2
variable {g : Nat}
theorem sX12_sizesIn (hg : 4000 ≤ g) (y : Nat → Int32) (v : Nat → Nat → Int32) (c : Int64) {sn : Nat} (hn : sn ≤ 8) (hz : y 15 = nI sn) (ho : ∀ i, i < sn → ∃ j : Nat, j < 7 ∧ v 16 (3 * i + 1) = nI j) (a s : Nat) (ha : a < 7) (hs : s < 10) (x : Int32) : ∀ (k i F : Nat) (p : Bool), i + k = sn → k + 1 ≤ F → ∃ F2, F = F2 + (k + 1) ∧ ah_run (kX12_sizesOf g) F 16 [(0, .ref 0), (1, .int (nI a)), (2, .int x), (3, .int (nI s)), (4, .int (bI p)), (5, .int (nI (3 * i)))] [] (hm y v c) = ah_run (kX12_sizesOf g) F2 4 [(0, .ref 0), (1, .int (nI a)), (2, .int (if (p && gm_all (mw_ag v a s) k i) = true then x ||| (1 <<< (nI s &&& 31)) else x)), (3, .int (nI (s + 1)))] [] (hm y v c) := by
  intro k
  induction k with
  | zero =>
    intro i F p hi hF
    obtain ⟨f, rfl⟩ : ∃ f, F = f + 1 := ⟨F - 1, by omega⟩
    refine ⟨f, by omega, ?_⟩
    have e : i = sn := by omega
    subst e
    simp only [rX12_sizesOf_16, ob_s, ob_n, ar_I, ar_L, ar_V, hm_vI, hm_fr0, hm_li0, hm_ai0, hm_si0, hm_fi1, hm_sv1, hm_fi2, hm_sv2, hm_fi3, hm_sv3, hm_fi4, hm_sv4, hm_fi5, hm_sv5, hm_fi6, hm_sv6, hm_fi7, hm_sv7, hm_fr8, hm_li8, hm_ai8, hm_si8, hm_fr9, hm_li9, hm_ai9, hm_si9, hm_fr10, hm_li10, hm_ai10, hm_si10, hm_fr11, hm_li11, hm_ai11, hm_si11, hm_fr12, hm_li12, hm_ai12, hm_si12, hm_fr13, hm_li13, hm_ai13, hm_si13, hm_fr14, hm_li14, hm_ai14, hm_si14, hm_fi15, hm_sv15, hm_fr16, hm_li16, hm_ai16, hm_si16, hm_fr17, hm_li17, hm_ai17, hm_si17, hm_fi18, hm_sv18, hm_fi19, hm_sv19, hm_fi20, hm_sv20, hm_fi21, hm_sv21, hm_fi22, hm_sv22, hm_fi23, hm_sv23, hm_fi24, hm_sv24, hm_fr25, hm_li25, hm_ai25, hm_si25, hm_fr26, hm_li26, hm_ai26, hm_si26, hm_fr27, hm_li27, hm_ai27, hm_si27, hm_fr28, hm_li28, hm_ai28, hm_si28, hm_fl, hm_sl, hz, nI_3, nI_ltnn (show 3 * i < 1000 by omega), if_false, gm_all_0, Bool.and_true, bI_0, nI_1, i32_or0]
    cases p
    · rw [if_pos rfl, if_neg (by decide)]
    · rw [if_neg (by decide), if_pos rfl]
  | succ k ih =>
    intro i F p hi hF
    obtain ⟨f, rfl⟩ : ∃ f, F = f + 1 := ⟨F - 1, by omega⟩
    have m1 : ah_rd (v 16) 24 (nI (3 * i)) = some (v 16 (3 * i)) := ah_rdN (by omega) (by decide)
    have m2 : ah_rd (v 16) 24 (nI (3 * i + 1)) = some (v 16 (3 * i + 1)) := ah_rdN (by omega) (by decide)
    have m3 : ah_rd (v 16) 24 (nI (3 * i + 2)) = some (v 16 (3 * i + 2)) := ah_rdN (by omega) (by decide)
    obtain ⟨j, hj, ej⟩ := ho i (by omega)
    have hl := sX12_likenessAs y v c hg a j ha hj (nI s)
    have hv : mw_ag v a s i = (!decide (v 16 (3 * i) = nI a) || decide (gm_lk (mw_k v) (mw_h v) (upd (v 9) a (nI s)) a j = v 16 (3 * i + 2))) := by
      unfold mw_ag gm_ag
      simp only [ej, nI_clamp (show j < 2 ^ 31 by omega)]
    obtain ⟨F2, h1, h2⟩ := ih (i + 1) f (p && mw_ag v a s i) (by omega) (by omega)
    refine ⟨F2, by omega, ?_⟩
    rw [gm_all_s, ← Bool.and_assoc, ← h2]
    simp only [rX12_sizesOf_16, ob_s, ob_n, ar_I, ar_L, ar_V, hm_vI, hm_fr0, hm_li0, hm_ai0, hm_si0, hm_fi1, hm_sv1, hm_fi2, hm_sv2, hm_fi3, hm_sv3, hm_fi4, hm_sv4, hm_fi5, hm_sv5, hm_fi6, hm_sv6, hm_fi7, hm_sv7, hm_fr8, hm_li8, hm_ai8, hm_si8, hm_fr9, hm_li9, hm_ai9, hm_si9, hm_fr10, hm_li10, hm_ai10, hm_si10, hm_fr11, hm_li11, hm_ai11, hm_si11, hm_fr12, hm_li12, hm_ai12, hm_si12, hm_fr13, hm_li13, hm_ai13, hm_si13, hm_fr14, hm_li14, hm_ai14, hm_si14, hm_fi15, hm_sv15, hm_fr16, hm_li16, hm_ai16, hm_si16, hm_fr17, hm_li17, hm_ai17, hm_si17, hm_fi18, hm_sv18, hm_fi19, hm_sv19, hm_fi20, hm_sv20, hm_fi21, hm_sv21, hm_fi22, hm_sv22, hm_fi23, hm_sv23, hm_fi24, hm_sv24, hm_fr25, hm_li25, hm_ai25, hm_si25, hm_fr26, hm_li26, hm_ai26, hm_si26, hm_fr27, hm_li27, hm_ai27, hm_si27, hm_fr28, hm_li28, hm_ai28, hm_si28, hm_fl, hm_sl, hz, nI_3, nI_ltin (show 3 * i < 3 * sn by omega) (show 3 * sn < 1000 by omega), if_true, m1, m2, m3, ej, hl, nI_1, nI_a2, nI_a3, bI_0, show 3 * (i + 1) = 3 * i + 3 by omega, hv]
    by_cases c1 : v 16 (3 * i) = nI a
    · by_cases c2 : gm_lk (mw_k v) (mw_h v) (upd (v 9) a (nI s)) a j = v 16 (3 * i + 2)
      · rw [if_pos c1, if_pos c2, decide_eq_true c1, decide_eq_true c2]
        cases p
        · rw [if_pos rfl]; rfl
        · rw [if_neg (by decide)]; rfl
      · rw [if_pos c1, if_neg c2, decide_eq_true c1, decide_eq_false c2]
        cases p
        · rw [if_pos rfl]; rfl
        · rw [if_neg (by decide)]; rfl
    · rw [if_neg c1, decide_eq_false c1]
      cases p <;> rfl
theorem sX12_sizesOf (hg : 4000 ≤ g) (y : Nat → Int32) (v : Nat → Nat → Int32) (c : Int64) {sn : Nat} (hn : sn ≤ 8) (hz : y 15 = nI sn) (ho : ∀ i, i < sn → ∃ j : Nat, j < 7 ∧ v 16 (3 * i + 1) = nI j) (a : Nat) (ha : a < 7) : aX12_sizesOf g [.ref 0, .int (nI a)] (hm y v c) = some (some (.int (gm_bits (fun s => gm_all (mw_ag v a s) sn 0) 10)), hm y v c) := by
  have loop := gm_loop (n := 10) 20 1 (fun F i x => ah_run (kX12_sizesOf g) F 4 [(0, .ref 0), (1, .int (nI a)), (2, .int x), (3, .int (nI i))] [] (hm y v c)) (fun x j => if gm_all (mw_ag v a j) sn 0 = true then x ||| (1 <<< (nI j &&& 31)) else x) (fun x => some (some (.int x), hm y v c)) (fun _ _ => True) (fun F x hF _ => by
      obtain ⟨f, rfl⟩ : ∃ f, F = f + 1 := ⟨F - 1, by omega⟩
      simp only [rX12_sizesOf_4, nI_lt10 (show 10 < 1000 by omega), Nat.lt_irrefl, if_false]) (fun F i x hF hi _ => by
      obtain ⟨f, rfl⟩ : ∃ f, F = f + 1 := ⟨F - 1, by omega⟩
      obtain ⟨F2, h1, h2⟩ := sX12_sizesIn hg y v c hn hz ho a i ha hi x sn 0 f true (by omega) (by omega)
      refine ⟨F2, by omega, ?_, trivial⟩
      rw [show nI (3 * 0) = 0 from rfl, bI_t, Bool.true_and] at h2
      simp only [rX12_sizesOf_4, nI_lt10 (show i < 1000 by omega), hi, if_true]
      exact h2)
  obtain ⟨f, rfl⟩ : ∃ f, g = f + 300 := ⟨g - 300, by omega⟩
  unfold aX12_sizesOf
  rw [eX12_sizesOf]
  have := loop 10 0 0 (f + 299) (by omega) trivial (by omega)
  rw [show nI 0 = 0 from rfl] at this
  exact this
theorem sX12_lookFill (y : Nat → Int32) (v : Nat → Nat → Int32) (c : Int64) (p1 x2 x3 x4 x5 : Int32) : ∀ (k i F : Nat) (t : Nat → Int32), i + k = 20 → k + 1 ≤ F → (∀ q, q < i → t q = 0) → ∃ F2 t2, F = F2 + (k + 1) ∧ (∀ q, q < 20 → t2 q = 0) ∧ ah_run (kX12_lookOf g) F 31 [(0, .ref 0), (1, .int p1), (2, .int x2), (3, .int x3), (4, .int x4), (5, .int x5), (6, .int (nI i))] [] (hm y (va_up v 17 t) c) = ah_run (kX12_lookOf g) F2 58 [(0, .ref 0), (1, .int p1), (2, .int x2), (3, .int x3), (4, .int x4), (5, .int x5), (6, .int 0), (7, .int 0)] [] (hm y (va_up v 17 t2) c) := by
  intro k
  induction k with
  | zero =>
    intro i F t hi hF ht
    obtain ⟨f, rfl⟩ : ∃ f, F = f + 1 := ⟨F - 1, by omega⟩
    have e : i = 20 := by omega
    subst e
    refine ⟨f, t, by omega, ht, ?_⟩
    simp only [rX12_lookOf_31, nI_lt20 (show 20 < 1000 by omega), Nat.lt_irrefl, if_false]
  | succ k ih =>
    intro i F t hi hF ht
    obtain ⟨f, rfl⟩ : ∃ f, F = f + 1 := ⟨F - 1, by omega⟩
    have i20 : i < 20 := by omega
    obtain ⟨F2, t2, h1, h2, h3⟩ := ih (i + 1) f (upd t i 0) (by omega) (by omega) (fun q hq => by
      by_cases e : q = i
      · rw [e, upd_self]
      · rw [upd_ne _ _ e]
        exact ht q (by omega))
    refine ⟨F2, t2, by omega, h2, ?_⟩
    rw [← h3]
    simp only [rX12_lookOf_31, ob_s, ob_n, ar_I, ar_L, ar_V, hm_vI, hm_fr0, hm_li0, hm_ai0, hm_si0, hm_fi1, hm_sv1, hm_fi2, hm_sv2, hm_fi3, hm_sv3, hm_fi4, hm_sv4, hm_fi5, hm_sv5, hm_fi6, hm_sv6, hm_fi7, hm_sv7, hm_fr8, hm_li8, hm_ai8, hm_si8, hm_fr9, hm_li9, hm_ai9, hm_si9, hm_fr10, hm_li10, hm_ai10, hm_si10, hm_fr11, hm_li11, hm_ai11, hm_si11, hm_fr12, hm_li12, hm_ai12, hm_si12, hm_fr13, hm_li13, hm_ai13, hm_si13, hm_fr14, hm_li14, hm_ai14, hm_si14, hm_fi15, hm_sv15, hm_fr16, hm_li16, hm_ai16, hm_si16, hm_fr17, hm_li17, hm_ai17, hm_si17, hm_fi18, hm_sv18, hm_fi19, hm_sv19, hm_fi20, hm_sv20, hm_fi21, hm_sv21, hm_fi22, hm_sv22, hm_fi23, hm_sv23, hm_fi24, hm_sv24, hm_fr25, hm_li25, hm_ai25, hm_si25, hm_fr26, hm_li26, hm_ai26, hm_si26, hm_fr27, hm_li27, hm_ai27, hm_si27, hm_fr28, hm_li28, hm_ai28, hm_si28, hm_fl, hm_sl, nI_lt20 (show i < 1000 by omega), i20, if_true, va_l, Nat.reduceEqDiff, reduceIte, bx_uu, nI_1]
theorem sX12_lookIn (hg : 4000 ≤ g) (y : Nat → Int32) (v : Nat → Nat → Int32) (c : Int64) (a j : Nat) (hr : ∀ s : Nat, s < 10 → (gm_lk (mw_k v) (mw_h v) (upd (v 9) a (nI s)) a j = -1 ∨ (0 ≤ (gm_lk (mw_k v) (mw_h v) (upd (v 9) a (nI s)) a j).toInt ∧ (gm_lk (mw_k v) (mw_h v) (upd (v 9) a (nI s)) a j).toInt ≤ 18))) (ha : a < 7) (hj : j < 7) (hja : ¬ j = a) (x2 x3 : Int32) (few : Nat) (hf : few ≤ 11) : ∀ (k i F : Nat) (t : Nat → Int32) (x : (Nat → Nat) × Nat), i + k = 10 → k + 1 ≤ F → (∀ q, q < 20 → t q = nI (x.1 q)) → gm_lwP i x → ∃ F2 t2, F = F2 + (k + 1) ∧ ah_run (kX12_lookOf g) F 58 [(0, .ref 0), (1, .int (nI a)), (2, .int x2), (3, .int x3), (4, .int (nI few)), (5, .int (nI j)), (6, .int (nI x.2)), (7, .int (nI i))] [] (hm y (va_up v 17 t) c) = ah_run (kX12_lookOf g) F2 151 [(0, .ref 0), (1, .int (nI a)), (2, .int x2), (4, .int (nI few)), (5, .int (nI j)), (6, .int (nI (gm_lp (gm_lws (gm_bit x2) (fun s => gm_ix (gm_lk (mw_k v) (mw_h v) (upd (v 9) a (nI s)) a j))) k i x).2))] [.int (if (gm_lp (gm_lws (gm_bit x2) (fun s => gm_ix (gm_lk (mw_k v) (mw_h v) (upd (v 9) a (nI s)) a j))) k i x).2 < few then nI j else x3)] (hm y (va_up v 17 t2) c) := by
  intro k
  induction k with
  | zero =>
    intro i F t x hi hF ht hP
    obtain ⟨f, rfl⟩ : ∃ f, F = f + 1 := ⟨F - 1, by omega⟩
    have e : i = 10 := by omega
    subst e
    refine ⟨f, t, by omega, ?_⟩
    have hP2 := hP.2
    simp only [rX12_lookOf_58, nI_lt10 (show 10 < 1000 by omega), Nat.lt_irrefl, if_false, nI_eqi (show j < 1000 by omega) (show a < 1000 by omega), hja, nI_lti (show x.2 < 1000 by omega) (show few < 1000 by omega)]
    show _ = ah_run (kX12_lookOf g) f 151 [(0, .ref 0), (1, .int (nI a)), (2, .int x2), (4, .int (nI few)), (5, .int (nI j)), (6, .int (nI x.2))] [.int (if x.2 < few then nI j else x3)] (hm y (va_up v 17 t) c)
    by_cases c1 : x.2 < few
    · rw [if_pos c1, if_pos c1]
    · rw [if_neg c1, if_neg c1]
  | succ k ih =>
    intro i F t x hi hF ht hP
    obtain ⟨f, rfl⟩ : ∃ f, F = f + 1 := ⟨F - 1, by omega⟩
    have hl := sX12_likenessAs y (va_up v 17 t) c hg a j ha hj (nI i)
    have hmk : mw_k (va_up v 17 t) = mw_k v := rfl
    have hmh : mw_h (va_up v 17 t) = mw_h v := rfl
    rw [hmk, hmh] at hl
    simp only [va_l, Nat.reduceEqDiff, reduceIte] at hl
    have hra := hr i (by omega)
    obtain ⟨⟨-, x1⟩, x20⟩ := gm_ixs hra
    generalize hq : gm_ix (gm_lk (mw_k v) (mw_h v) (upd (v 9) a (nI i)) a j) = q at x1 x20
    have hP1 := hP.1 q
    have hP2 := hP.2
    have m1 : ∀ f : Nat → Int32, ah_rd f 20 (nI q) = some (f q) := fun f => ah_rdN x20 (by decide)
    rw [gm_lp_s]
    simp only [rX12_lookOf_58, ob_s, ob_n, ar_I, ar_L, ar_V, hm_vI, hm_fr0, hm_li0, hm_ai0, hm_si0, hm_fi1, hm_sv1, hm_fi2, hm_sv2, hm_fi3, hm_sv3, hm_fi4, hm_sv4, hm_fi5, hm_sv5, hm_fi6, hm_sv6, hm_fi7, hm_sv7, hm_fr8, hm_li8, hm_ai8, hm_si8, hm_fr9, hm_li9, hm_ai9, hm_si9, hm_fr10, hm_li10, hm_ai10, hm_si10, hm_fr11, hm_li11, hm_ai11, hm_si11, hm_fr12, hm_li12, hm_ai12, hm_si12, hm_fr13, hm_li13, hm_ai13, hm_si13, hm_fr14, hm_li14, hm_ai14, hm_si14, hm_fi15, hm_sv15, hm_fr16, hm_li16, hm_ai16, hm_si16, hm_fr17, hm_li17, hm_ai17, hm_si17, hm_fi18, hm_sv18, hm_fi19, hm_sv19, hm_fi20, hm_sv20, hm_fi21, hm_sv21, hm_fi22, hm_sv22, hm_fi23, hm_sv23, hm_fi24, hm_sv24, hm_fr25, hm_li25, hm_ai25, hm_si25, hm_fr26, hm_li26, hm_ai26, hm_si26, hm_fr27, hm_li27, hm_ai27, hm_si27, hm_fr28, hm_li28, hm_ai28, hm_si28, hm_fl, hm_sl, nI_lt10 (show i < 1000 by omega), show i < 10 by omega, if_true, nI_eqi (show j < 1000 by omega) (show a < 1000 by omega), hja, if_false, hl, x1, va_l, Nat.reduceEqDiff, reduceIte, m1, x20, bx_uu, upd_self, ht q x20, nI_1]
    rcases i32_and1 (x2 >>> (nI i &&& 31)) with c1 | c1
    · have hb : ¬ gm_bit x2 i = true := by
        unfold gm_bit
        rw [c1]
        decide
      have hst : gm_lws (gm_bit x2) (fun s => gm_ix (gm_lk (mw_k v) (mw_h v) (upd (v 9) a (nI s)) a j)) x i = x := if_neg hb
      rw [hst, c1, i32_a0]
      simp only [nI_lti (show x.2 < 1000 by omega) (show x.1 q < 1000 by omega), show ¬ x.2 < x.1 q by omega, if_false]
      obtain ⟨F2, t2, h1, h2⟩ := ih (i + 1) f (upd t q (nI (x.1 q))) x (by omega) (by omega) (fun p hp => by
        by_cases e : p = q
        · rw [e, upd_self]
        · rw [upd_ne _ _ e]
          exact ht p hp) ⟨hP.1, by omega⟩
      exact ⟨F2, t2, by omega, h2⟩
    · have hb : gm_bit x2 i = true := decide_eq_true c1
      have hst : gm_lws (gm_bit x2) (fun s => gm_ix (gm_lk (mw_k v) (mw_h v) (upd (v 9) a (nI s)) a j)) x i = (fun a => if a = q then x.1 a + 1 else x.1 a, if x.2 < x.1 q + 1 then x.1 q + 1 else x.2) := by
        unfold gm_lws
        rw [if_pos hb]
        simp only [hq]
      have hP3 := gm_lws_P (bit := gm_bit x2) (ix := fun s => gm_ix (gm_lk (mw_k v) (mw_h v) (upd (v 9) a (nI s)) a j)) hP
      rw [hst] at hP3 ⊢
      rw [c1]
      simp only [nI_1, nI_lti (show x.2 < 1000 by omega) (show x.1 q + 1 < 1000 by omega)]
      obtain ⟨F2, t2, h1, h2⟩ := ih (i + 1) f (upd t q (nI (x.1 q + 1))) (fun a => if a = q then x.1 a + 1 else x.1 a, if x.2 < x.1 q + 1 then x.1 q + 1 else x.2) (by omega) (by omega) (fun p hp => by
        by_cases e : p = q
        · rw [e, upd_self]
          dsimp only
          rw [if_pos rfl]
        · rw [upd_ne _ _ e]
          dsimp only
          rw [if_neg e]
          exact ht p hp) hP3
      refine ⟨F2, t2, by omega, ?_⟩
      rw [← h2]
      dsimp only
      by_cases c2 : x.2 < x.1 q + 1
      · rw [if_pos c2, if_pos c2]
      · rw [if_neg c2, if_neg c2]
theorem sX12_lookOf (hg : 4000 ≤ g) (y : Nat → Int32) (v : Nat → Nat → Int32) (c : Int64) {n sn : Nat} (a : Nat) (hr : ∀ j s : Nat, j < n → s < 10 → (gm_lk (mw_k v) (mw_h v) (upd (v 9) a (nI s)) a j = -1 ∨ (0 ≤ (gm_lk (mw_k v) (mw_h v) (upd (v 9) a (nI s)) a j).toInt ∧ (gm_lk (mw_k v) (mw_h v) (upd (v 9) a (nI s)) a j).toInt ≤ 18))) (hn : n ≤ 7) (hz2 : y 2 = nI n) (hsn : sn ≤ 8) (hz : y 15 = nI sn) (ho : ∀ i, i < sn → ∃ j : Nat, j < 7 ∧ v 16 (3 * i + 1) = nI j) (ha : a < 7) (x2 : Int32) (hx2 : gm_bits (fun s => gm_all (mw_ag v a s) sn 0) 10 = x2) : ∃ t, aX12_lookOf g [.ref 0, .int (nI a)] (hm y v c) = some (some (.int (if x2 = 0 then -1 else (gm_lp (gm_los a (mw_lw v x2 a)) n 0 (-1, 11)).1)), hm y (va_up v 17 t) c) := by
  have loop : ¬ x2 = 0 → ∀ (k i F : Nat) (t : Nat → Int32) (x : Int32 × Nat), i + k = n → 40 * k + 1 ≤ F → x.2 ≤ 11 → ∃ t2, ah_run (kX12_lookOf g) F 15 [(0, .ref 0), (1, .int (nI a)), (2, .int x2), (3, .int x.1), (4, .int (nI x.2)), (5, .int (nI i))] [] (hm y (va_up v 17 t) c) = some (some (.int (gm_lp (gm_los a (mw_lw v x2 a)) k i x).1), hm y (va_up v 17 t2) c) := by
    intro c0 k
    induction k with
    | zero =>
      intro i F t x hi hF hP
      obtain ⟨f, rfl⟩ : ∃ f, F = f + 1 := ⟨F - 1, by omega⟩
      have e : i = n := by omega
      subst e
      refine ⟨t, ?_⟩
      simp only [rX12_lookOf_15, ob_s, ob_n, ar_I, ar_L, ar_V, hm_vI, hm_fr0, hm_li0, hm_ai0, hm_si0, hm_fi1, hm_sv1, hm_fi2, hm_sv2, hm_fi3, hm_sv3, hm_fi4, hm_sv4, hm_fi5, hm_sv5, hm_fi6, hm_sv6, hm_fi7, hm_sv7, hm_fr8, hm_li8, hm_ai8, hm_si8, hm_fr9, hm_li9, hm_ai9, hm_si9, hm_fr10, hm_li10, hm_ai10, hm_si10, hm_fr11, hm_li11, hm_ai11, hm_si11, hm_fr12, hm_li12, hm_ai12, hm_si12, hm_fr13, hm_li13, hm_ai13, hm_si13, hm_fr14, hm_li14, hm_ai14, hm_si14, hm_fi15, hm_sv15, hm_fr16, hm_li16, hm_ai16, hm_si16, hm_fr17, hm_li17, hm_ai17, hm_si17, hm_fi18, hm_sv18, hm_fi19, hm_sv19, hm_fi20, hm_sv20, hm_fi21, hm_sv21, hm_fi22, hm_sv22, hm_fi23, hm_sv23, hm_fi24, hm_sv24, hm_fr25, hm_li25, hm_ai25, hm_si25, hm_fr26, hm_li26, hm_ai26, hm_si26, hm_fr27, hm_li27, hm_ai27, hm_si27, hm_fr28, hm_li28, hm_ai28, hm_si28, hm_fl, hm_sl, hz2, nI_ltnn (show i < 1000 by omega), if_false]
      rfl
    | succ k ih =>
      intro i F t x hi hF hP
      obtain ⟨f, rfl⟩ : ∃ f, F = f + 1 := ⟨F - 1, by omega⟩
      obtain ⟨F2, t2, h1, h2, h3⟩ := sX12_lookFill (g := g) y v c (nI a) x2 x.1 (nI x.2) (nI i) 20 0 f t (by omega) (by omega) (fun q hq => by omega)
      rw [show nI 0 = 0 from rfl] at h3
      simp only [rX12_lookOf_15, ob_s, ob_n, ar_I, ar_L, ar_V, hm_vI, hm_fr0, hm_li0, hm_ai0, hm_si0, hm_fi1, hm_sv1, hm_fi2, hm_sv2, hm_fi3, hm_sv3, hm_fi4, hm_sv4, hm_fi5, hm_sv5, hm_fi6, hm_sv6, hm_fi7, hm_sv7, hm_fr8, hm_li8, hm_ai8, hm_si8, hm_fr9, hm_li9, hm_ai9, hm_si9, hm_fr10, hm_li10, hm_ai10, hm_si10, hm_fr11, hm_li11, hm_ai11, hm_si11, hm_fr12, hm_li12, hm_ai12, hm_si12, hm_fr13, hm_li13, hm_ai13, hm_si13, hm_fr14, hm_li14, hm_ai14, hm_si14, hm_fi15, hm_sv15, hm_fr16, hm_li16, hm_ai16, hm_si16, hm_fr17, hm_li17, hm_ai17, hm_si17, hm_fi18, hm_sv18, hm_fi19, hm_sv19, hm_fi20, hm_sv20, hm_fi21, hm_sv21, hm_fi22, hm_sv22, hm_fi23, hm_sv23, hm_fi24, hm_sv24, hm_fr25, hm_li25, hm_ai25, hm_si25, hm_fr26, hm_li26, hm_ai26, hm_si26, hm_fr27, hm_li27, hm_ai27, hm_si27, hm_fr28, hm_li28, hm_ai28, hm_si28, hm_fl, hm_sl, hz2, nI_ltin (show i < n by omega) (show n < 1000 by omega), if_true, c0, if_false, h3]
      rw [gm_lp_s]
      by_cases c1 : i = a
      · have hst : ∀ lw, gm_los a lw x i = x := fun lw => if_pos c1
        rw [hst]
        obtain ⟨f3, rfl⟩ : ∃ f3, F2 = f3 + 1 + 1 := ⟨F2 - 2, by omega⟩
        have e0 : ((0 : Int32) < 10) = True := eq_true (by decide)
        simp only [rX12_lookOf_58, e0, if_true, nI_eqi (show i < 1000 by omega) (show a < 1000 by omega), eq_true c1, rX12_lookOf_151, nI_1]
        exact ih (i + 1) f3 t2 x (by omega) (by omega) hP
      · have hst : ∀ lw : Nat → Nat, gm_los a lw x i = if lw i < x.2 then (nI i, lw i) else x := fun lw => if_neg c1
        obtain ⟨F3, t3, h4, h5⟩ := sX12_lookIn hg y v c a i (fun s hs => hr i s (by omega) hs) ha (by omega) c1 x2 x.1 x.2 hP 10 0 F2 t2 (fun _ => 0, 0) (by omega) (by omega) (fun q hq => h2 q hq) ⟨fun _ => Nat.le_refl _, Nat.le_refl _⟩
        rw [show nI 0 = 0 from rfl] at h5
        have hw : mw_lw v x2 a i ≤ 10 := gm_lw_le _ _
        obtain ⟨f3, rfl⟩ : ∃ f3, F3 = f3 + 1 := ⟨F3 - 1, by omega⟩
        rw [hst, h5]
        change ∃ t2, ah_run (kX12_lookOf g) (f3 + 1) 151 [(0, .ref 0), (1, .int (nI a)), (2, .int x2), (4, .int (nI x.2)), (5, .int (nI i)), (6, .int (nI (mw_lw v x2 a i)))] [.int (if mw_lw v x2 a i < x.2 then nI i else x.1)] (hm y (va_up v 17 t3) c) = _
        generalize mw_lw v x2 a i = L at hw ⊢
        simp only [rX12_lookOf_151, nI_eqi (show i < 1000 by omega) (show a < 1000 by omega), c1, if_false, nI_lti (show L < 1000 by omega) (show x.2 < 1000 by omega), nI_1]
        by_cases c2 : L < x.2
        · rw [if_pos c2, if_pos c2, if_pos c2]
          exact ih (i + 1) f3 t3 (nI i, L) (by omega) (by omega) (by dsimp only; omega)
        · rw [if_neg c2, if_neg c2, if_neg c2]
          exact ih (i + 1) f3 t3 x (by omega) (by omega) hP
  have hso := sX12_sizesOf hg y v c hsn hz ho a ha
  rw [hx2] at hso
  by_cases c0 : x2 = 0
  · refine ⟨v 17, ?_⟩
    rw [gm_up_id, if_pos c0]
    obtain ⟨f, rfl⟩ : ∃ f, g = f + 20 := ⟨g - 20, by omega⟩
    unfold aX12_lookOf
    rw [eX12_lookOf]
    simp only [ob_s, ob_n, ar_I, ar_L, ar_V, hm_vI, hm_fr0, hm_li0, hm_ai0, hm_si0, hm_fi1, hm_sv1, hm_fi2, hm_sv2, hm_fi3, hm_sv3, hm_fi4, hm_sv4, hm_fi5, hm_sv5, hm_fi6, hm_sv6, hm_fi7, hm_sv7, hm_fr8, hm_li8, hm_ai8, hm_si8, hm_fr9, hm_li9, hm_ai9, hm_si9, hm_fr10, hm_li10, hm_ai10, hm_si10, hm_fr11, hm_li11, hm_ai11, hm_si11, hm_fr12, hm_li12, hm_ai12, hm_si12, hm_fr13, hm_li13, hm_ai13, hm_si13, hm_fr14, hm_li14, hm_ai14, hm_si14, hm_fi15, hm_sv15, hm_fr16, hm_li16, hm_ai16, hm_si16, hm_fr17, hm_li17, hm_ai17, hm_si17, hm_fi18, hm_sv18, hm_fi19, hm_sv19, hm_fi20, hm_sv20, hm_fi21, hm_sv21, hm_fi22, hm_sv22, hm_fi23, hm_sv23, hm_fi24, hm_sv24, hm_fr25, hm_li25, hm_ai25, hm_si25, hm_fr26, hm_li26, hm_ai26, hm_si26, hm_fr27, hm_li27, hm_ai27, hm_si27, hm_fr28, hm_li28, hm_ai28, hm_si28, hm_fl, hm_sl, hso, rX12_lookOf_15, c0, if_true, ite_self]
  · obtain ⟨t2, h2⟩ := loop c0 n 0 (g - 1) (v 17) (-1, 11) (by omega) (by omega) (by omega)
    refine ⟨t2, ?_⟩
    rw [gm_up_id] at h2
    rw [if_neg c0]
    obtain ⟨f, rfl⟩ : ∃ f, g = f + 20 := ⟨g - 20, by omega⟩
    unfold aX12_lookOf
    rw [eX12_lookOf]
    simp only [ob_s, ob_n, ar_I, ar_L, ar_V, hm_vI, hm_fr0, hm_li0, hm_ai0, hm_si0, hm_fi1, hm_sv1, hm_fi2, hm_sv2, hm_fi3, hm_sv3, hm_fi4, hm_sv4, hm_fi5, hm_sv5, hm_fi6, hm_sv6, hm_fi7, hm_sv7, hm_fr8, hm_li8, hm_ai8, hm_si8, hm_fr9, hm_li9, hm_ai9, hm_si9, hm_fr10, hm_li10, hm_ai10, hm_si10, hm_fr11, hm_li11, hm_ai11, hm_si11, hm_fr12, hm_li12, hm_ai12, hm_si12, hm_fr13, hm_li13, hm_ai13, hm_si13, hm_fr14, hm_li14, hm_ai14, hm_si14, hm_fi15, hm_sv15, hm_fr16, hm_li16, hm_ai16, hm_si16, hm_fr17, hm_li17, hm_ai17, hm_si17, hm_fi18, hm_sv18, hm_fi19, hm_sv19, hm_fi20, hm_sv20, hm_fi21, hm_sv21, hm_fi22, hm_sv22, hm_fi23, hm_sv23, hm_fi24, hm_sv24, hm_fr25, hm_li25, hm_ai25, hm_si25, hm_fr26, hm_li26, hm_ai26, hm_si26, hm_fr27, hm_li27, hm_ai27, hm_si27, hm_fr28, hm_li28, hm_ai28, hm_si28, hm_fl, hm_sl, hso]
    rw [show f + 20 - 1 = f + 19 by omega, show nI 0 = 0 from rfl, show nI 11 = 11 from rfl] at h2
    exact h2
end SG2
