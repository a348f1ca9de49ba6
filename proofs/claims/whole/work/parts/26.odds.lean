/-! odds -/
/-- counted in Nat: those that may be paired, and all twos, of those alone -/
def gm_on1 (mb : Nat → Nat → Bool) (u : Nat → Bool) (n a : Nat) (x : Nat × Nat) : Nat × Nat := gm_lp (fun (x : Nat × Nat) j => if (u a && u j) = true then (if mb a j = true then x.1 + 1 else x.1, x.2 + 1) else x) (n - (a + 1)) (a + 1) x
def gm_onn (mb : Nat → Nat → Bool) (u : Nat → Bool) (n : Nat) : Nat × Nat := gm_lp (fun x a => gm_on1 mb u n a x) n 0 (0, 0)
theorem gm_od_n (mb : Nat → Nat → Bool) (mt : Nat → Int32) (n : Nat) : gm_od mb mt n = (nI (gm_onn mb (fun j => decide (mt j = -1)) n).1, nI (gm_onn mb (fun j => decide (mt j = -1)) n).2) := by
  refine gm_lp_sim (fun _ (x : Int32 × Int32) (t : Nat × Nat) => x = (nI t.1, nI t.2)) n 0 (0, 0) (0, 0) rfl (fun a x t _ _ h => ?_)
  unfold gm_od1 gm_on1
  refine gm_lp_sim (fun _ (x : Int32 × Int32) (t : Nat × Nat) => x = (nI t.1, nI t.2)) (n - (a + 1)) (a + 1) x t h (fun j x t _ _ h => ?_)
  rw [h]
  by_cases c1 : (decide (mt a = -1) && decide (mt j = -1)) = true <;> by_cases c2 : mb a j = true <;> simp [c1, c2, nI_1]
theorem gm_onn_le (mb : Nat → Nat → Bool) (u : Nat → Bool) (n : Nat) : (gm_onn mb u n).1 ≤ (gm_onn mb u n).2 := by
  refine gm_lp_inv (fun _ (t : Nat × Nat) => t.1 ≤ t.2) n 0 (0, 0) (Nat.le_refl _) (fun a t _ _ h => ?_)
  unfold gm_on1
  refine gm_lp_inv (fun _ (t : Nat × Nat) => t.1 ≤ t.2) (n - (a + 1)) (a + 1) t h (fun j t _ _ h => ?_)
  by_cases c1 : (u a && u j) = true
  · rw [if_pos c1]
    show (if mb a j = true then t.1 + 1 else t.1) ≤ t.2 + 1
    split <;> omega
  · rw [if_neg c1]; exact h
def gm_cu (u : Nat → Bool) (n : Nat) : Nat := gm_lp (fun (x : Nat) j => if u j = true then x + 1 else x) n 0 0
def gm_al2 (u : Nat → Bool) (n : Nat) : Nat := gm_lp (fun x a => gm_lp (fun (x : Nat) j => if (u a && u j) = true then x + 1 else x) (n - (a + 1)) (a + 1) x) n 0 0
theorem gm_onn_2 (mb : Nat → Nat → Bool) (u : Nat → Bool) (n : Nat) : (gm_onn mb u n).2 = gm_al2 u n := by
  refine gm_lp_sim (fun _ (x : Nat × Nat) (t : Nat) => x.2 = t) n 0 (0, 0) 0 rfl (fun a x t _ _ h => ?_)
  unfold gm_on1
  refine gm_lp_sim (fun _ (x : Nat × Nat) (t : Nat) => x.2 = t) (n - (a + 1)) (a + 1) x t h (fun j x t _ _ h => ?_)
  rw [← h]
  by_cases c1 : (u a && u j) = true
  · rw [if_pos c1, if_pos c1]
  · rw [if_neg c1, if_neg c1]
def gm_uf (a b c d e f g : Bool) : Nat → Bool := fun j => match j with
  | 0 => a
  | 1 => b
  | 2 => c
  | 3 => d
  | 4 => e
  | 5 => f
  | _ => g
theorem gm_c2 : ∀ (a b c d e f g : Bool) (n : Fin 8), gm_al2 (gm_uf a b c d e f g) n.val = gm_cu (gm_uf a b c d e f g) n.val * (gm_cu (gm_uf a b c d e f g) n.val - 1) / 2 := by decide +kernel
theorem gm_uf_c (u : Nat → Bool) {j : Nat} (hj : j < 7) : gm_uf (u 0) (u 1) (u 2) (u 3) (u 4) (u 5) (u 6) j = u j := hx_7 (P := fun j => gm_uf (u 0) (u 1) (u 2) (u 3) (u 4) (u 5) (u 6) j = u j) rfl rfl rfl rfl rfl rfl rfl hj
theorem gm_c2u (u : Nat → Bool) {n : Nat} (hn : n ≤ 7) : gm_al2 u n = gm_cu u n * (gm_cu u n - 1) / 2 := by
  have e1 : gm_al2 u n = gm_al2 (gm_uf (u 0) (u 1) (u 2) (u 3) (u 4) (u 5) (u 6)) n := gm_lp_c (fun x a _ ha => gm_lp_c (fun x j h1 h2 => by rw [gm_uf_c u (show a < 7 by omega), gm_uf_c u (show j < 7 by omega)]))
  have e2 : gm_cu u n = gm_cu (gm_uf (u 0) (u 1) (u 2) (u 3) (u 4) (u 5) (u 6)) n := gm_lp_c (fun x j _ h2 => by rw [gm_uf_c u (show j < 7 by omega)])
  rw [e1, e2]
  exact gm_c2 _ _ _ _ _ _ _ ⟨n, by omega⟩
theorem gm_cu_le (u : Nat → Bool) (n : Nat) : gm_cu u n ≤ n := by
  have := gm_lp_inv (st := fun (x : Nat) j => if u j = true then x + 1 else x) (fun j x => x ≤ j) n 0 0 (Nat.le_refl _) (fun j x _ _ h => by
    split <;> omega)
  rw [Nat.zero_add] at this
  exact this
theorem gm_add2 (p q r : Nat → Bool) : ∀ (k i : Nat) (a b : Int32) (c : Nat), a + b = nI c → (∀ j, i ≤ j → j < i + k → (p j = true ∧ q j = false ∧ r j = true) ∨ (p j = false ∧ q j = true ∧ r j = true) ∨ (p j = false ∧ q j = false ∧ r j = false)) → gm_lp (fun (x : Int32) j => if p j = true then x + 1 else x) k i a + gm_lp (fun (x : Int32) j => if q j = true then x + 1 else x) k i b = nI (gm_lp (fun (x : Nat) j => if r j = true then x + 1 else x) k i c)
  | 0, _, _, _, _, h, _ => h
  | k + 1, i, a, b, c, h, hs => by
    rw [gm_lp_s, gm_lp_s, gm_lp_s]
    refine gm_add2 p q r k (i + 1) _ _ _ ?_ (fun j h1 h2 => hs j (by omega) (by omega))
    rcases hs i (by omega) (by omega) with ⟨h1, h2, h3⟩ | ⟨h1, h2, h3⟩ | ⟨h1, h2, h3⟩
    · simp only [h1, h2, h3, if_true, Bool.false_eq_true, if_false]
      rw [← nI_1, ← h, Int32.add_assoc, Int32.add_assoc, Int32.add_comm 1 b]
    · simp only [h1, h2, h3, if_true, Bool.false_eq_true, if_false]
      rw [← nI_1, ← h, Int32.add_assoc]
    · simp only [h1, h2, h3, Bool.false_eq_true, if_false]
      exact h
theorem gm_al01 {hd mt : Nat → Int32} {n : Nat} (hh : ∀ i, i < n → hd i = 0 ∨ hd i = 1) : gm_al hd mt n 0 + gm_al hd mt n 1 = nI (gm_cu (fun j => decide (mt j = -1)) n) := by
  refine gm_add2 (fun j => decide (mt j = -1) && decide (hd j = 0)) (fun j => decide (mt j = -1) && decide (hd j = 1)) (fun j => decide (mt j = -1)) n 0 0 0 0 rfl (fun j _ hj => ?_)
  by_cases c : mt j = -1
  · rcases hh j (by omega) with e | e
    · left; simp [c, e]
    · right; left; simp [c, e]
  · right; right; simp [c]
theorem gm_sq : ∀ m : Fin 8, nI m.val * (nI m.val - 1) / 2 = nI (m.val * (m.val - 1) / 2) := by decide +kernel
/-- counted down -/
def gm_cd : Nat → Nat → Nat → Nat
  | 0, _, _ => 1
  | d + 1, a, c => if 0 < d then (if a % (d + 1) = 0 ∧ c % (d + 1) = 0 then d + 1 else gm_cd d a c) else 1
theorem gm_cdg : ∀ a c : Fin 22, a.val ≤ c.val → 0 < c.val → gm_cd c.val a.val c.val = gm_gcd 100 c.val a.val ∧ 0 < gm_gcd 100 c.val a.val ∧ gm_gcd 100 c.val a.val ≤ 21 := by decide +kernel
section PR7
variable {g : Nat}
theorem sX11_commonDivisor (hg : 4000 ≤ g) (a c : Nat) (ha : a < 100) (hc : c < 100) (h : ah_H) : aX11_commonDivisor g [.int (nI a), .int (nI c)] h = some (some (.int (nI (gm_cd c a c))), h) := by
  have loop : ∀ (d F : Nat), d < 100 → d + 1 ≤ F → ah_run (kX11_commonDivisor g) F 2 [(0, .int (nI a)), (1, .int (nI c)), (2, .int (nI d))] [] h = some (some (.int (nI (gm_cd d a c))), h) := by
    intro d
    induction d with
    | zero =>
      intro F _ hF
      obtain ⟨f, rfl⟩ : ∃ f, F = f + 1 := ⟨F - 1, by omega⟩
      rw [rX11_commonDivisor_2, if_neg (by rw [i32_lt, nI_toInt (by omega), show (1 : Int32).toInt = 1 from rfl]; omega)]
      rfl
    | succ d ih =>
      intro F hd hF
      obtain ⟨f, rfl⟩ : ∃ f, F = f + 1 := ⟨F - 1, by omega⟩
      rw [rX11_commonDivisor_2]
      unfold gm_cd
      by_cases c0 : 0 < d
      · rw [if_pos (by rw [i32_lt, nI_toInt (by omega), show (1 : Int32).toInt = 1 from rfl]; omega), if_pos c0]
        have n0 : ¬ nI (d + 1) = 0 := fun z => by rw [show (0 : Int32) = nI 0 from rfl, nI_eqi (by omega) (by omega)] at z; omega
        have e1 : nI a - nI a / nI (d + 1) * nI (d + 1) = nI (a % (d + 1)) := pk_rem (by omega) (by omega) (by omega)
        have e2 : nI c - nI c / nI (d + 1) * nI (d + 1) = nI (c % (d + 1)) := pk_rem (by omega) (by omega) (by omega)
        have l1 := Nat.mod_lt a (show 0 < d + 1 by omega)
        have l2 := Nat.mod_lt c (show 0 < d + 1 by omega)
        have z1 : (nI (a % (d + 1)) = 0) = (a % (d + 1) = 0) := nI_eqi (b := 0) (by omega) (by omega)
        have z2 : (nI (c % (d + 1)) = 0) = (c % (d + 1) = 0) := nI_eqi (b := 0) (by omega) (by omega)
        have e3 : nI (d + 1) + (-1) = nI d := pk_m1 d
        simp only [n0, if_false, e1, e2, z1, z2, e3]
        by_cases d1 : a % (d + 1) = 0
        · by_cases d2 : c % (d + 1) = 0
          · simp only [d1, d2, if_true, and_self]
          · simp only [d1, d2, if_true, if_false, and_false]
            exact ih f (by omega) (by omega)
        · simp only [d1, if_false, false_and]
          exact ih f (by omega) (by omega)
      · rw [if_neg (by rw [i32_lt, nI_toInt (by omega), show (1 : Int32).toInt = 1 from rfl]; omega), if_neg c0]
        rfl
  obtain ⟨f, rfl⟩ : ∃ f, g = f + 200 := ⟨g - 200, by omega⟩
  unfold aX11_commonDivisor
  rw [eX11_commonDivisor]
  exact loop c (f + 199) hc (by omega)
theorem sX12_oddsIn (hg : 4000 ≤ g) (y : Nat → Int32) (v : Nat → Nat → Int32) (c : Int64) {n : Nat} (hn : n ≤ 7) (hz : y 2 = nI n) (p : Int32) (a : Nat) (ha : a < n) : ∀ (k j F : Nat) (x : Int32 × Int32), j + k = n → 2 * k + 1 ≤ F → ∃ F2, F = F2 + (2 * k + 1) ∧ ah_run (kX12_oddsOf g) F 22 [(0, .ref 0), (1, .int p), (2, .int x.1), (3, .int x.2), (4, .int (nI a)), (5, .int (nI j))] [] (hm y v c) = ah_run (kX12_oddsOf g) F2 7 [(0, .ref 0), (1, .int p), (2, .int (gm_lp (fun (x : Int32 × Int32) j => if (decide (v 11 a = -1) && decide (v 11 j = -1)) = true then (if mw_mb v a j = true then x.1 + 1 else x.1, x.2 + 1) else x) k j x).1), (3, .int (gm_lp (fun (x : Int32 × Int32) j => if (decide (v 11 a = -1) && decide (v 11 j = -1)) = true then (if mw_mb v a j = true then x.1 + 1 else x.1, x.2 + 1) else x) k j x).2), (4, .int (nI (a + 1)))] [] (hm y v c) := by
  intro k
  induction k with
  | zero =>
    intro j F x hj hF
    obtain ⟨f, rfl⟩ : ∃ f, F = f + 1 := ⟨F - 1, by omega⟩
    refine ⟨f, by omega, ?_⟩
    have e : j = n := by omega
    subst e
    simp only [rX12_oddsOf_22, Option.bind_some, Option.bind_none, ah_rI_s, ah_rL_s, ah_rV_s, hm_vI, hm_fr0, hm_li0, hm_ai0, hm_si0, hm_fi1, hm_sv1, hm_fi2, hm_sv2, hm_fi3, hm_sv3, hm_fi4, hm_sv4, hm_fi5, hm_sv5, hm_fi6, hm_sv6, hm_fi7, hm_sv7, hm_fr8, hm_li8, hm_ai8, hm_si8, hm_fr9, hm_li9, hm_ai9, hm_si9, hm_fr10, hm_li10, hm_ai10, hm_si10, hm_fr11, hm_li11, hm_ai11, hm_si11, hm_fr12, hm_li12, hm_ai12, hm_si12, hm_fr13, hm_li13, hm_ai13, hm_si13, hm_fr14, hm_li14, hm_ai14, hm_si14, hm_fi15, hm_sv15, hm_fr16, hm_li16, hm_ai16, hm_si16, hm_fr17, hm_li17, hm_ai17, hm_si17, hm_fi18, hm_sv18, hm_fi19, hm_sv19, hm_fi20, hm_sv20, hm_fi21, hm_sv21, hm_fi22, hm_sv22, hm_fi23, hm_sv23, hm_fi24, hm_sv24, hm_fr25, hm_li25, hm_ai25, hm_si25, hm_fr26, hm_li26, hm_ai26, hm_si26, hm_fr27, hm_li27, hm_ai27, hm_si27, hm_fr28, hm_li28, hm_ai28, hm_si28, hm_fl, hm_sl, hz, nI_ltnn (show j < 1000 by omega), if_false, nI_1]
    rfl
  | succ k ih =>
    intro j F x hj hF
    obtain ⟨f, rfl⟩ : ∃ f, F = f + 1 + 1 := ⟨F - 2, by omega⟩
    have m1 : ah_rd (v 11) 7 (nI a) = some (v 11 a) := ah_rdN (by omega) (by decide)
    have m2 : ah_rd (v 11) 7 (nI j) = some (v 11 j) := ah_rdN (by omega) (by decide)
    obtain ⟨F2, h1, h2⟩ := ih (j + 1) f (if (decide (v 11 a = -1) && decide (v 11 j = -1)) = true then (if mw_mb v a j = true then x.1 + 1 else x.1, x.2 + 1) else x) (by omega) (by omega)
    refine ⟨F2, by omega, ?_⟩
    rw [gm_lp_s, ← h2]
    simp only [rX12_oddsOf_22, rX12_oddsOf_58, Option.bind_some, Option.bind_none, ah_rI_s, ah_rL_s, ah_rV_s, hm_vI, hm_fr0, hm_li0, hm_ai0, hm_si0, hm_fi1, hm_sv1, hm_fi2, hm_sv2, hm_fi3, hm_sv3, hm_fi4, hm_sv4, hm_fi5, hm_sv5, hm_fi6, hm_sv6, hm_fi7, hm_sv7, hm_fr8, hm_li8, hm_ai8, hm_si8, hm_fr9, hm_li9, hm_ai9, hm_si9, hm_fr10, hm_li10, hm_ai10, hm_si10, hm_fr11, hm_li11, hm_ai11, hm_si11, hm_fr12, hm_li12, hm_ai12, hm_si12, hm_fr13, hm_li13, hm_ai13, hm_si13, hm_fr14, hm_li14, hm_ai14, hm_si14, hm_fi15, hm_sv15, hm_fr16, hm_li16, hm_ai16, hm_si16, hm_fr17, hm_li17, hm_ai17, hm_si17, hm_fi18, hm_sv18, hm_fi19, hm_sv19, hm_fi20, hm_sv20, hm_fi21, hm_sv21, hm_fi22, hm_sv22, hm_fi23, hm_sv23, hm_fi24, hm_sv24, hm_fr25, hm_li25, hm_ai25, hm_si25, hm_fr26, hm_li26, hm_ai26, hm_si26, hm_fr27, hm_li27, hm_ai27, hm_si27, hm_fr28, hm_li28, hm_ai28, hm_si28, hm_fl, hm_sl, hz, nI_ltin (show j < n by omega) (show n < 1000 by omega), if_true, m1, m2, n32_00, n32_10, if_false, sX12_mayBe y v c hg a j (by omega) (by omega), bI_0, nI_1, i32_a0]
    by_cases c1 : v 11 a = -1 <;> by_cases c2 : v 11 j = -1 <;> cases c3 : gm_mb (mw_k v) (mw_h v) (v 9) a j <;> simp [c1, c2, mw_mb, c3]
theorem sX12_oddsOf (hg : 4000 ≤ g) (y : Nat → Int32) (v : Nat → Nat → Int32) (c : Int64) {n : Nat} (hn : n ≤ 7) (hz : y 2 = nI n) (p : Int32) {U A : Nat} (hU : gm_od (mw_mb v) (v 11) n = (nI U, nI A)) (hUA : U ≤ A) (hA : A ≤ 21) : aX12_oddsOf g [.ref 0, .int p] (hm y v c) = some (some (.int (if A = 0 then (if p = 0 then 0 else 1) else (if p = 0 then nI U / nI (gm_gcd 100 A U) else nI A / nI (gm_gcd 100 A U)))), hm y v c) := by
  have loop := gm_loop (n := n) 16 1 (fun F i (x : Int32 × Int32) => ah_run (kX12_oddsOf g) F 7 [(0, .ref 0), (1, .int p), (2, .int x.1), (3, .int x.2), (4, .int (nI i))] [] (hm y v c)) (fun x a => gm_od1 (mw_mb v) (v 11) n a x) (fun x => ah_run (kX12_oddsOf g) 1 7 [(0, .ref 0), (1, .int p), (2, .int x.1), (3, .int x.2), (4, .int (nI n))] [] (hm y v c)) (fun _ _ => True) (fun F x hF _ => by
      obtain ⟨f, rfl⟩ : ∃ f, F = f + 1 := ⟨F - 1, by omega⟩
      simp only [rX12_oddsOf_7, Option.bind_some, Option.bind_none, ah_rI_s, ah_rL_s, ah_rV_s, hm_vI, hm_fr0, hm_li0, hm_ai0, hm_si0, hm_fi1, hm_sv1, hm_fi2, hm_sv2, hm_fi3, hm_sv3, hm_fi4, hm_sv4, hm_fi5, hm_sv5, hm_fi6, hm_sv6, hm_fi7, hm_sv7, hm_fr8, hm_li8, hm_ai8, hm_si8, hm_fr9, hm_li9, hm_ai9, hm_si9, hm_fr10, hm_li10, hm_ai10, hm_si10, hm_fr11, hm_li11, hm_ai11, hm_si11, hm_fr12, hm_li12, hm_ai12, hm_si12, hm_fr13, hm_li13, hm_ai13, hm_si13, hm_fr14, hm_li14, hm_ai14, hm_si14, hm_fi15, hm_sv15, hm_fr16, hm_li16, hm_ai16, hm_si16, hm_fr17, hm_li17, hm_ai17, hm_si17, hm_fi18, hm_sv18, hm_fi19, hm_sv19, hm_fi20, hm_sv20, hm_fi21, hm_sv21, hm_fi22, hm_sv22, hm_fi23, hm_sv23, hm_fi24, hm_sv24, hm_fr25, hm_li25, hm_ai25, hm_si25, hm_fr26, hm_li26, hm_ai26, hm_si26, hm_fr27, hm_li27, hm_ai27, hm_si27, hm_fr28, hm_li28, hm_ai28, hm_si28, hm_fl, hm_sl, hz, nI_ltnn (show n < 1000 by omega), if_false]) (fun F i x hF hi _ => by
      obtain ⟨f, rfl⟩ : ∃ f, F = f + 1 := ⟨F - 1, by omega⟩
      obtain ⟨F2, h1, h2⟩ := sX12_oddsIn hg y v c hn hz p i hi (n - (i + 1)) (i + 1) f x (by omega) (by omega)
      refine ⟨F2, by omega, ?_, trivial⟩
      simp only [rX12_oddsOf_7, Option.bind_some, Option.bind_none, ah_rI_s, ah_rL_s, ah_rV_s, hm_vI, hm_fr0, hm_li0, hm_ai0, hm_si0, hm_fi1, hm_sv1, hm_fi2, hm_sv2, hm_fi3, hm_sv3, hm_fi4, hm_sv4, hm_fi5, hm_sv5, hm_fi6, hm_sv6, hm_fi7, hm_sv7, hm_fr8, hm_li8, hm_ai8, hm_si8, hm_fr9, hm_li9, hm_ai9, hm_si9, hm_fr10, hm_li10, hm_ai10, hm_si10, hm_fr11, hm_li11, hm_ai11, hm_si11, hm_fr12, hm_li12, hm_ai12, hm_si12, hm_fr13, hm_li13, hm_ai13, hm_si13, hm_fr14, hm_li14, hm_ai14, hm_si14, hm_fi15, hm_sv15, hm_fr16, hm_li16, hm_ai16, hm_si16, hm_fr17, hm_li17, hm_ai17, hm_si17, hm_fi18, hm_sv18, hm_fi19, hm_sv19, hm_fi20, hm_sv20, hm_fi21, hm_sv21, hm_fi22, hm_sv22, hm_fi23, hm_sv23, hm_fi24, hm_sv24, hm_fr25, hm_li25, hm_ai25, hm_si25, hm_fr26, hm_li26, hm_ai26, hm_si26, hm_fr27, hm_li27, hm_ai27, hm_si27, hm_fr28, hm_li28, hm_ai28, hm_si28, hm_fl, hm_sl, hz, nI_ltin hi (show n < 1000 by omega), if_true, nI_1]
      exact h2)
  have hfin : ah_run (kX12_oddsOf g) 1 7 [(0, .ref 0), (1, .int p), (2, .int (nI U)), (3, .int (nI A)), (4, .int (nI n))] [] (hm y v c) = some (some (.int (if A = 0 then (if p = 0 then 0 else 1) else (if p = 0 then nI U / nI (gm_gcd 100 A U) else nI A / nI (gm_gcd 100 A U)))), hm y v c) := by
    have zA : (nI A = 0) = (A = 0) := nI_eqi (b := 0) (by omega) (by omega)
    simp only [rX12_oddsOf_7, Option.bind_some, Option.bind_none, ah_rI_s, ah_rL_s, ah_rV_s, hm_vI, hm_fr0, hm_li0, hm_ai0, hm_si0, hm_fi1, hm_sv1, hm_fi2, hm_sv2, hm_fi3, hm_sv3, hm_fi4, hm_sv4, hm_fi5, hm_sv5, hm_fi6, hm_sv6, hm_fi7, hm_sv7, hm_fr8, hm_li8, hm_ai8, hm_si8, hm_fr9, hm_li9, hm_ai9, hm_si9, hm_fr10, hm_li10, hm_ai10, hm_si10, hm_fr11, hm_li11, hm_ai11, hm_si11, hm_fr12, hm_li12, hm_ai12, hm_si12, hm_fr13, hm_li13, hm_ai13, hm_si13, hm_fr14, hm_li14, hm_ai14, hm_si14, hm_fi15, hm_sv15, hm_fr16, hm_li16, hm_ai16, hm_si16, hm_fr17, hm_li17, hm_ai17, hm_si17, hm_fi18, hm_sv18, hm_fi19, hm_sv19, hm_fi20, hm_sv20, hm_fi21, hm_sv21, hm_fi22, hm_sv22, hm_fi23, hm_sv23, hm_fi24, hm_sv24, hm_fr25, hm_li25, hm_ai25, hm_si25, hm_fr26, hm_li26, hm_ai26, hm_si26, hm_fr27, hm_li27, hm_ai27, hm_si27, hm_fr28, hm_li28, hm_ai28, hm_si28, hm_fl, hm_sl, hz, nI_ltnn (show n < 1000 by omega), if_false, zA]
    by_cases c0 : A = 0
    · have u0 : U = 0 := by omega
      have hc1 := sX12_common hg 1 0 (by omega) (by omega) (hm y v c)
      have hc1 : aX12_common g [.int 1, .int (nI U)] (hm y v c) = some (some (.int 1), hm y v c) := by rw [u0]; exact hc1
      simp only [c0, if_true, hc1, Option.bind_some, Option.bind_none, ah_rI_s, ah_rL_s, ah_rV_s, n32_10, if_false]
      rw [u0]
      by_cases d : p = 0
      · rw [if_pos d, if_pos d]; rfl
      · rw [if_neg d, if_neg d]; rfl
    · have hg2 := gm_cdg ⟨U, by omega⟩ ⟨A, by omega⟩ hUA (by show 0 < A; omega)
      dsimp only at hg2
      have zg : (nI (gm_gcd 100 A U) = 0) = False := by rw [show (0 : Int32) = nI 0 from rfl, nI_eqi (by omega) (by omega)]; exact eq_false (by omega)
      simp only [c0, if_false, sX12_common hg A U (by omega) (by omega), Option.bind_some, Option.bind_none, ah_rI_s, ah_rL_s, ah_rV_s, zg]
      by_cases d : p = 0
      · rw [if_pos d, if_pos d]
      · rw [if_neg d, if_neg d]
  obtain ⟨f, rfl⟩ : ∃ f, g = f + 200 := ⟨g - 200, by omega⟩
  unfold aX12_oddsOf
  rw [eX12_oddsOf]
  refine (loop n 0 (0, 0) (f + 199) (by omega) trivial (by omega)).trans ?_
  have e : gm_lp (fun x a => gm_od1 (mw_mb v) (v 11) n a x) n 0 (0, 0) = (nI U, nI A) := hU
  rw [e]
  exact hfin
end PR7
