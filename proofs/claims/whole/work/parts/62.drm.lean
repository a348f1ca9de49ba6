/-! the reference's drawer, and the pair -/
def dm_u (v : Nat → Nat → Int32) (a b c d : Nat → Int32) : Nat → Nat → Int32 := va_up (va_up (va_up (va_up v 8 a) 9 b) 10 c) 11 d
section DMU
variable (v : Nat → Nat → Int32) (a b c d x : Nat → Int32)
theorem dm_g0 : dm_u v a b c d 0 = v 0 := rfl
theorem dm_g8 : dm_u v a b c d 8 = a := rfl
theorem dm_g9 : dm_u v a b c d 9 = b := rfl
theorem dm_g10 : dm_u v a b c d 10 = c := rfl
theorem dm_g11 : dm_u v a b c d 11 = d := rfl
theorem dm_8 : va_up (dm_u v a b c d) 8 x = dm_u v x b c d := by
  unfold dm_u
  rw [va_c _ _ _ (show ¬ 8 = 11 by decide), va_c _ _ _ (show ¬ 8 = 10 by decide), va_c _ _ _ (show ¬ 8 = 9 by decide), bx_uu]
theorem dm_9 : va_up (dm_u v a b c d) 9 x = dm_u v a x c d := by
  unfold dm_u
  rw [va_c _ _ _ (show ¬ 9 = 11 by decide), va_c _ _ _ (show ¬ 9 = 10 by decide), bx_uu]
theorem dm_10 : va_up (dm_u v a b c d) 10 x = dm_u v a b x d := by
  unfold dm_u
  rw [va_c _ _ _ (show ¬ 10 = 11 by decide), bx_uu]
theorem dm_11 : va_up (dm_u v a b c d) 11 x = dm_u v a b c x := by
  unfold dm_u
  rw [bx_uu]
end DMU
def dm_y (y : Nat → Int32) (n : Nat) : Nat → Int32 := va_up (va_up (va_up (va_up (va_up (va_up (va_up (va_up y 2 (nI n)) 3 0) 4 0) 5 0) 6 0) 15 0) 7 (y 7 + 1)) 1 0
/-- the first i singles are read -/
def dm_I (q a b c d : Nat → Int32) (i : Nat) : Prop := ∀ j, j < i → a (2 * j) = ah_ix (q (5 * j)) ∧ a (2 * j + 1) = q (5 * j + 1) - 48 ∧ b j = q (5 * j + 2) - 48 ∧ c j = q (5 * j + 3) - 48 ∧ d j = -1
section DRM
variable {g : Nat}
theorem nI_5 (i : Nat) : (5 : Int32) * nI i = nI (5 * i) := by
  rw [show (5 : Int32) = nI 5 from rfl, pk_mul]
theorem sX12_drawerL (hg : 4000 ≤ g) (y : Nat → Int32) (v : Nat → Nat → Int32) (e : Int64) {n : Nat} (hn : n ≤ 7) : ∀ (k i F : Nat) (a b c d : Nat → Int32), i + k = n → 4 * k + 2 ≤ F → dm_I (v 0) a b c d i → ∃ a2 b2 c2 d2, dm_I (v 0) a2 b2 c2 d2 n ∧ ah_run (kX12_drawer g) F 47 [(0, .ref 0), (1, .int (nI i))] [] (hm (va_up y 2 (nI n)) (dm_u v a b c d) e) = some (some (.int (nI n)), hm (dm_y y n) (dm_u v a2 b2 c2 d2) e) := by
  intro k
  induction k with
  | zero =>
    intro i F a b c d hi hF hI
    obtain ⟨f, rfl⟩ : ∃ f, F = (f + 1) + 1 := ⟨F - 2, by omega⟩
    have ei : i = n := by omega
    subst ei
    refine ⟨a, b, c, d, hI, ?_⟩
    have e2 : va_up y 2 (nI i) 2 = nI i := by rw [va_l, if_pos rfl]
    have s1 : ∀ F1, ah_run (kX12_drawer g) (F1 + 1) 47 [(0, .ref 0), (1, .int (nI i))] [] (hm (va_up y 2 (nI i)) (dm_u v a b c d) e) = ah_run (kX12_drawer g) F1 148 [(0, .ref 0)] [] (hm (va_up y 2 (nI i)) (dm_u v a b c d) e) := fun F1 => by
      simp only [rX12_drawer_47, ob_s, ob_n, ar_I, ar_L, ar_V, hm_vI, hm_fr0, hm_li0, hm_ai0, hm_si0, hm_fi1, hm_sv1, hm_fi2, hm_sv2, hm_fi3, hm_sv3, hm_fi4, hm_sv4, hm_fi5, hm_sv5, hm_fi6, hm_sv6, hm_fi7, hm_sv7, hm_fr8, hm_li8, hm_ai8, hm_si8, hm_fr9, hm_li9, hm_ai9, hm_si9, hm_fr10, hm_li10, hm_ai10, hm_si10, hm_fr11, hm_li11, hm_ai11, hm_si11, hm_fr12, hm_li12, hm_ai12, hm_si12, hm_fr13, hm_li13, hm_ai13, hm_si13, hm_fr14, hm_li14, hm_ai14, hm_si14, hm_fi15, hm_sv15, hm_fr16, hm_li16, hm_ai16, hm_si16, hm_fr17, hm_li17, hm_ai17, hm_si17, hm_fi18, hm_sv18, hm_fi19, hm_sv19, hm_fi20, hm_sv20, hm_fi21, hm_sv21, hm_fi22, hm_sv22, hm_fi23, hm_sv23, hm_fi24, hm_sv24, hm_fr25, hm_li25, hm_ai25, hm_si25, hm_fr26, hm_li26, hm_ai26, hm_si26, hm_fr27, hm_li27, hm_ai27, hm_si27, hm_fr28, hm_li28, hm_ai28, hm_si28, hm_fl, hm_sl, e2, nI_ltnn (show i < 1000 by omega), if_false]
    rw [s1]
    unfold dm_y
    simp only [rX12_drawer_148, ob_s, ob_n, ar_I, ar_L, ar_V, hm_vI, hm_fr0, hm_li0, hm_ai0, hm_si0, hm_fi1, hm_sv1, hm_fi2, hm_sv2, hm_fi3, hm_sv3, hm_fi4, hm_sv4, hm_fi5, hm_sv5, hm_fi6, hm_sv6, hm_fi7, hm_sv7, hm_fr8, hm_li8, hm_ai8, hm_si8, hm_fr9, hm_li9, hm_ai9, hm_si9, hm_fr10, hm_li10, hm_ai10, hm_si10, hm_fr11, hm_li11, hm_ai11, hm_si11, hm_fr12, hm_li12, hm_ai12, hm_si12, hm_fr13, hm_li13, hm_ai13, hm_si13, hm_fr14, hm_li14, hm_ai14, hm_si14, hm_fi15, hm_sv15, hm_fr16, hm_li16, hm_ai16, hm_si16, hm_fr17, hm_li17, hm_ai17, hm_si17, hm_fi18, hm_sv18, hm_fi19, hm_sv19, hm_fi20, hm_sv20, hm_fi21, hm_sv21, hm_fi22, hm_sv22, hm_fi23, hm_sv23, hm_fi24, hm_sv24, hm_fr25, hm_li25, hm_ai25, hm_si25, hm_fr26, hm_li26, hm_ai26, hm_si26, hm_fr27, hm_li27, hm_ai27, hm_si27, hm_fr28, hm_li28, hm_ai28, hm_si28, hm_fl, hm_sl, va_l, Nat.reduceEqDiff, reduceIte]
  | succ k ih =>
    intro i F a b c d hi hF hI
    obtain ⟨f, rfl⟩ : ∃ f, F = (((f + 1) + 1) + 1) + 1 := ⟨F - 4, by omega⟩
    have i7 : i < 7 := by omega
    have mp : ∀ t, t < 36 → ah_rd (v 0) 36 (nI t) = some (v 0 t) := fun t ht => ah_rdN ht (by decide)
    have e2 : va_up y 2 (nI n) 2 = nI n := by rw [va_l, if_pos rfl]
    have e1 : nI (5 * i) + 1 = nI (5 * i + 1) := nI_1 _
    have e3 : nI (5 * i) + 2 = nI (5 * i + 2) := nI_add (5 * i) 2
    have e4 : nI (5 * i) + 3 = nI (5 * i + 3) := nI_add (5 * i) 3
    have e5 : nI (2 * i) + 1 = nI (2 * i + 1) := nI_1 _
    obtain ⟨a2, b2, c2, d2, q1, q2⟩ := ih (i + 1) f (upd (upd a (2 * i) (ah_ix (v 0 (5 * i)))) (2 * i + 1) (v 0 (5 * i + 1) - 48)) (upd b i (v 0 (5 * i + 2) - 48)) (upd c i (v 0 (5 * i + 3) - 48)) (upd d i (-1)) (by omega) (by omega) (fun j hj => by
      by_cases ej : j = i
      · subst ej
        rw [upd_ne _ _ (show ¬ 2 * j = 2 * j + 1 by omega), upd_self, upd_self, upd_self, upd_self, upd_self]
        exact ⟨rfl, rfl, rfl, rfl, rfl⟩
      · rw [upd_ne _ _ (show ¬ 2 * j = 2 * i + 1 by omega), upd_ne _ _ (show ¬ 2 * j = 2 * i by omega), upd_ne _ _ (show ¬ 2 * j + 1 = 2 * i + 1 by omega), upd_ne _ _ (show ¬ 2 * j + 1 = 2 * i by omega), upd_ne _ _ ej, upd_ne _ _ ej, upd_ne _ _ ej]
        exact hI j (by omega))
    refine ⟨a2, b2, c2, d2, q1, ?_⟩
    rw [← q2]
    have s1 : ∀ F1, ah_run (kX12_drawer g) (F1 + 1) 47 [(0, .ref 0), (1, .int (nI i))] [] (hm (va_up y 2 (nI n)) (dm_u v a b c d) e) = ah_run (kX12_drawer g) F1 74 [(0, .ref 0), (1, .int (nI i))] [] (hm (va_up y 2 (nI n)) (dm_u v (upd a (2 * i) (ah_ix (v 0 (5 * i)))) b c d) e) := fun F1 => by
      simp only [rX12_drawer_47, ob_s, ob_n, ar_I, ar_L, ar_V, hm_vI, hm_fr0, hm_li0, hm_ai0, hm_si0, hm_fi1, hm_sv1, hm_fi2, hm_sv2, hm_fi3, hm_sv3, hm_fi4, hm_sv4, hm_fi5, hm_sv5, hm_fi6, hm_sv6, hm_fi7, hm_sv7, hm_fr8, hm_li8, hm_ai8, hm_si8, hm_fr9, hm_li9, hm_ai9, hm_si9, hm_fr10, hm_li10, hm_ai10, hm_si10, hm_fr11, hm_li11, hm_ai11, hm_si11, hm_fr12, hm_li12, hm_ai12, hm_si12, hm_fr13, hm_li13, hm_ai13, hm_si13, hm_fr14, hm_li14, hm_ai14, hm_si14, hm_fi15, hm_sv15, hm_fr16, hm_li16, hm_ai16, hm_si16, hm_fr17, hm_li17, hm_ai17, hm_si17, hm_fi18, hm_sv18, hm_fi19, hm_sv19, hm_fi20, hm_sv20, hm_fi21, hm_sv21, hm_fi22, hm_sv22, hm_fi23, hm_sv23, hm_fi24, hm_sv24, hm_fr25, hm_li25, hm_ai25, hm_si25, hm_fr26, hm_li26, hm_ai26, hm_si26, hm_fr27, hm_li27, hm_ai27, hm_si27, hm_fr28, hm_li28, hm_ai28, hm_si28, hm_fl, hm_sl, e2, nI_ltin (show i < n by omega) (show n < 1000 by omega), if_true, nI_5, nI_2, dm_g0, mp (5 * i) (by omega), sX12_kindBy hg, dm_g8, show 2 * i < 14 by omega, dm_8]
    have s2 : ∀ F1, ah_run (kX12_drawer g) (F1 + 1) 74 [(0, .ref 0), (1, .int (nI i))] [] (hm (va_up y 2 (nI n)) (dm_u v (upd a (2 * i) (ah_ix (v 0 (5 * i)))) b c d) e) = ah_run (kX12_drawer g) F1 97 [(0, .ref 0), (1, .int (nI i))] [] (hm (va_up y 2 (nI n)) (dm_u v (upd (upd a (2 * i) (ah_ix (v 0 (5 * i)))) (2 * i + 1) (v 0 (5 * i + 1) - 48)) b c d) e) := fun F1 => by
      simp only [rX12_drawer_74, ob_s, ob_n, ar_I, ar_L, ar_V, hm_vI, hm_fr0, hm_li0, hm_ai0, hm_si0, hm_fi1, hm_sv1, hm_fi2, hm_sv2, hm_fi3, hm_sv3, hm_fi4, hm_sv4, hm_fi5, hm_sv5, hm_fi6, hm_sv6, hm_fi7, hm_sv7, hm_fr8, hm_li8, hm_ai8, hm_si8, hm_fr9, hm_li9, hm_ai9, hm_si9, hm_fr10, hm_li10, hm_ai10, hm_si10, hm_fr11, hm_li11, hm_ai11, hm_si11, hm_fr12, hm_li12, hm_ai12, hm_si12, hm_fr13, hm_li13, hm_ai13, hm_si13, hm_fr14, hm_li14, hm_ai14, hm_si14, hm_fi15, hm_sv15, hm_fr16, hm_li16, hm_ai16, hm_si16, hm_fr17, hm_li17, hm_ai17, hm_si17, hm_fi18, hm_sv18, hm_fi19, hm_sv19, hm_fi20, hm_sv20, hm_fi21, hm_sv21, hm_fi22, hm_sv22, hm_fi23, hm_sv23, hm_fi24, hm_sv24, hm_fr25, hm_li25, hm_ai25, hm_si25, hm_fr26, hm_li26, hm_ai26, hm_si26, hm_fr27, hm_li27, hm_ai27, hm_si27, hm_fr28, hm_li28, hm_ai28, hm_si28, hm_fl, hm_sl, nI_5, nI_2, dm_g0, dm_g8, dm_8, e1, mp (5 * i + 1) (by omega), e5, show 2 * i + 1 < 14 by omega]
    have s3 : ∀ F1, ah_run (kX12_drawer g) (F1 + 1) 97 [(0, .ref 0), (1, .int (nI i))] [] (hm (va_up y 2 (nI n)) (dm_u v (upd (upd a (2 * i) (ah_ix (v 0 (5 * i)))) (2 * i + 1) (v 0 (5 * i + 1) - 48)) b c d) e) = ah_run (kX12_drawer g) F1 116 [(0, .ref 0), (1, .int (nI i))] [] (hm (va_up y 2 (nI n)) (dm_u v (upd (upd a (2 * i) (ah_ix (v 0 (5 * i)))) (2 * i + 1) (v 0 (5 * i + 1) - 48)) (upd b i (v 0 (5 * i + 2) - 48)) c d) e) := fun F1 => by
      simp only [rX12_drawer_97, ob_s, ob_n, ar_I, ar_L, ar_V, hm_vI, hm_fr0, hm_li0, hm_ai0, hm_si0, hm_fi1, hm_sv1, hm_fi2, hm_sv2, hm_fi3, hm_sv3, hm_fi4, hm_sv4, hm_fi5, hm_sv5, hm_fi6, hm_sv6, hm_fi7, hm_sv7, hm_fr8, hm_li8, hm_ai8, hm_si8, hm_fr9, hm_li9, hm_ai9, hm_si9, hm_fr10, hm_li10, hm_ai10, hm_si10, hm_fr11, hm_li11, hm_ai11, hm_si11, hm_fr12, hm_li12, hm_ai12, hm_si12, hm_fr13, hm_li13, hm_ai13, hm_si13, hm_fr14, hm_li14, hm_ai14, hm_si14, hm_fi15, hm_sv15, hm_fr16, hm_li16, hm_ai16, hm_si16, hm_fr17, hm_li17, hm_ai17, hm_si17, hm_fi18, hm_sv18, hm_fi19, hm_sv19, hm_fi20, hm_sv20, hm_fi21, hm_sv21, hm_fi22, hm_sv22, hm_fi23, hm_sv23, hm_fi24, hm_sv24, hm_fr25, hm_li25, hm_ai25, hm_si25, hm_fr26, hm_li26, hm_ai26, hm_si26, hm_fr27, hm_li27, hm_ai27, hm_si27, hm_fr28, hm_li28, hm_ai28, hm_si28, hm_fl, hm_sl, nI_5, dm_g0, e3, mp (5 * i + 2) (by omega), dm_g9, i7, dm_9]
    have s4 : ∀ F1, ah_run (kX12_drawer g) (F1 + 1) 116 [(0, .ref 0), (1, .int (nI i))] [] (hm (va_up y 2 (nI n)) (dm_u v (upd (upd a (2 * i) (ah_ix (v 0 (5 * i)))) (2 * i + 1) (v 0 (5 * i + 1) - 48)) (upd b i (v 0 (5 * i + 2) - 48)) c d) e) = ah_run (kX12_drawer g) F1 47 [(0, .ref 0), (1, .int (nI (i + 1)))] [] (hm (va_up y 2 (nI n)) (dm_u v (upd (upd a (2 * i) (ah_ix (v 0 (5 * i)))) (2 * i + 1) (v 0 (5 * i + 1) - 48)) (upd b i (v 0 (5 * i + 2) - 48)) (upd c i (v 0 (5 * i + 3) - 48)) (upd d i (-1))) e) := fun F1 => by
      simp only [rX12_drawer_116, ob_s, ob_n, ar_I, ar_L, ar_V, hm_vI, hm_fr0, hm_li0, hm_ai0, hm_si0, hm_fi1, hm_sv1, hm_fi2, hm_sv2, hm_fi3, hm_sv3, hm_fi4, hm_sv4, hm_fi5, hm_sv5, hm_fi6, hm_sv6, hm_fi7, hm_sv7, hm_fr8, hm_li8, hm_ai8, hm_si8, hm_fr9, hm_li9, hm_ai9, hm_si9, hm_fr10, hm_li10, hm_ai10, hm_si10, hm_fr11, hm_li11, hm_ai11, hm_si11, hm_fr12, hm_li12, hm_ai12, hm_si12, hm_fr13, hm_li13, hm_ai13, hm_si13, hm_fr14, hm_li14, hm_ai14, hm_si14, hm_fi15, hm_sv15, hm_fr16, hm_li16, hm_ai16, hm_si16, hm_fr17, hm_li17, hm_ai17, hm_si17, hm_fi18, hm_sv18, hm_fi19, hm_sv19, hm_fi20, hm_sv20, hm_fi21, hm_sv21, hm_fi22, hm_sv22, hm_fi23, hm_sv23, hm_fi24, hm_sv24, hm_fr25, hm_li25, hm_ai25, hm_si25, hm_fr26, hm_li26, hm_ai26, hm_si26, hm_fr27, hm_li27, hm_ai27, hm_si27, hm_fr28, hm_li28, hm_ai28, hm_si28, hm_fl, hm_sl, nI_5, dm_g0, e4, mp (5 * i + 3) (by omega), dm_g10, i7, dm_10, dm_g11, dm_11, nI_1]
    rw [s1, s2, s3, s4]
theorem sX12_drawer_no (hg : 4000 ≤ g) (y : Nat → Int32) (v : Nat → Nat → Int32) (e : Int64) {ln : Nat} (hn : ln ≤ 36) (hz : y 1 = nI ln) (hno : ¬ dr_ok ln (fun k => gm_gd k (v 0 k))) : aX12_drawer g [.ref 0] (hm y v e) = some (some (.int (-103)), hm y v e) := by
  have hff := sX12_faultOf y v e hg hn hz
  have hle := gm_ft_le (fun k => gm_gd k (v 0 k)) ln 0
  obtain ⟨f, rfl⟩ : ∃ f, g = f + 1 := ⟨g - 1, by omega⟩
  unfold aX12_drawer
  rw [eX12_drawer]
  simp only [ob_s, ob_n, ar_I, ar_L, ar_V, hm_vI, hm_fr0, hm_li0, hm_ai0, hm_si0, hm_fi1, hm_sv1, hm_fi2, hm_sv2, hm_fi3, hm_sv3, hm_fi4, hm_sv4, hm_fi5, hm_sv5, hm_fi6, hm_sv6, hm_fi7, hm_sv7, hm_fr8, hm_li8, hm_ai8, hm_si8, hm_fr9, hm_li9, hm_ai9, hm_si9, hm_fr10, hm_li10, hm_ai10, hm_si10, hm_fr11, hm_li11, hm_ai11, hm_si11, hm_fr12, hm_li12, hm_ai12, hm_si12, hm_fr13, hm_li13, hm_ai13, hm_si13, hm_fr14, hm_li14, hm_ai14, hm_si14, hm_fi15, hm_sv15, hm_fr16, hm_li16, hm_ai16, hm_si16, hm_fr17, hm_li17, hm_ai17, hm_si17, hm_fi18, hm_sv18, hm_fi19, hm_sv19, hm_fi20, hm_sv20, hm_fi21, hm_sv21, hm_fi22, hm_sv22, hm_fi23, hm_sv23, hm_fi24, hm_sv24, hm_fr25, hm_li25, hm_ai25, hm_si25, hm_fr26, hm_li26, hm_ai26, hm_si26, hm_fr27, hm_li27, hm_ai27, hm_si27, hm_fr28, hm_li28, hm_ai28, hm_si28, hm_fl, hm_sl, hz, nI_lt9 (show ln < 1000 by omega), nI_r5 (show ln < 1000 by omega), hff, show ((5 : Int32) = 0) = False from eq_false (by decide), if_false, show (4 : Int32) = nI 4 from rfl, nI_eqi (show ln % 5 < 1000 by omega) (show 4 < 1000 by omega), nI_lti (show gm_ft (fun k => gm_gd k (v 0 k)) ln 0 < 1000 by omega) (show ln < 1000 by omega)]
  by_cases c1 : ln < 9
  · rw [if_pos c1]
  · rw [if_neg c1]
    by_cases c2 : ln % 5 = 4
    · rw [if_pos c2, if_pos]
      by_cases c3 : gm_ft (fun k => gm_gd k (v 0 k)) ln 0 = ln
      · exact absurd ⟨by omega, c2, c3⟩ hno
      · omega
    · rw [if_neg c2]
theorem sX12_drawer (hg : 4000 ≤ g) (y : Nat → Int32) (v : Nat → Nat → Int32) (e : Int64) {n ln : Nat} (hn : n ≤ 7) (hln : ln + 1 = 5 * n) (hz : y 1 = nI ln) (hok : dr_ok ln (fun k => gm_gd k (v 0 k))) : ∃ a2 b2 c2 d2, dm_I (v 0) a2 b2 c2 d2 n ∧ aX12_drawer g [.ref 0] (hm y v e) = some (some (.int (nI n)), hm (dm_y y n) (dm_u v a2 b2 c2 d2) e) := by
  have hff := sX12_faultOf y v e hg (show ln ≤ 36 by omega) hz
  obtain ⟨o1, o2, o3⟩ := hok
  rw [o3] at hff
  obtain ⟨a2, b2, c2, d2, q1, q2⟩ := sX12_drawerL hg y v e hn n 0 (g - 1) (v 8) (v 9) (v 10) (v 11) (by omega) (by omega) (fun j hj => absurd hj (Nat.not_lt_zero _))
  refine ⟨a2, b2, c2, d2, q1, ?_⟩
  have hu : dm_u v (v 8) (v 9) (v 10) (v 11) = v := by
    unfold dm_u
    rw [gm_up_id, gm_up_id, gm_up_id, gm_up_id]
  rw [hu, show nI 0 = 0 from rfl] at q2
  have e5 : nI (5 * n) / 5 = nI n := by
    have := pk_div (a := 5 * n) (d := 5) (by omega) (by decide) (by decide)
    rw [show 5 * n / 5 = n by omega] at this
    exact this
  obtain ⟨f, rfl⟩ : ∃ f, g = f + 1 := ⟨g - 1, by omega⟩
  unfold aX12_drawer
  rw [eX12_drawer]
  have c1 : ¬ ln < 9 := by omega
  simp only [ob_s, ob_n, ar_I, ar_L, ar_V, hm_vI, hm_fr0, hm_li0, hm_ai0, hm_si0, hm_fi1, hm_sv1, hm_fi2, hm_sv2, hm_fi3, hm_sv3, hm_fi4, hm_sv4, hm_fi5, hm_sv5, hm_fi6, hm_sv6, hm_fi7, hm_sv7, hm_fr8, hm_li8, hm_ai8, hm_si8, hm_fr9, hm_li9, hm_ai9, hm_si9, hm_fr10, hm_li10, hm_ai10, hm_si10, hm_fr11, hm_li11, hm_ai11, hm_si11, hm_fr12, hm_li12, hm_ai12, hm_si12, hm_fr13, hm_li13, hm_ai13, hm_si13, hm_fr14, hm_li14, hm_ai14, hm_si14, hm_fi15, hm_sv15, hm_fr16, hm_li16, hm_ai16, hm_si16, hm_fr17, hm_li17, hm_ai17, hm_si17, hm_fi18, hm_sv18, hm_fi19, hm_sv19, hm_fi20, hm_sv20, hm_fi21, hm_sv21, hm_fi22, hm_sv22, hm_fi23, hm_sv23, hm_fi24, hm_sv24, hm_fr25, hm_li25, hm_ai25, hm_si25, hm_fr26, hm_li26, hm_ai26, hm_si26, hm_fr27, hm_li27, hm_ai27, hm_si27, hm_fr28, hm_li28, hm_ai28, hm_si28, hm_fl, hm_sl, hz, nI_lt9 (show ln < 1000 by omega), c1, nI_r5 (show ln < 1000 by omega), hff, show ((5 : Int32) = 0) = False from eq_false (by decide), if_false, show (4 : Int32) = nI 4 from rfl, o2, if_true, nI_ltnn (show ln < 1000 by omega), nI_1, hln, e5]
  exact q2
/-- both read the drawer alike -/
theorem gq_drawer (hg : 4000 ≤ g) {K n ln sn : Nat} {z : Nat → Int32} {w : Nat → Nat → Int32} {y : Nat → Int32} {v : Nat → Nat → Int32} (b c : Int64) (hR : gm_R K n ln sn z w y v) (hK : K + 1 < 1000) : (aX11_drawer 0 g [.ref 0] (hx z w b) = some (some (.int (-103)), hx z w b) ∧ aX12_drawer g [.ref 0] (hm y v c) = some (some (.int (-103)), hm y v c)) ∨ (∃ (n2 : Nat) (y2 : Nat → Int32) (v2 : Nat → Nat → Int32), n2 ≤ 7 ∧ aX11_drawer n2 g [.ref 0] (hx z w b) = some (some (.int (nI n2)), hq (dr_z2 z n2) w b (dr_F n2) ++ dr_L (w 0) n2) ∧ aX12_drawer g [.ref 0] (hm y v c) = some (some (.int (nI n2)), hm y2 v2 c) ∧ gm_R (K + 1) n2 0 0 (dr_z2 z n2) (dr_w w (w 0) n2) y2 v2) := by
  obtain ⟨l1, l2, l3, l4⟩ := hR.1
  have hfe := gm_ft_eq hR.1
  have hcx : ∀ i, i < ln → 1 ≤ (w 0 i).toInt ∧ (w 0 i).toInt ≤ 126 := fun i hi => (l4 i hi).2
  by_cases hok : dr_ok ln (fun k => gm_gx k (w 0 k))
  · right
    have hok2 : dr_ok ln (fun k => gm_gd k (v 0 k)) := ⟨hok.1, hok.2.1, by rw [← hfe]; exact hok.2.2⟩
    obtain ⟨o1, o2, o3⟩ := hok
    obtain ⟨n2, hn2⟩ : ∃ n2, ln + 1 = 5 * n2 := ⟨(ln + 1) / 5, by omega⟩
    have h7 : n2 ≤ 7 := by omega
    have hx1 := sX11_drawer hg z w b h7 hn2 l2 hcx ⟨o1, o2, o3⟩
    obtain ⟨a2, b2, c2, d2, q1, q2⟩ := sX12_drawer hg y v c h7 hn2 l3 hok2
    refine ⟨n2, dm_y y n2, dm_u v a2 b2 c2 d2, h7, hx1, q2, ?_⟩
    have good : ∀ k, k < ln → gm_gx k (w 0 k) = true := fun k hk => gm_ft_all (fun k => gm_gx k (w 0 k)) ln 0 (by rw [o3]; omega) k (Nat.zero_le _) (by omega)
    have gd : ∀ k, k < ln → gm_gd k (w 0 k) = true := fun k hk => by
      have := good k hk
      unfold gm_gx at this
      rw [Bool.and_eq_true] at this
      exact this.2
    have vv : ∀ k, k < ln → v 0 k = w 0 k := fun k hk => (l4 k hk).1.symm
    have g0 : ∀ i, i < n2 → ¬ ah_ix (w 0 (5 * i)) = -1 := fun i hi => by
      have := gd (5 * i) (by omega)
      unfold gm_gd at this
      rw [if_pos (by omega)] at this
      exact of_decide_eq_true this
    have g1 : ∀ i, i < n2 → 48 ≤ (w 0 (5 * i + 1)).toInt ∧ (w 0 (5 * i + 1)).toInt ≤ 49 := fun i hi => by
      have := gd (5 * i + 1) (by omega)
      unfold gm_gd at this
      rw [if_neg (by omega), if_pos (by omega)] at this
      exact of_decide_eq_true this
    have g2 : ∀ i, i < n2 → 48 ≤ (w 0 (5 * i + 2)).toInt ∧ (w 0 (5 * i + 2)).toInt ≤ 57 := fun i hi => by
      have := gd (5 * i + 2) (by omega)
      unfold gm_gd at this
      rw [if_neg (by omega), if_neg (by omega), if_pos (by omega)] at this
      exact of_decide_eq_true this
    have g3 : ∀ i, i < n2 → 48 ≤ (w 0 (5 * i + 3)).toInt ∧ (w 0 (5 * i + 3)).toInt ≤ 53 := fun i hi => by
      have := gd (5 * i + 3) (by omega)
      unfold gm_gd at this
      rw [if_neg (by omega), if_neg (by omega), if_neg (by omega), if_pos (by omega)] at this
      exact of_decide_eq_true this
    have sub48 : ∀ x : Int32, 48 ≤ x.toInt → x.toInt ≤ 126 → (x - 48).toInt = x.toInt - 48 := fun x h1 h2 => by
      have := i32_sub (x := x) (y := 48) (by omega) (by decide)
      exact this
    have kr : ∀ x : Int32, ¬ ah_ix x = -1 → 0 ≤ (ah_ix x).toInt ∧ (ah_ix x).toInt ≤ 4 := fun x hx0 => by
      unfold ah_ix at hx0 ⊢
      split
      · decide
      split
      · decide
      split
      · decide
      split
      · decide
      split
      · decide
      · rename_i h1 h2 h3 h4 h5
        exact absurd (by rw [if_neg h1, if_neg h2, if_neg h3, if_neg h4, if_neg h5]) hx0
    refine ⟨⟨by omega, rfl, rfl, fun i hi => absurd hi (Nat.not_lt_zero _)⟩, ⟨h7, rfl, rfl, fun i hi => ?_, fun i hi => ?_, fun i hi => Or.inl ?_⟩, ⟨by omega, rfl, rfl, fun i hi => absurd hi (Nat.not_lt_zero _)⟩, ⟨rfl, rfl, rfl, rfl⟩, ?_⟩
    · rw [dr_w19]
      by_cases hin : i < n2
      · rw [gm_cpy_lt hin, sub48 _ (g2 i hin).1 (by have := (g2 i hin).2; omega)]
        have := g2 i hin
        omega
      · rw [gm_cpy_ge hin]
        exact hR.rg i hi
    · obtain ⟨t1, t2, t3, t4, t5⟩ := q1 i hi
      have k1 : mw_k (dm_u v a2 b2 c2 d2) i = ah_ix (w 0 (5 * i)) := by
        show a2 (2 * i) = _
        rw [t1, vv _ (by omega)]
      have k2 : mw_h (dm_u v a2 b2 c2 d2) i = w 0 (5 * i + 1) - 48 := by
        show a2 (2 * i + 1) = _
        rw [t2, vv _ (by omega)]
      rw [dr_w17, dr_w18, dr_w19, dr_w20, dr_w21, gm_cpy_lt hi, gm_cpy_lt hi, gm_cpy_lt hi, gm_cpy_lt hi, gm_cpy_lt hi, k1, k2, dm_g9, dm_g10, dm_g11, t3, t4, t5, vv _ (show 5 * i + 2 < ln by omega), vv _ (show 5 * i + 3 < ln by omega)]
      refine ⟨rfl, rfl, rfl, rfl, rfl, kr _ (g0 i hi), ?_, ?_⟩
      · have hs := sub48 (w 0 (5 * i + 1)) (g1 i hi).1 (by have := (g1 i hi).2; omega)
        have hg1 := g1 i hi
        by_cases c48 : (w 0 (5 * i + 1)).toInt = 48
        · left
          rw [i32_eq, hs, c48]
          rfl
        · right
          rw [i32_eq, hs, show (w 0 (5 * i + 1)).toInt = 49 by omega]
          rfl
      · rw [sub48 _ (g3 i hi).1 (by have := (g3 i hi).2; omega)]
        have := g3 i hi
        omega
    · rw [dr_w21, gm_cpy_lt hi]
    · obtain ⟨cc, ⟨k1, k2⟩, k3, k4, k5⟩ := hR.2.2.2.2
      refine ⟨cc + 1, ⟨by omega, by omega⟩, ?_, ?_, Or.inl ⟨rfl, ?_, ?_⟩⟩
      · show z 0 + 1 = nI (cc + 1)
        rw [k3, nI_1]
      · show y 7 + 1 = nI (cc + 1)
        rw [k4, nI_1]
      · show ¬ y 19 = y 7 + 1
        rw [k4, nI_1]
        rcases k5 with ⟨-, -, k6⟩ | ⟨-, k6, -⟩
        · rcases k6 with k6 | ⟨d, hd, k6⟩
          · rw [k6]
            intro h
            have := gm_ok_ne (show cc + 1 < 1000 by omega)
            rw [← h] at this
            exact this ▸ rfl
          · rw [k6, nI_eq (by omega) (by omega)]
            omega
        · rw [k6, k4, nI_eq (by omega) (by omega)]
          omega
      · show y 19 = -1 ∨ ∃ d : Nat, d < cc + 1 ∧ y 19 = nI d
        rcases k5 with ⟨-, -, k6⟩ | ⟨-, k6, -⟩
        · rcases k6 with k6 | ⟨d, hd, k6⟩
          · exact Or.inl k6
          · exact Or.inr ⟨d, by omega, k6⟩
        · exact Or.inr ⟨cc, by omega, by rw [k6, k4]⟩
  · left
    have hno2 : ¬ dr_ok ln (fun k => gm_gd k (v 0 k)) := fun h => hok ⟨h.1, h.2.1, by rw [hfe]; exact h.2.2⟩
    exact ⟨sX11_drawer_no hg z w b l1 l2 hcx hok, sX12_drawer_no hg y v c l1 l3 hno2⟩
end DRM
