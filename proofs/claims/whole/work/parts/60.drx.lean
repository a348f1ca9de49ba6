/-! the class's drawer -/
section DRX
variable {g : Nat}
def dr_z2 (z : Nat → Int32) (n : Nat) : Nat → Int32 := va_up (va_up (va_up (dr_z (va_up z 2 (nI n))) 1 0) 8 0) 0 (z 0 + 1)
theorem sX11_drawer_no (hg : 4000 ≤ g) (z : Nat → Int32) (w : Nat → Nat → Int32) (b : Int64) {ln : Nat} (hn : ln ≤ 36) (hz : z 1 = nI ln) (hc : ∀ i, i < ln → 1 ≤ (w 0 i).toInt ∧ (w 0 i).toInt ≤ 126) (hno : ¬ dr_ok ln (fun k => gm_gx k (w 0 k))) : aX11_drawer 0 g [.ref 0] (hx z w b) = some (some (.int (-103)), hx z w b) := by
  have hd := sX4_isDrawer hg z w b hn hz hc
  rw [dq_f hno, bI_f] at hd
  have ck : at_chk (hx z w b) [(0, .ref 0)] [] = true := at_chk_t (by
    have := dr_H z w b (w 0) 0 (by omega)
    rw [dr_F0] at this
    exact this) rfl rfl
  have hl : (hx z w b).length = 41 := rfl
  have ho : ah_ob (hx z w b) 1 = some (4, [.ref 2, .int (z 1)]) := Eq.trans rfl rfl
  obtain ⟨f, rfl⟩ : ∃ f, g = f + 1 := ⟨g - 1, by omega⟩
  unfold aX11_drawer
  simp only [eX11d, hx_fr0_0, ob_s, ho, ck, hl, hd, ar_I, if_true]
  rfl
theorem sX11_drawer (hg : 4000 ≤ g) (z : Nat → Int32) (w : Nat → Nat → Int32) (b : Int64) {n ln : Nat} (hn : n ≤ 7) (hln : ln + 1 = 5 * n) (hz : z 1 = nI ln) (hc : ∀ i, i < ln → 1 ≤ (w 0 i).toInt ∧ (w 0 i).toInt ≤ 126) (hok : dr_ok ln (fun k => gm_gx k (w 0 k))) : aX11_drawer n g [.ref 0] (hx z w b) = some (some (.int (nI n)), hq (dr_z2 z n) w b (dr_F n) ++ dr_L (w 0) n) := by
  have hd := sX4_isDrawer hg z w b (by omega) hz hc
  rw [dq_t hok, bI_t] at hd
  have hff := sX0_fillFrom (g := g) (by omega) z w b hn hln hz hc
  have ck : at_chk (hx z w b) [(0, .ref 0)] [] = true := at_chk_t (by
    have := dr_H z w b (w 0) 0 (by omega)
    rw [dr_F0] at this
    exact this) rfl rfl
  have ck2 : at_chk (hq (dr_z (va_up z 2 (nI n))) w b (dr_F n) ++ dr_L (w 0) n) [(0, .ref 0)] [] = true := at_chk_t (dr_H _ w b (w 0) n hn) (by
    rw [hq_len, dr_Ll]
    show (at_ok _ (.ref 0) && true) = true
    rw [at_ok_lt (by omega)]; rfl) rfl
  have ec : aX4_clear g [.ref 1] (hq (dr_z (va_up z 2 (nI n))) w b (dr_F n) ++ dr_L (w 0) n) = some (none, hq (va_up (dr_z (va_up z 2 (nI n))) 1 0) w b (dr_F n) ++ dr_L (w 0) n) := by
    obtain ⟨f, rfl⟩ : ∃ f, g = f + 1 := ⟨g - 1, by omega⟩
    unfold aX4_clear
    rw [eX4_clear, hq_sv11, ob_s]
  have hl : (hx z w b).length = 41 := rfl
  have ho : ah_ob (hx z w b) 1 = some (4, [.ref 2, .int (z 1)]) := Eq.trans rfl rfl
  have ho3 : ah_ob (hx z w b) 3 = some (0, [.ref 4, .ref 5, .int (z 2), .int (z 3), .int (z 4), .int (z 5), .int (z 6), .ref 10]) := Eq.trans rfl rfl
  have e0 : va_up (va_up (dr_z (va_up z 2 (nI n))) 1 0) 8 0 0 = z 0 := rfl
  have e2 : va_up (va_up (va_up (dr_z (va_up z 2 (nI n))) 1 0) 8 0) 0 (z 0 + 1) 2 = nI n := rfl
  obtain ⟨f, rfl⟩ : ∃ f, g = f + 1 := ⟨g - 1, by omega⟩
  unfold aX11_drawer
  simp only [eX11d, hx_fr0_0, hx_fr0_1, ob_s, ho, ho3, ck, hl, hd, ar_I, n32_10, if_false, hff, ar_V, hq_len, dr_Ll, hq_fr00, hq_ob1, ck2, ec, hq_fr02, hq_sv110, hq_fi05, e0, hq_sv05, hq_fr01, hq_fi32, e2, Nat.add_zero]
  rw [show Nat.beq 4 4 = true from rfl, show Nat.beq 0 0 = true from rfl, show Nat.ble 41 (41 + n) = true from Nat.ble_eq_true_of_le (by omega), show Nat.beq 41 41 = true from rfl, show Nat.ble (41 + n) (41 + n) = true from Nat.ble_eq_true_of_le (Nat.le_refl _), show Nat.beq (41 + n) (41 + n) = true from Nat.beq_refl _]
  show (some ((some (.int (nI n)), hq (dr_z2 z n) w b (dr_F n) ++ dr_L (w 0) n) : ah_R)).bind (fun r => bif Nat.ble r.2.length (41 + n) then some r else none) = _
  rw [ob_s]
  show (bif Nat.ble (hq (dr_z2 z n) w b (dr_F n) ++ dr_L (w 0) n).length (41 + n) then _ else none : Option ah_R) = _
  rw [hq_len, dr_Ll, show Nat.ble (41 + n) (41 + n) = true from Nat.ble_eq_true_of_le (Nat.le_refl _)]
  rfl
end DRX
