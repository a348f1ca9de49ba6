theorem ah_inN {i n : Nat} (hi : i < n) (hn : n < 2 ^ 31) : ¬ (nI i < 0 ∨ n ≤ (nI i).toNatClampNeg) := nI_in hi hn
theorem ah_rdN {f : Nat → Int32} {i n : Nat} (hi : i < n) (hn : n < 2 ^ 31) : ah_rd f n (nI i) = some (f i) := by
  unfold ah_rd
  rw [if_neg (ah_inN hi hn), nI_clamp (by omega)]
theorem ah_wrN {f : Nat → Int32} {i n : Nat} {x : Int32} (hi : i < n) (hn : n < 2 ^ 31) : ah_wr f n (nI i) x = some (upd f i x) := by
  unfold ah_wr
  rw [if_neg (ah_inN hi hn), nI_clamp (by omega)]
theorem ah_rrN {f : Nat → Option Nat} {i n : Nat} (hi : i < n) (hn : n < 2 ^ 31) : ah_rr f n (nI i) = f i := by
  unfold ah_rr
  rw [if_neg (ah_inN hi hn), nI_clamp (by omega)]
theorem ah_rI_s (x : Int32) (h : ah_H) : ah_rI (some (some (.int x), h)) = some (x, h) := rfl
theorem ah_rL_s (x : Int64) (h : ah_H) : ah_rL (some (some (.long x), h)) = some (x, h) := rfl
theorem ah_rV_s (h : ah_H) : ah_rV (some (none, h)) = some h := rfl
def hm (z : Nat → Int32) (w : Nat → Nat → Int32) (b : Int64) : ah_H := [.inr (12, [.ref 1, .int (z 1), .int (z 2), .int (z 3), .int (z 4), .int (z 5), .int (z 6), .int (z 7), .ref 2, .ref 3, .ref 4, .ref 5, .ref 6, .ref 7, .ref 8, .int (z 15), .ref 9, .ref 10, .int (z 18), .int (z 19), .int (z 20), .int (z 21), .int (z 22), .int (z 23), .int (z 24), .ref 11, .ref 12, .ref 13, .ref 14, .long b]), .inl (0, 36, .inl (w 0)), .inl (0, 14, .inl (w 8)), .inl (0, 7, .inl (w 9)), .inl (0, 7, .inl (w 10)), .inl (0, 7, .inl (w 11)), .inl (0, 7, .inl (w 12)), .inl (0, 7, .inl (w 13)), .inl (0, 7, .inl (w 14)), .inl (0, 24, .inl (w 16)), .inl (0, 20, .inl (w 17)), .inl (0, 7, .inl (w 25)), .inl (0, 7, .inl (w 26)), .inl (0, 7, .inl (w 27)), .inl (0, 24, .inl (w 28))]
theorem hm_ob (z : Nat → Int32) (w : Nat → Nat → Int32) (b : Int64) : ∃ q, ah_ob (hm z w b) 0 = some (12, q) := ⟨_, rfl⟩
theorem hm_vI (z : Nat → Int32) (w : Nat → Nat → Int32) (b : Int64) : ∀ {α : Type} (F : ah_F) (k : ah_F → Option α), ((ah_ob (hm z w b) 0).bind fun o => (ah_sel [(12, F)] o.1).bind k) = k F := fun _ _ => Eq.trans rfl rfl
theorem hm_fr0 (z : Nat → Int32) (w : Nat → Nat → Int32) (b : Int64) : ah_fr (hm z w b) 0 [12] 0 = some 1 := Eq.trans rfl rfl
theorem hm_li0 (z : Nat → Int32) (w : Nat → Nat → Int32) (b : Int64) : ∀ i, ah_li (hm z w b) 1 0 i = ah_rd (w 0) 36 i := fun _ => Eq.trans rfl rfl
theorem hm_ai0 (z : Nat → Int32) (w : Nat → Nat → Int32) (b : Int64) : ah_ai (hm z w b) 1 0 = some (36, w 0) := Eq.trans rfl rfl
theorem hm_set0 (z : Nat → Int32) (w : Nat → Nat → Int32) (b : Int64) (f : Nat → Int32) : (hm z w b).set 1 (.inl (0, 36, .inl f)) = hm z (va_up w 0 f) b := rfl
theorem hm_si0 (z : Nat → Int32) (w : Nat → Nat → Int32) (b : Int64) (i : Nat) (x : Int32) (hi : i < 36) : ah_si (hm z w b) 1 0 (nI i) x = some (hm z (va_up w 0 (upd (w 0) i x)) b) := by
  show ((ah_wr (w 0) 36 (nI i) x).bind fun f => some ((hm z w b).set 1 (.inl (0, 36, .inl f)))) = _
  rw [ah_wrN hi (by decide)]
  rfl
theorem hm_fi1 (z : Nat → Int32) (w : Nat → Nat → Int32) (b : Int64) : ah_fi (hm z w b) 0 [12] 1 = some (z 1) := Eq.trans rfl rfl
theorem hm_sv1 (z : Nat → Int32) (w : Nat → Nat → Int32) (b : Int64) : ∀ x, ah_sv (hm z w b) 0 [12] 1 (.int x) = some (hm (va_up z 1 x) w b) := fun _ => Eq.trans rfl rfl
theorem hm_fi2 (z : Nat → Int32) (w : Nat → Nat → Int32) (b : Int64) : ah_fi (hm z w b) 0 [12] 2 = some (z 2) := Eq.trans rfl rfl
theorem hm_sv2 (z : Nat → Int32) (w : Nat → Nat → Int32) (b : Int64) : ∀ x, ah_sv (hm z w b) 0 [12] 2 (.int x) = some (hm (va_up z 2 x) w b) := fun _ => Eq.trans rfl rfl
theorem hm_fi3 (z : Nat → Int32) (w : Nat → Nat → Int32) (b : Int64) : ah_fi (hm z w b) 0 [12] 3 = some (z 3) := Eq.trans rfl rfl
theorem hm_sv3 (z : Nat → Int32) (w : Nat → Nat → Int32) (b : Int64) : ∀ x, ah_sv (hm z w b) 0 [12] 3 (.int x) = some (hm (va_up z 3 x) w b) := fun _ => Eq.trans rfl rfl
theorem hm_fi4 (z : Nat → Int32) (w : Nat → Nat → Int32) (b : Int64) : ah_fi (hm z w b) 0 [12] 4 = some (z 4) := Eq.trans rfl rfl
theorem hm_sv4 (z : Nat → Int32) (w : Nat → Nat → Int32) (b : Int64) : ∀ x, ah_sv (hm z w b) 0 [12] 4 (.int x) = some (hm (va_up z 4 x) w b) := fun _ => Eq.trans rfl rfl
theorem hm_fi5 (z : Nat → Int32) (w : Nat → Nat → Int32) (b : Int64) : ah_fi (hm z w b) 0 [12] 5 = some (z 5) := Eq.trans rfl rfl
theorem hm_sv5 (z : Nat → Int32) (w : Nat → Nat → Int32) (b : Int64) : ∀ x, ah_sv (hm z w b) 0 [12] 5 (.int x) = some (hm (va_up z 5 x) w b) := fun _ => Eq.trans rfl rfl
theorem hm_fi6 (z : Nat → Int32) (w : Nat → Nat → Int32) (b : Int64) : ah_fi (hm z w b) 0 [12] 6 = some (z 6) := Eq.trans rfl rfl
theorem hm_sv6 (z : Nat → Int32) (w : Nat → Nat → Int32) (b : Int64) : ∀ x, ah_sv (hm z w b) 0 [12] 6 (.int x) = some (hm (va_up z 6 x) w b) := fun _ => Eq.trans rfl rfl
theorem hm_fi7 (z : Nat → Int32) (w : Nat → Nat → Int32) (b : Int64) : ah_fi (hm z w b) 0 [12] 7 = some (z 7) := Eq.trans rfl rfl
theorem hm_sv7 (z : Nat → Int32) (w : Nat → Nat → Int32) (b : Int64) : ∀ x, ah_sv (hm z w b) 0 [12] 7 (.int x) = some (hm (va_up z 7 x) w b) := fun _ => Eq.trans rfl rfl
theorem hm_fr8 (z : Nat → Int32) (w : Nat → Nat → Int32) (b : Int64) : ah_fr (hm z w b) 0 [12] 8 = some 2 := Eq.trans rfl rfl
theorem hm_li8 (z : Nat → Int32) (w : Nat → Nat → Int32) (b : Int64) : ∀ i, ah_li (hm z w b) 2 0 i = ah_rd (w 8) 14 i := fun _ => Eq.trans rfl rfl
theorem hm_ai8 (z : Nat → Int32) (w : Nat → Nat → Int32) (b : Int64) : ah_ai (hm z w b) 2 0 = some (14, w 8) := Eq.trans rfl rfl
theorem hm_set8 (z : Nat → Int32) (w : Nat → Nat → Int32) (b : Int64) (f : Nat → Int32) : (hm z w b).set 2 (.inl (0, 14, .inl f)) = hm z (va_up w 8 f) b := rfl
theorem hm_si8 (z : Nat → Int32) (w : Nat → Nat → Int32) (b : Int64) (i : Nat) (x : Int32) (hi : i < 14) : ah_si (hm z w b) 2 0 (nI i) x = some (hm z (va_up w 8 (upd (w 8) i x)) b) := by
  show ((ah_wr (w 8) 14 (nI i) x).bind fun f => some ((hm z w b).set 2 (.inl (0, 14, .inl f)))) = _
  rw [ah_wrN hi (by decide)]
  rfl
theorem hm_fr9 (z : Nat → Int32) (w : Nat → Nat → Int32) (b : Int64) : ah_fr (hm z w b) 0 [12] 9 = some 3 := Eq.trans rfl rfl
theorem hm_li9 (z : Nat → Int32) (w : Nat → Nat → Int32) (b : Int64) : ∀ i, ah_li (hm z w b) 3 0 i = ah_rd (w 9) 7 i := fun _ => Eq.trans rfl rfl
theorem hm_ai9 (z : Nat → Int32) (w : Nat → Nat → Int32) (b : Int64) : ah_ai (hm z w b) 3 0 = some (7, w 9) := Eq.trans rfl rfl
theorem hm_set9 (z : Nat → Int32) (w : Nat → Nat → Int32) (b : Int64) (f : Nat → Int32) : (hm z w b).set 3 (.inl (0, 7, .inl f)) = hm z (va_up w 9 f) b := rfl
theorem hm_si9 (z : Nat → Int32) (w : Nat → Nat → Int32) (b : Int64) (i : Nat) (x : Int32) (hi : i < 7) : ah_si (hm z w b) 3 0 (nI i) x = some (hm z (va_up w 9 (upd (w 9) i x)) b) := by
  show ((ah_wr (w 9) 7 (nI i) x).bind fun f => some ((hm z w b).set 3 (.inl (0, 7, .inl f)))) = _
  rw [ah_wrN hi (by decide)]
  rfl
theorem hm_fr10 (z : Nat → Int32) (w : Nat → Nat → Int32) (b : Int64) : ah_fr (hm z w b) 0 [12] 10 = some 4 := Eq.trans rfl rfl
theorem hm_li10 (z : Nat → Int32) (w : Nat → Nat → Int32) (b : Int64) : ∀ i, ah_li (hm z w b) 4 0 i = ah_rd (w 10) 7 i := fun _ => Eq.trans rfl rfl
theorem hm_ai10 (z : Nat → Int32) (w : Nat → Nat → Int32) (b : Int64) : ah_ai (hm z w b) 4 0 = some (7, w 10) := Eq.trans rfl rfl
theorem hm_set10 (z : Nat → Int32) (w : Nat → Nat → Int32) (b : Int64) (f : Nat → Int32) : (hm z w b).set 4 (.inl (0, 7, .inl f)) = hm z (va_up w 10 f) b := rfl
theorem hm_si10 (z : Nat → Int32) (w : Nat → Nat → Int32) (b : Int64) (i : Nat) (x : Int32) (hi : i < 7) : ah_si (hm z w b) 4 0 (nI i) x = some (hm z (va_up w 10 (upd (w 10) i x)) b) := by
  show ((ah_wr (w 10) 7 (nI i) x).bind fun f => some ((hm z w b).set 4 (.inl (0, 7, .inl f)))) = _
  rw [ah_wrN hi (by decide)]
  rfl
theorem hm_fr11 (z : Nat → Int32) (w : Nat → Nat → Int32) (b : Int64) : ah_fr (hm z w b) 0 [12] 11 = some 5 := Eq.trans rfl rfl
theorem hm_li11 (z : Nat → Int32) (w : Nat → Nat → Int32) (b : Int64) : ∀ i, ah_li (hm z w b) 5 0 i = ah_rd (w 11) 7 i := fun _ => Eq.trans rfl rfl
theorem hm_ai11 (z : Nat → Int32) (w : Nat → Nat → Int32) (b : Int64) : ah_ai (hm z w b) 5 0 = some (7, w 11) := Eq.trans rfl rfl
theorem hm_set11 (z : Nat → Int32) (w : Nat → Nat → Int32) (b : Int64) (f : Nat → Int32) : (hm z w b).set 5 (.inl (0, 7, .inl f)) = hm z (va_up w 11 f) b := rfl
theorem hm_si11 (z : Nat → Int32) (w : Nat → Nat → Int32) (b : Int64) (i : Nat) (x : Int32) (hi : i < 7) : ah_si (hm z w b) 5 0 (nI i) x = some (hm z (va_up w 11 (upd (w 11) i x)) b) := by
  show ((ah_wr (w 11) 7 (nI i) x).bind fun f => some ((hm z w b).set 5 (.inl (0, 7, .inl f)))) = _
  rw [ah_wrN hi (by decide)]
  rfl
theorem hm_fr12 (z : Nat → Int32) (w : Nat → Nat → Int32) (b : Int64) : ah_fr (hm z w b) 0 [12] 12 = some 6 := Eq.trans rfl rfl
theorem hm_li12 (z : Nat → Int32) (w : Nat → Nat → Int32) (b : Int64) : ∀ i, ah_li (hm z w b) 6 0 i = ah_rd (w 12) 7 i := fun _ => Eq.trans rfl rfl
theorem hm_ai12 (z : Nat → Int32) (w : Nat → Nat → Int32) (b : Int64) : ah_ai (hm z w b) 6 0 = some (7, w 12) := Eq.trans rfl rfl
theorem hm_set12 (z : Nat → Int32) (w : Nat → Nat → Int32) (b : Int64) (f : Nat → Int32) : (hm z w b).set 6 (.inl (0, 7, .inl f)) = hm z (va_up w 12 f) b := rfl
theorem hm_si12 (z : Nat → Int32) (w : Nat → Nat → Int32) (b : Int64) (i : Nat) (x : Int32) (hi : i < 7) : ah_si (hm z w b) 6 0 (nI i) x = some (hm z (va_up w 12 (upd (w 12) i x)) b) := by
  show ((ah_wr (w 12) 7 (nI i) x).bind fun f => some ((hm z w b).set 6 (.inl (0, 7, .inl f)))) = _
  rw [ah_wrN hi (by decide)]
  rfl
theorem hm_fr13 (z : Nat → Int32) (w : Nat → Nat → Int32) (b : Int64) : ah_fr (hm z w b) 0 [12] 13 = some 7 := Eq.trans rfl rfl
theorem hm_li13 (z : Nat → Int32) (w : Nat → Nat → Int32) (b : Int64) : ∀ i, ah_li (hm z w b) 7 0 i = ah_rd (w 13) 7 i := fun _ => Eq.trans rfl rfl
theorem hm_ai13 (z : Nat → Int32) (w : Nat → Nat → Int32) (b : Int64) : ah_ai (hm z w b) 7 0 = some (7, w 13) := Eq.trans rfl rfl
theorem hm_set13 (z : Nat → Int32) (w : Nat → Nat → Int32) (b : Int64) (f : Nat → Int32) : (hm z w b).set 7 (.inl (0, 7, .inl f)) = hm z (va_up w 13 f) b := rfl
theorem hm_si13 (z : Nat → Int32) (w : Nat → Nat → Int32) (b : Int64) (i : Nat) (x : Int32) (hi : i < 7) : ah_si (hm z w b) 7 0 (nI i) x = some (hm z (va_up w 13 (upd (w 13) i x)) b) := by
  show ((ah_wr (w 13) 7 (nI i) x).bind fun f => some ((hm z w b).set 7 (.inl (0, 7, .inl f)))) = _
  rw [ah_wrN hi (by decide)]
  rfl
theorem hm_fr14 (z : Nat → Int32) (w : Nat → Nat → Int32) (b : Int64) : ah_fr (hm z w b) 0 [12] 14 = some 8 := Eq.trans rfl rfl
theorem hm_li14 (z : Nat → Int32) (w : Nat → Nat → Int32) (b : Int64) : ∀ i, ah_li (hm z w b) 8 0 i = ah_rd (w 14) 7 i := fun _ => Eq.trans rfl rfl
theorem hm_ai14 (z : Nat → Int32) (w : Nat → Nat → Int32) (b : Int64) : ah_ai (hm z w b) 8 0 = some (7, w 14) := Eq.trans rfl rfl
theorem hm_set14 (z : Nat → Int32) (w : Nat → Nat → Int32) (b : Int64) (f : Nat → Int32) : (hm z w b).set 8 (.inl (0, 7, .inl f)) = hm z (va_up w 14 f) b := rfl
theorem hm_si14 (z : Nat → Int32) (w : Nat → Nat → Int32) (b : Int64) (i : Nat) (x : Int32) (hi : i < 7) : ah_si (hm z w b) 8 0 (nI i) x = some (hm z (va_up w 14 (upd (w 14) i x)) b) := by
  show ((ah_wr (w 14) 7 (nI i) x).bind fun f => some ((hm z w b).set 8 (.inl (0, 7, .inl f)))) = _
  rw [ah_wrN hi (by decide)]
  rfl
theorem hm_fi15 (z : Nat → Int32) (w : Nat → Nat → Int32) (b : Int64) : ah_fi (hm z w b) 0 [12] 15 = some (z 15) := Eq.trans rfl rfl
theorem hm_sv15 (z : Nat → Int32) (w : Nat → Nat → Int32) (b : Int64) : ∀ x, ah_sv (hm z w b) 0 [12] 15 (.int x) = some (hm (va_up z 15 x) w b) := fun _ => Eq.trans rfl rfl
theorem hm_fr16 (z : Nat → Int32) (w : Nat → Nat → Int32) (b : Int64) : ah_fr (hm z w b) 0 [12] 16 = some 9 := Eq.trans rfl rfl
theorem hm_li16 (z : Nat → Int32) (w : Nat → Nat → Int32) (b : Int64) : ∀ i, ah_li (hm z w b) 9 0 i = ah_rd (w 16) 24 i := fun _ => Eq.trans rfl rfl
theorem hm_ai16 (z : Nat → Int32) (w : Nat → Nat → Int32) (b : Int64) : ah_ai (hm z w b) 9 0 = some (24, w 16) := Eq.trans rfl rfl
theorem hm_set16 (z : Nat → Int32) (w : Nat → Nat → Int32) (b : Int64) (f : Nat → Int32) : (hm z w b).set 9 (.inl (0, 24, .inl f)) = hm z (va_up w 16 f) b := rfl
theorem hm_si16 (z : Nat → Int32) (w : Nat → Nat → Int32) (b : Int64) (i : Nat) (x : Int32) (hi : i < 24) : ah_si (hm z w b) 9 0 (nI i) x = some (hm z (va_up w 16 (upd (w 16) i x)) b) := by
  show ((ah_wr (w 16) 24 (nI i) x).bind fun f => some ((hm z w b).set 9 (.inl (0, 24, .inl f)))) = _
  rw [ah_wrN hi (by decide)]
  rfl
theorem hm_fr17 (z : Nat → Int32) (w : Nat → Nat → Int32) (b : Int64) : ah_fr (hm z w b) 0 [12] 17 = some 10 := Eq.trans rfl rfl
theorem hm_li17 (z : Nat → Int32) (w : Nat → Nat → Int32) (b : Int64) : ∀ i, ah_li (hm z w b) 10 0 i = ah_rd (w 17) 20 i := fun _ => Eq.trans rfl rfl
theorem hm_ai17 (z : Nat → Int32) (w : Nat → Nat → Int32) (b : Int64) : ah_ai (hm z w b) 10 0 = some (20, w 17) := Eq.trans rfl rfl
theorem hm_set17 (z : Nat → Int32) (w : Nat → Nat → Int32) (b : Int64) (f : Nat → Int32) : (hm z w b).set 10 (.inl (0, 20, .inl f)) = hm z (va_up w 17 f) b := rfl
theorem hm_si17 (z : Nat → Int32) (w : Nat → Nat → Int32) (b : Int64) (i : Nat) (x : Int32) (hi : i < 20) : ah_si (hm z w b) 10 0 (nI i) x = some (hm z (va_up w 17 (upd (w 17) i x)) b) := by
  show ((ah_wr (w 17) 20 (nI i) x).bind fun f => some ((hm z w b).set 10 (.inl (0, 20, .inl f)))) = _
  rw [ah_wrN hi (by decide)]
  rfl
theorem hm_fi18 (z : Nat → Int32) (w : Nat → Nat → Int32) (b : Int64) : ah_fi (hm z w b) 0 [12] 18 = some (z 18) := Eq.trans rfl rfl
theorem hm_sv18 (z : Nat → Int32) (w : Nat → Nat → Int32) (b : Int64) : ∀ x, ah_sv (hm z w b) 0 [12] 18 (.int x) = some (hm (va_up z 18 x) w b) := fun _ => Eq.trans rfl rfl
theorem hm_fi19 (z : Nat → Int32) (w : Nat → Nat → Int32) (b : Int64) : ah_fi (hm z w b) 0 [12] 19 = some (z 19) := Eq.trans rfl rfl
theorem hm_sv19 (z : Nat → Int32) (w : Nat → Nat → Int32) (b : Int64) : ∀ x, ah_sv (hm z w b) 0 [12] 19 (.int x) = some (hm (va_up z 19 x) w b) := fun _ => Eq.trans rfl rfl
theorem hm_fi20 (z : Nat → Int32) (w : Nat → Nat → Int32) (b : Int64) : ah_fi (hm z w b) 0 [12] 20 = some (z 20) := Eq.trans rfl rfl
theorem hm_sv20 (z : Nat → Int32) (w : Nat → Nat → Int32) (b : Int64) : ∀ x, ah_sv (hm z w b) 0 [12] 20 (.int x) = some (hm (va_up z 20 x) w b) := fun _ => Eq.trans rfl rfl
theorem hm_fi21 (z : Nat → Int32) (w : Nat → Nat → Int32) (b : Int64) : ah_fi (hm z w b) 0 [12] 21 = some (z 21) := Eq.trans rfl rfl
theorem hm_sv21 (z : Nat → Int32) (w : Nat → Nat → Int32) (b : Int64) : ∀ x, ah_sv (hm z w b) 0 [12] 21 (.int x) = some (hm (va_up z 21 x) w b) := fun _ => Eq.trans rfl rfl
theorem hm_fi22 (z : Nat → Int32) (w : Nat → Nat → Int32) (b : Int64) : ah_fi (hm z w b) 0 [12] 22 = some (z 22) := Eq.trans rfl rfl
theorem hm_sv22 (z : Nat → Int32) (w : Nat → Nat → Int32) (b : Int64) : ∀ x, ah_sv (hm z w b) 0 [12] 22 (.int x) = some (hm (va_up z 22 x) w b) := fun _ => Eq.trans rfl rfl
theorem hm_fi23 (z : Nat → Int32) (w : Nat → Nat → Int32) (b : Int64) : ah_fi (hm z w b) 0 [12] 23 = some (z 23) := Eq.trans rfl rfl
theorem hm_sv23 (z : Nat → Int32) (w : Nat → Nat → Int32) (b : Int64) : ∀ x, ah_sv (hm z w b) 0 [12] 23 (.int x) = some (hm (va_up z 23 x) w b) := fun _ => Eq.trans rfl rfl
theorem hm_fi24 (z : Nat → Int32) (w : Nat → Nat → Int32) (b : Int64) : ah_fi (hm z w b) 0 [12] 24 = some (z 24) := Eq.trans rfl rfl
theorem hm_sv24 (z : Nat → Int32) (w : Nat → Nat → Int32) (b : Int64) : ∀ x, ah_sv (hm z w b) 0 [12] 24 (.int x) = some (hm (va_up z 24 x) w b) := fun _ => Eq.trans rfl rfl
theorem hm_fr25 (z : Nat → Int32) (w : Nat → Nat → Int32) (b : Int64) : ah_fr (hm z w b) 0 [12] 25 = some 11 := Eq.trans rfl rfl
theorem hm_li25 (z : Nat → Int32) (w : Nat → Nat → Int32) (b : Int64) : ∀ i, ah_li (hm z w b) 11 0 i = ah_rd (w 25) 7 i := fun _ => Eq.trans rfl rfl
theorem hm_ai25 (z : Nat → Int32) (w : Nat → Nat → Int32) (b : Int64) : ah_ai (hm z w b) 11 0 = some (7, w 25) := Eq.trans rfl rfl
theorem hm_set25 (z : Nat → Int32) (w : Nat → Nat → Int32) (b : Int64) (f : Nat → Int32) : (hm z w b).set 11 (.inl (0, 7, .inl f)) = hm z (va_up w 25 f) b := rfl
theorem hm_si25 (z : Nat → Int32) (w : Nat → Nat → Int32) (b : Int64) (i : Nat) (x : Int32) (hi : i < 7) : ah_si (hm z w b) 11 0 (nI i) x = some (hm z (va_up w 25 (upd (w 25) i x)) b) := by
  show ((ah_wr (w 25) 7 (nI i) x).bind fun f => some ((hm z w b).set 11 (.inl (0, 7, .inl f)))) = _
  rw [ah_wrN hi (by decide)]
  rfl
theorem hm_fr26 (z : Nat → Int32) (w : Nat → Nat → Int32) (b : Int64) : ah_fr (hm z w b) 0 [12] 26 = some 12 := Eq.trans rfl rfl
theorem hm_li26 (z : Nat → Int32) (w : Nat → Nat → Int32) (b : Int64) : ∀ i, ah_li (hm z w b) 12 0 i = ah_rd (w 26) 7 i := fun _ => Eq.trans rfl rfl
theorem hm_ai26 (z : Nat → Int32) (w : Nat → Nat → Int32) (b : Int64) : ah_ai (hm z w b) 12 0 = some (7, w 26) := Eq.trans rfl rfl
theorem hm_set26 (z : Nat → Int32) (w : Nat → Nat → Int32) (b : Int64) (f : Nat → Int32) : (hm z w b).set 12 (.inl (0, 7, .inl f)) = hm z (va_up w 26 f) b := rfl
theorem hm_si26 (z : Nat → Int32) (w : Nat → Nat → Int32) (b : Int64) (i : Nat) (x : Int32) (hi : i < 7) : ah_si (hm z w b) 12 0 (nI i) x = some (hm z (va_up w 26 (upd (w 26) i x)) b) := by
  show ((ah_wr (w 26) 7 (nI i) x).bind fun f => some ((hm z w b).set 12 (.inl (0, 7, .inl f)))) = _
  rw [ah_wrN hi (by decide)]
  rfl
theorem hm_fr27 (z : Nat → Int32) (w : Nat → Nat → Int32) (b : Int64) : ah_fr (hm z w b) 0 [12] 27 = some 13 := Eq.trans rfl rfl
theorem hm_li27 (z : Nat → Int32) (w : Nat → Nat → Int32) (b : Int64) : ∀ i, ah_li (hm z w b) 13 0 i = ah_rd (w 27) 7 i := fun _ => Eq.trans rfl rfl
theorem hm_ai27 (z : Nat → Int32) (w : Nat → Nat → Int32) (b : Int64) : ah_ai (hm z w b) 13 0 = some (7, w 27) := Eq.trans rfl rfl
theorem hm_set27 (z : Nat → Int32) (w : Nat → Nat → Int32) (b : Int64) (f : Nat → Int32) : (hm z w b).set 13 (.inl (0, 7, .inl f)) = hm z (va_up w 27 f) b := rfl
theorem hm_si27 (z : Nat → Int32) (w : Nat → Nat → Int32) (b : Int64) (i : Nat) (x : Int32) (hi : i < 7) : ah_si (hm z w b) 13 0 (nI i) x = some (hm z (va_up w 27 (upd (w 27) i x)) b) := by
  show ((ah_wr (w 27) 7 (nI i) x).bind fun f => some ((hm z w b).set 13 (.inl (0, 7, .inl f)))) = _
  rw [ah_wrN hi (by decide)]
  rfl
theorem hm_fr28 (z : Nat → Int32) (w : Nat → Nat → Int32) (b : Int64) : ah_fr (hm z w b) 0 [12] 28 = some 14 := Eq.trans rfl rfl
theorem hm_li28 (z : Nat → Int32) (w : Nat → Nat → Int32) (b : Int64) : ∀ i, ah_li (hm z w b) 14 0 i = ah_rd (w 28) 24 i := fun _ => Eq.trans rfl rfl
theorem hm_ai28 (z : Nat → Int32) (w : Nat → Nat → Int32) (b : Int64) : ah_ai (hm z w b) 14 0 = some (24, w 28) := Eq.trans rfl rfl
theorem hm_set28 (z : Nat → Int32) (w : Nat → Nat → Int32) (b : Int64) (f : Nat → Int32) : (hm z w b).set 14 (.inl (0, 24, .inl f)) = hm z (va_up w 28 f) b := rfl
theorem hm_si28 (z : Nat → Int32) (w : Nat → Nat → Int32) (b : Int64) (i : Nat) (x : Int32) (hi : i < 24) : ah_si (hm z w b) 14 0 (nI i) x = some (hm z (va_up w 28 (upd (w 28) i x)) b) := by
  show ((ah_wr (w 28) 24 (nI i) x).bind fun f => some ((hm z w b).set 14 (.inl (0, 24, .inl f)))) = _
  rw [ah_wrN hi (by decide)]
  rfl
theorem hm_fl (z : Nat → Int32) (w : Nat → Nat → Int32) (b : Int64) : ah_fl (hm z w b) 0 [12] 29 = some b := Eq.trans rfl rfl
theorem hm_sl (z : Nat → Int32) (w : Nat → Nat → Int32) (b : Int64) : ∀ x, ah_sv (hm z w b) 0 [12] 29 (.long x) = some (hm z w x) := fun _ => Eq.trans rfl rfl
def hx_sg : Nat → Option Nat := fun i => if i < 7 then some (34 + i) else none
def hx_lk : Nat → Option Nat := fun i => if i < 7 then some (27 + i) else none
/-- the number of the class of a kind -/
def hx_kc (k : Int32) : Nat := if k = 1 then 1 else if k = 2 then 9 else if k = 3 then 5 else if k = 4 then 3 else 8
theorem hx_kc_in (k : Int32) : ah_in (hx_kc k) [1, 3, 5, 8, 9] = true := by
  unfold hx_kc
  split
  · rfl
  split
  · rfl
  split
  · rfl
  split
  · rfl
  rfl
def hx (z : Nat → Int32) (w : Nat → Nat → Int32) (b : Int64) : ah_H := [
  .inr (11, [.ref 1, .ref 3, .ref 11, .ref 20, .ref 25, .int (z 0)]),
  .inr (4, [.ref 2, .int (z 1)]),
  .inl (0, 36, .inl (w 0)),
  .inr (0, [.ref 4, .ref 5, .int (z 2), .int (z 3), .int (z 4), .int (z 5), .int (z 6), .ref 10]),
  .inl (2, 7, .inr hx_sg),
  .inr (7, [.int (z 7), .ref 6, .ref 7, .ref 8, .ref 9]),
  .inl (0, 8, .inl (w 1)),
  .inl (0, 8, .inl (w 2)),
  .inl (0, 8, .inl (w 3)),
  .inl (0, 20, .inl (w 4)),
  .inl (0, 7, .inl (w 5)),
  .inr (2, [.int (z 8), .ref 12, .ref 13, .ref 14, .ref 15, .int (z 9), .int (z 10), .int (z 11), .int (z 12)]),
  .inl (0, 7, .inl (w 6)),
  .inl (0, 7, .inl (w 7)),
  .inl (0, 7, .inl (w 8)),
  .inr (7, [.int (z 13), .ref 16, .ref 17, .ref 18, .ref 19]),
  .inl (0, 8, .inl (w 9)),
  .inl (0, 8, .inl (w 10)),
  .inl (0, 8, .inl (w 11)),
  .inl (0, 20, .inl (w 12)),
  .inr (6, [.int (z 14), .int (z 15), .int (z 16), .int (z 17), .ref 21, .ref 22, .ref 23, .ref 24, .int (z 18), .int (z 19), .int (z 20), .int (z 21)]),
  .inl (0, 7, .inl (w 13)),
  .inl (0, 7, .inl (w 14)),
  .inl (3, 7, .inr hx_lk),
  .inl (0, 7, .inl (w 15)),
  .inr (10, [.int (z 22), .int (z 23), .long b, .ref 26]),
  .inl (1, 7, .inl (w 16)),
  .inl (0, 7, .inl (w 30)),
  .inl (0, 7, .inl (w 31)),
  .inl (0, 7, .inl (w 32)),
  .inl (0, 7, .inl (w 33)),
  .inl (0, 7, .inl (w 34)),
  .inl (0, 7, .inl (w 35)),
  .inl (0, 7, .inl (w 36)),
  .inr (hx_kc (w 17 0), [.int (w 18 0), .int (w 19 0), .int (w 20 0), .int (w 21 0)]),
  .inr (hx_kc (w 17 1), [.int (w 18 1), .int (w 19 1), .int (w 20 1), .int (w 21 1)]),
  .inr (hx_kc (w 17 2), [.int (w 18 2), .int (w 19 2), .int (w 20 2), .int (w 21 2)]),
  .inr (hx_kc (w 17 3), [.int (w 18 3), .int (w 19 3), .int (w 20 3), .int (w 21 3)]),
  .inr (hx_kc (w 17 4), [.int (w 18 4), .int (w 19 4), .int (w 20 4), .int (w 21 4)]),
  .inr (hx_kc (w 17 5), [.int (w 18 5), .int (w 19 5), .int (w 20 5), .int (w 21 5)]),
  .inr (hx_kc (w 17 6), [.int (w 18 6), .int (w 19 6), .int (w 20 6), .int (w 21 6)])]
theorem hx_v0 (z : Nat → Int32) (w : Nat → Nat → Int32) (b : Int64) : ∀ {α : Type} (F : ah_F) (k : ah_F → Option α), ((ah_ob (hx z w b) 0).bind fun o => (ah_sel [(11, F)] o.1).bind k) = k F := fun _ _ => Eq.trans rfl rfl
theorem hx_fr0_0 (z : Nat → Int32) (w : Nat → Nat → Int32) (b : Int64) : ah_fr (hx z w b) 0 [11] 0 = some 1 := Eq.trans rfl rfl
theorem hx_fr0_1 (z : Nat → Int32) (w : Nat → Nat → Int32) (b : Int64) : ah_fr (hx z w b) 0 [11] 1 = some 3 := Eq.trans rfl rfl
theorem hx_fr0_2 (z : Nat → Int32) (w : Nat → Nat → Int32) (b : Int64) : ah_fr (hx z w b) 0 [11] 2 = some 11 := Eq.trans rfl rfl
theorem hx_fr0_3 (z : Nat → Int32) (w : Nat → Nat → Int32) (b : Int64) : ah_fr (hx z w b) 0 [11] 3 = some 20 := Eq.trans rfl rfl
theorem hx_fr0_4 (z : Nat → Int32) (w : Nat → Nat → Int32) (b : Int64) : ah_fr (hx z w b) 0 [11] 4 = some 25 := Eq.trans rfl rfl
theorem hx_fi0_5 (z : Nat → Int32) (w : Nat → Nat → Int32) (b : Int64) : ah_fi (hx z w b) 0 [11] 5 = some (z 0) := Eq.trans rfl rfl
theorem hx_sv0_5 (z : Nat → Int32) (w : Nat → Nat → Int32) (b : Int64) : ∀ x, ah_sv (hx z w b) 0 [11] 5 (.int x) = some (hx (va_up z 0 x) w b) := fun _ => Eq.trans rfl rfl
theorem hx_v1 (z : Nat → Int32) (w : Nat → Nat → Int32) (b : Int64) : ∀ {α : Type} (F : ah_F) (k : ah_F → Option α), ((ah_ob (hx z w b) 1).bind fun o => (ah_sel [(4, F)] o.1).bind k) = k F := fun _ _ => Eq.trans rfl rfl
theorem hx_fr1_0 (z : Nat → Int32) (w : Nat → Nat → Int32) (b : Int64) : ah_fr (hx z w b) 1 [4] 0 = some 2 := Eq.trans rfl rfl
theorem hx_fi1_1 (z : Nat → Int32) (w : Nat → Nat → Int32) (b : Int64) : ah_fi (hx z w b) 1 [4] 1 = some (z 1) := Eq.trans rfl rfl
theorem hx_sv1_1 (z : Nat → Int32) (w : Nat → Nat → Int32) (b : Int64) : ∀ x, ah_sv (hx z w b) 1 [4] 1 (.int x) = some (hx (va_up z 1 x) w b) := fun _ => Eq.trans rfl rfl
theorem hx_v3 (z : Nat → Int32) (w : Nat → Nat → Int32) (b : Int64) : ∀ {α : Type} (F : ah_F) (k : ah_F → Option α), ((ah_ob (hx z w b) 3).bind fun o => (ah_sel [(0, F)] o.1).bind k) = k F := fun _ _ => Eq.trans rfl rfl
theorem hx_fr3_0 (z : Nat → Int32) (w : Nat → Nat → Int32) (b : Int64) : ah_fr (hx z w b) 3 [0] 0 = some 4 := Eq.trans rfl rfl
theorem hx_fr3_1 (z : Nat → Int32) (w : Nat → Nat → Int32) (b : Int64) : ah_fr (hx z w b) 3 [0] 1 = some 5 := Eq.trans rfl rfl
theorem hx_fi3_2 (z : Nat → Int32) (w : Nat → Nat → Int32) (b : Int64) : ah_fi (hx z w b) 3 [0] 2 = some (z 2) := Eq.trans rfl rfl
theorem hx_sv3_2 (z : Nat → Int32) (w : Nat → Nat → Int32) (b : Int64) : ∀ x, ah_sv (hx z w b) 3 [0] 2 (.int x) = some (hx (va_up z 2 x) w b) := fun _ => Eq.trans rfl rfl
theorem hx_fi3_3 (z : Nat → Int32) (w : Nat → Nat → Int32) (b : Int64) : ah_fi (hx z w b) 3 [0] 3 = some (z 3) := Eq.trans rfl rfl
theorem hx_sv3_3 (z : Nat → Int32) (w : Nat → Nat → Int32) (b : Int64) : ∀ x, ah_sv (hx z w b) 3 [0] 3 (.int x) = some (hx (va_up z 3 x) w b) := fun _ => Eq.trans rfl rfl
theorem hx_fi3_4 (z : Nat → Int32) (w : Nat → Nat → Int32) (b : Int64) : ah_fi (hx z w b) 3 [0] 4 = some (z 4) := Eq.trans rfl rfl
theorem hx_sv3_4 (z : Nat → Int32) (w : Nat → Nat → Int32) (b : Int64) : ∀ x, ah_sv (hx z w b) 3 [0] 4 (.int x) = some (hx (va_up z 4 x) w b) := fun _ => Eq.trans rfl rfl
theorem hx_fi3_5 (z : Nat → Int32) (w : Nat → Nat → Int32) (b : Int64) : ah_fi (hx z w b) 3 [0] 5 = some (z 5) := Eq.trans rfl rfl
theorem hx_sv3_5 (z : Nat → Int32) (w : Nat → Nat → Int32) (b : Int64) : ∀ x, ah_sv (hx z w b) 3 [0] 5 (.int x) = some (hx (va_up z 5 x) w b) := fun _ => Eq.trans rfl rfl
theorem hx_fi3_6 (z : Nat → Int32) (w : Nat → Nat → Int32) (b : Int64) : ah_fi (hx z w b) 3 [0] 6 = some (z 6) := Eq.trans rfl rfl
theorem hx_sv3_6 (z : Nat → Int32) (w : Nat → Nat → Int32) (b : Int64) : ∀ x, ah_sv (hx z w b) 3 [0] 6 (.int x) = some (hx (va_up z 6 x) w b) := fun _ => Eq.trans rfl rfl
theorem hx_fr3_7 (z : Nat → Int32) (w : Nat → Nat → Int32) (b : Int64) : ah_fr (hx z w b) 3 [0] 7 = some 10 := Eq.trans rfl rfl
theorem hx_v5 (z : Nat → Int32) (w : Nat → Nat → Int32) (b : Int64) : ∀ {α : Type} (F : ah_F) (k : ah_F → Option α), ((ah_ob (hx z w b) 5).bind fun o => (ah_sel [(7, F)] o.1).bind k) = k F := fun _ _ => Eq.trans rfl rfl
theorem hx_fi5_0 (z : Nat → Int32) (w : Nat → Nat → Int32) (b : Int64) : ah_fi (hx z w b) 5 [7] 0 = some (z 7) := Eq.trans rfl rfl
theorem hx_sv5_0 (z : Nat → Int32) (w : Nat → Nat → Int32) (b : Int64) : ∀ x, ah_sv (hx z w b) 5 [7] 0 (.int x) = some (hx (va_up z 7 x) w b) := fun _ => Eq.trans rfl rfl
theorem hx_fr5_1 (z : Nat → Int32) (w : Nat → Nat → Int32) (b : Int64) : ah_fr (hx z w b) 5 [7] 1 = some 6 := Eq.trans rfl rfl
theorem hx_fr5_2 (z : Nat → Int32) (w : Nat → Nat → Int32) (b : Int64) : ah_fr (hx z w b) 5 [7] 2 = some 7 := Eq.trans rfl rfl
theorem hx_fr5_3 (z : Nat → Int32) (w : Nat → Nat → Int32) (b : Int64) : ah_fr (hx z w b) 5 [7] 3 = some 8 := Eq.trans rfl rfl
theorem hx_fr5_4 (z : Nat → Int32) (w : Nat → Nat → Int32) (b : Int64) : ah_fr (hx z w b) 5 [7] 4 = some 9 := Eq.trans rfl rfl
theorem hx_v11 (z : Nat → Int32) (w : Nat → Nat → Int32) (b : Int64) : ∀ {α : Type} (F : ah_F) (k : ah_F → Option α), ((ah_ob (hx z w b) 11).bind fun o => (ah_sel [(2, F)] o.1).bind k) = k F := fun _ _ => Eq.trans rfl rfl
theorem hx_fi11_0 (z : Nat → Int32) (w : Nat → Nat → Int32) (b : Int64) : ah_fi (hx z w b) 11 [2] 0 = some (z 8) := Eq.trans rfl rfl
theorem hx_sv11_0 (z : Nat → Int32) (w : Nat → Nat → Int32) (b : Int64) : ∀ x, ah_sv (hx z w b) 11 [2] 0 (.int x) = some (hx (va_up z 8 x) w b) := fun _ => Eq.trans rfl rfl
theorem hx_fr11_1 (z : Nat → Int32) (w : Nat → Nat → Int32) (b : Int64) : ah_fr (hx z w b) 11 [2] 1 = some 12 := Eq.trans rfl rfl
theorem hx_fr11_2 (z : Nat → Int32) (w : Nat → Nat → Int32) (b : Int64) : ah_fr (hx z w b) 11 [2] 2 = some 13 := Eq.trans rfl rfl
theorem hx_fr11_3 (z : Nat → Int32) (w : Nat → Nat → Int32) (b : Int64) : ah_fr (hx z w b) 11 [2] 3 = some 14 := Eq.trans rfl rfl
theorem hx_fr11_4 (z : Nat → Int32) (w : Nat → Nat → Int32) (b : Int64) : ah_fr (hx z w b) 11 [2] 4 = some 15 := Eq.trans rfl rfl
theorem hx_fi11_5 (z : Nat → Int32) (w : Nat → Nat → Int32) (b : Int64) : ah_fi (hx z w b) 11 [2] 5 = some (z 9) := Eq.trans rfl rfl
theorem hx_sv11_5 (z : Nat → Int32) (w : Nat → Nat → Int32) (b : Int64) : ∀ x, ah_sv (hx z w b) 11 [2] 5 (.int x) = some (hx (va_up z 9 x) w b) := fun _ => Eq.trans rfl rfl
theorem hx_fi11_6 (z : Nat → Int32) (w : Nat → Nat → Int32) (b : Int64) : ah_fi (hx z w b) 11 [2] 6 = some (z 10) := Eq.trans rfl rfl
theorem hx_sv11_6 (z : Nat → Int32) (w : Nat → Nat → Int32) (b : Int64) : ∀ x, ah_sv (hx z w b) 11 [2] 6 (.int x) = some (hx (va_up z 10 x) w b) := fun _ => Eq.trans rfl rfl
theorem hx_fi11_7 (z : Nat → Int32) (w : Nat → Nat → Int32) (b : Int64) : ah_fi (hx z w b) 11 [2] 7 = some (z 11) := Eq.trans rfl rfl
theorem hx_sv11_7 (z : Nat → Int32) (w : Nat → Nat → Int32) (b : Int64) : ∀ x, ah_sv (hx z w b) 11 [2] 7 (.int x) = some (hx (va_up z 11 x) w b) := fun _ => Eq.trans rfl rfl
theorem hx_fi11_8 (z : Nat → Int32) (w : Nat → Nat → Int32) (b : Int64) : ah_fi (hx z w b) 11 [2] 8 = some (z 12) := Eq.trans rfl rfl
theorem hx_sv11_8 (z : Nat → Int32) (w : Nat → Nat → Int32) (b : Int64) : ∀ x, ah_sv (hx z w b) 11 [2] 8 (.int x) = some (hx (va_up z 12 x) w b) := fun _ => Eq.trans rfl rfl
theorem hx_v15 (z : Nat → Int32) (w : Nat → Nat → Int32) (b : Int64) : ∀ {α : Type} (F : ah_F) (k : ah_F → Option α), ((ah_ob (hx z w b) 15).bind fun o => (ah_sel [(7, F)] o.1).bind k) = k F := fun _ _ => Eq.trans rfl rfl
theorem hx_fi15_0 (z : Nat → Int32) (w : Nat → Nat → Int32) (b : Int64) : ah_fi (hx z w b) 15 [7] 0 = some (z 13) := Eq.trans rfl rfl
theorem hx_sv15_0 (z : Nat → Int32) (w : Nat → Nat → Int32) (b : Int64) : ∀ x, ah_sv (hx z w b) 15 [7] 0 (.int x) = some (hx (va_up z 13 x) w b) := fun _ => Eq.trans rfl rfl
theorem hx_fr15_1 (z : Nat → Int32) (w : Nat → Nat → Int32) (b : Int64) : ah_fr (hx z w b) 15 [7] 1 = some 16 := Eq.trans rfl rfl
theorem hx_fr15_2 (z : Nat → Int32) (w : Nat → Nat → Int32) (b : Int64) : ah_fr (hx z w b) 15 [7] 2 = some 17 := Eq.trans rfl rfl
theorem hx_fr15_3 (z : Nat → Int32) (w : Nat → Nat → Int32) (b : Int64) : ah_fr (hx z w b) 15 [7] 3 = some 18 := Eq.trans rfl rfl
theorem hx_fr15_4 (z : Nat → Int32) (w : Nat → Nat → Int32) (b : Int64) : ah_fr (hx z w b) 15 [7] 4 = some 19 := Eq.trans rfl rfl
theorem hx_v20 (z : Nat → Int32) (w : Nat → Nat → Int32) (b : Int64) : ∀ {α : Type} (F : ah_F) (k : ah_F → Option α), ((ah_ob (hx z w b) 20).bind fun o => (ah_sel [(6, F)] o.1).bind k) = k F := fun _ _ => Eq.trans rfl rfl
theorem hx_fi20_0 (z : Nat → Int32) (w : Nat → Nat → Int32) (b : Int64) : ah_fi (hx z w b) 20 [6] 0 = some (z 14) := Eq.trans rfl rfl
theorem hx_sv20_0 (z : Nat → Int32) (w : Nat → Nat → Int32) (b : Int64) : ∀ x, ah_sv (hx z w b) 20 [6] 0 (.int x) = some (hx (va_up z 14 x) w b) := fun _ => Eq.trans rfl rfl
theorem hx_fi20_1 (z : Nat → Int32) (w : Nat → Nat → Int32) (b : Int64) : ah_fi (hx z w b) 20 [6] 1 = some (z 15) := Eq.trans rfl rfl
theorem hx_sv20_1 (z : Nat → Int32) (w : Nat → Nat → Int32) (b : Int64) : ∀ x, ah_sv (hx z w b) 20 [6] 1 (.int x) = some (hx (va_up z 15 x) w b) := fun _ => Eq.trans rfl rfl
theorem hx_fi20_2 (z : Nat → Int32) (w : Nat → Nat → Int32) (b : Int64) : ah_fi (hx z w b) 20 [6] 2 = some (z 16) := Eq.trans rfl rfl
theorem hx_sv20_2 (z : Nat → Int32) (w : Nat → Nat → Int32) (b : Int64) : ∀ x, ah_sv (hx z w b) 20 [6] 2 (.int x) = some (hx (va_up z 16 x) w b) := fun _ => Eq.trans rfl rfl
theorem hx_fi20_3 (z : Nat → Int32) (w : Nat → Nat → Int32) (b : Int64) : ah_fi (hx z w b) 20 [6] 3 = some (z 17) := Eq.trans rfl rfl
theorem hx_sv20_3 (z : Nat → Int32) (w : Nat → Nat → Int32) (b : Int64) : ∀ x, ah_sv (hx z w b) 20 [6] 3 (.int x) = some (hx (va_up z 17 x) w b) := fun _ => Eq.trans rfl rfl
theorem hx_fr20_4 (z : Nat → Int32) (w : Nat → Nat → Int32) (b : Int64) : ah_fr (hx z w b) 20 [6] 4 = some 21 := Eq.trans rfl rfl
theorem hx_fr20_5 (z : Nat → Int32) (w : Nat → Nat → Int32) (b : Int64) : ah_fr (hx z w b) 20 [6] 5 = some 22 := Eq.trans rfl rfl
theorem hx_fr20_6 (z : Nat → Int32) (w : Nat → Nat → Int32) (b : Int64) : ah_fr (hx z w b) 20 [6] 6 = some 23 := Eq.trans rfl rfl
theorem hx_fr20_7 (z : Nat → Int32) (w : Nat → Nat → Int32) (b : Int64) : ah_fr (hx z w b) 20 [6] 7 = some 24 := Eq.trans rfl rfl
theorem hx_fi20_8 (z : Nat → Int32) (w : Nat → Nat → Int32) (b : Int64) : ah_fi (hx z w b) 20 [6] 8 = some (z 18) := Eq.trans rfl rfl
theorem hx_sv20_8 (z : Nat → Int32) (w : Nat → Nat → Int32) (b : Int64) : ∀ x, ah_sv (hx z w b) 20 [6] 8 (.int x) = some (hx (va_up z 18 x) w b) := fun _ => Eq.trans rfl rfl
theorem hx_fi20_9 (z : Nat → Int32) (w : Nat → Nat → Int32) (b : Int64) : ah_fi (hx z w b) 20 [6] 9 = some (z 19) := Eq.trans rfl rfl
theorem hx_sv20_9 (z : Nat → Int32) (w : Nat → Nat → Int32) (b : Int64) : ∀ x, ah_sv (hx z w b) 20 [6] 9 (.int x) = some (hx (va_up z 19 x) w b) := fun _ => Eq.trans rfl rfl
theorem hx_fi20_10 (z : Nat → Int32) (w : Nat → Nat → Int32) (b : Int64) : ah_fi (hx z w b) 20 [6] 10 = some (z 20) := Eq.trans rfl rfl
theorem hx_sv20_10 (z : Nat → Int32) (w : Nat → Nat → Int32) (b : Int64) : ∀ x, ah_sv (hx z w b) 20 [6] 10 (.int x) = some (hx (va_up z 20 x) w b) := fun _ => Eq.trans rfl rfl
theorem hx_fi20_11 (z : Nat → Int32) (w : Nat → Nat → Int32) (b : Int64) : ah_fi (hx z w b) 20 [6] 11 = some (z 21) := Eq.trans rfl rfl
theorem hx_sv20_11 (z : Nat → Int32) (w : Nat → Nat → Int32) (b : Int64) : ∀ x, ah_sv (hx z w b) 20 [6] 11 (.int x) = some (hx (va_up z 21 x) w b) := fun _ => Eq.trans rfl rfl
theorem hx_v25 (z : Nat → Int32) (w : Nat → Nat → Int32) (b : Int64) : ∀ {α : Type} (F : ah_F) (k : ah_F → Option α), ((ah_ob (hx z w b) 25).bind fun o => (ah_sel [(10, F)] o.1).bind k) = k F := fun _ _ => Eq.trans rfl rfl
theorem hx_fi25_0 (z : Nat → Int32) (w : Nat → Nat → Int32) (b : Int64) : ah_fi (hx z w b) 25 [10] 0 = some (z 22) := Eq.trans rfl rfl
theorem hx_sv25_0 (z : Nat → Int32) (w : Nat → Nat → Int32) (b : Int64) : ∀ x, ah_sv (hx z w b) 25 [10] 0 (.int x) = some (hx (va_up z 22 x) w b) := fun _ => Eq.trans rfl rfl
theorem hx_fi25_1 (z : Nat → Int32) (w : Nat → Nat → Int32) (b : Int64) : ah_fi (hx z w b) 25 [10] 1 = some (z 23) := Eq.trans rfl rfl
theorem hx_sv25_1 (z : Nat → Int32) (w : Nat → Nat → Int32) (b : Int64) : ∀ x, ah_sv (hx z w b) 25 [10] 1 (.int x) = some (hx (va_up z 23 x) w b) := fun _ => Eq.trans rfl rfl
theorem hx_fl (z : Nat → Int32) (w : Nat → Nat → Int32) (b : Int64) : ah_fl (hx z w b) 25 [10] 2 = some b := Eq.trans rfl rfl
theorem hx_sl (z : Nat → Int32) (w : Nat → Nat → Int32) (b : Int64) : ∀ x, ah_sv (hx z w b) 25 [10] 2 (.long x) = some (hx z w x) := fun _ => Eq.trans rfl rfl
theorem hx_fr25_3 (z : Nat → Int32) (w : Nat → Nat → Int32) (b : Int64) : ah_fr (hx z w b) 25 [10] 3 = some 26 := Eq.trans rfl rfl
theorem hx_li2 (z : Nat → Int32) (w : Nat → Nat → Int32) (b : Int64) : ∀ i, ah_li (hx z w b) 2 0 i = ah_rd (w 0) 36 i := fun _ => Eq.trans rfl rfl
theorem hx_ai2 (z : Nat → Int32) (w : Nat → Nat → Int32) (b : Int64) : ah_ai (hx z w b) 2 0 = some (36, w 0) := Eq.trans rfl rfl
theorem hx_set2 (z : Nat → Int32) (w : Nat → Nat → Int32) (b : Int64) (f : Nat → Int32) : (hx z w b).set 2 (.inl (0, 36, .inl f)) = hx z (va_up w 0 f) b := rfl
theorem hx_si2 (z : Nat → Int32) (w : Nat → Nat → Int32) (b : Int64) (i : Nat) (x : Int32) (hi : i < 36) : ah_si (hx z w b) 2 0 (nI i) x = some (hx z (va_up w 0 (upd (w 0) i x)) b) := by
  show ((ah_wr (w 0) 36 (nI i) x).bind fun f => some ((hx z w b).set 2 (.inl (0, 36, .inl f)))) = _
  rw [ah_wrN hi (by decide)]
  rfl
theorem hx_li6 (z : Nat → Int32) (w : Nat → Nat → Int32) (b : Int64) : ∀ i, ah_li (hx z w b) 6 0 i = ah_rd (w 1) 8 i := fun _ => Eq.trans rfl rfl
theorem hx_ai6 (z : Nat → Int32) (w : Nat → Nat → Int32) (b : Int64) : ah_ai (hx z w b) 6 0 = some (8, w 1) := Eq.trans rfl rfl
theorem hx_set6 (z : Nat → Int32) (w : Nat → Nat → Int32) (b : Int64) (f : Nat → Int32) : (hx z w b).set 6 (.inl (0, 8, .inl f)) = hx z (va_up w 1 f) b := rfl
theorem hx_si6 (z : Nat → Int32) (w : Nat → Nat → Int32) (b : Int64) (i : Nat) (x : Int32) (hi : i < 8) : ah_si (hx z w b) 6 0 (nI i) x = some (hx z (va_up w 1 (upd (w 1) i x)) b) := by
  show ((ah_wr (w 1) 8 (nI i) x).bind fun f => some ((hx z w b).set 6 (.inl (0, 8, .inl f)))) = _
  rw [ah_wrN hi (by decide)]
  rfl
theorem hx_li7 (z : Nat → Int32) (w : Nat → Nat → Int32) (b : Int64) : ∀ i, ah_li (hx z w b) 7 0 i = ah_rd (w 2) 8 i := fun _ => Eq.trans rfl rfl
theorem hx_ai7 (z : Nat → Int32) (w : Nat → Nat → Int32) (b : Int64) : ah_ai (hx z w b) 7 0 = some (8, w 2) := Eq.trans rfl rfl
theorem hx_set7 (z : Nat → Int32) (w : Nat → Nat → Int32) (b : Int64) (f : Nat → Int32) : (hx z w b).set 7 (.inl (0, 8, .inl f)) = hx z (va_up w 2 f) b := rfl
theorem hx_si7 (z : Nat → Int32) (w : Nat → Nat → Int32) (b : Int64) (i : Nat) (x : Int32) (hi : i < 8) : ah_si (hx z w b) 7 0 (nI i) x = some (hx z (va_up w 2 (upd (w 2) i x)) b) := by
  show ((ah_wr (w 2) 8 (nI i) x).bind fun f => some ((hx z w b).set 7 (.inl (0, 8, .inl f)))) = _
  rw [ah_wrN hi (by decide)]
  rfl
theorem hx_li8 (z : Nat → Int32) (w : Nat → Nat → Int32) (b : Int64) : ∀ i, ah_li (hx z w b) 8 0 i = ah_rd (w 3) 8 i := fun _ => Eq.trans rfl rfl
theorem hx_ai8 (z : Nat → Int32) (w : Nat → Nat → Int32) (b : Int64) : ah_ai (hx z w b) 8 0 = some (8, w 3) := Eq.trans rfl rfl
theorem hx_set8 (z : Nat → Int32) (w : Nat → Nat → Int32) (b : Int64) (f : Nat → Int32) : (hx z w b).set 8 (.inl (0, 8, .inl f)) = hx z (va_up w 3 f) b := rfl
theorem hx_si8 (z : Nat → Int32) (w : Nat → Nat → Int32) (b : Int64) (i : Nat) (x : Int32) (hi : i < 8) : ah_si (hx z w b) 8 0 (nI i) x = some (hx z (va_up w 3 (upd (w 3) i x)) b) := by
  show ((ah_wr (w 3) 8 (nI i) x).bind fun f => some ((hx z w b).set 8 (.inl (0, 8, .inl f)))) = _
  rw [ah_wrN hi (by decide)]
  rfl
theorem hx_li9 (z : Nat → Int32) (w : Nat → Nat → Int32) (b : Int64) : ∀ i, ah_li (hx z w b) 9 0 i = ah_rd (w 4) 20 i := fun _ => Eq.trans rfl rfl
theorem hx_ai9 (z : Nat → Int32) (w : Nat → Nat → Int32) (b : Int64) : ah_ai (hx z w b) 9 0 = some (20, w 4) := Eq.trans rfl rfl
theorem hx_set9 (z : Nat → Int32) (w : Nat → Nat → Int32) (b : Int64) (f : Nat → Int32) : (hx z w b).set 9 (.inl (0, 20, .inl f)) = hx z (va_up w 4 f) b := rfl
theorem hx_si9 (z : Nat → Int32) (w : Nat → Nat → Int32) (b : Int64) (i : Nat) (x : Int32) (hi : i < 20) : ah_si (hx z w b) 9 0 (nI i) x = some (hx z (va_up w 4 (upd (w 4) i x)) b) := by
  show ((ah_wr (w 4) 20 (nI i) x).bind fun f => some ((hx z w b).set 9 (.inl (0, 20, .inl f)))) = _
  rw [ah_wrN hi (by decide)]
  rfl
theorem hx_li10 (z : Nat → Int32) (w : Nat → Nat → Int32) (b : Int64) : ∀ i, ah_li (hx z w b) 10 0 i = ah_rd (w 5) 7 i := fun _ => Eq.trans rfl rfl
theorem hx_ai10 (z : Nat → Int32) (w : Nat → Nat → Int32) (b : Int64) : ah_ai (hx z w b) 10 0 = some (7, w 5) := Eq.trans rfl rfl
theorem hx_set10 (z : Nat → Int32) (w : Nat → Nat → Int32) (b : Int64) (f : Nat → Int32) : (hx z w b).set 10 (.inl (0, 7, .inl f)) = hx z (va_up w 5 f) b := rfl
theorem hx_si10 (z : Nat → Int32) (w : Nat → Nat → Int32) (b : Int64) (i : Nat) (x : Int32) (hi : i < 7) : ah_si (hx z w b) 10 0 (nI i) x = some (hx z (va_up w 5 (upd (w 5) i x)) b) := by
  show ((ah_wr (w 5) 7 (nI i) x).bind fun f => some ((hx z w b).set 10 (.inl (0, 7, .inl f)))) = _
  rw [ah_wrN hi (by decide)]
  rfl
theorem hx_li12 (z : Nat → Int32) (w : Nat → Nat → Int32) (b : Int64) : ∀ i, ah_li (hx z w b) 12 0 i = ah_rd (w 6) 7 i := fun _ => Eq.trans rfl rfl
theorem hx_ai12 (z : Nat → Int32) (w : Nat → Nat → Int32) (b : Int64) : ah_ai (hx z w b) 12 0 = some (7, w 6) := Eq.trans rfl rfl
theorem hx_set12 (z : Nat → Int32) (w : Nat → Nat → Int32) (b : Int64) (f : Nat → Int32) : (hx z w b).set 12 (.inl (0, 7, .inl f)) = hx z (va_up w 6 f) b := rfl
theorem hx_si12 (z : Nat → Int32) (w : Nat → Nat → Int32) (b : Int64) (i : Nat) (x : Int32) (hi : i < 7) : ah_si (hx z w b) 12 0 (nI i) x = some (hx z (va_up w 6 (upd (w 6) i x)) b) := by
  show ((ah_wr (w 6) 7 (nI i) x).bind fun f => some ((hx z w b).set 12 (.inl (0, 7, .inl f)))) = _
  rw [ah_wrN hi (by decide)]
  rfl
theorem hx_li13 (z : Nat → Int32) (w : Nat → Nat → Int32) (b : Int64) : ∀ i, ah_li (hx z w b) 13 0 i = ah_rd (w 7) 7 i := fun _ => Eq.trans rfl rfl
theorem hx_ai13 (z : Nat → Int32) (w : Nat → Nat → Int32) (b : Int64) : ah_ai (hx z w b) 13 0 = some (7, w 7) := Eq.trans rfl rfl
theorem hx_set13 (z : Nat → Int32) (w : Nat → Nat → Int32) (b : Int64) (f : Nat → Int32) : (hx z w b).set 13 (.inl (0, 7, .inl f)) = hx z (va_up w 7 f) b := rfl
theorem hx_si13 (z : Nat → Int32) (w : Nat → Nat → Int32) (b : Int64) (i : Nat) (x : Int32) (hi : i < 7) : ah_si (hx z w b) 13 0 (nI i) x = some (hx z (va_up w 7 (upd (w 7) i x)) b) := by
  show ((ah_wr (w 7) 7 (nI i) x).bind fun f => some ((hx z w b).set 13 (.inl (0, 7, .inl f)))) = _
  rw [ah_wrN hi (by decide)]
  rfl
theorem hx_li14 (z : Nat → Int32) (w : Nat → Nat → Int32) (b : Int64) : ∀ i, ah_li (hx z w b) 14 0 i = ah_rd (w 8) 7 i := fun _ => Eq.trans rfl rfl
theorem hx_ai14 (z : Nat → Int32) (w : Nat → Nat → Int32) (b : Int64) : ah_ai (hx z w b) 14 0 = some (7, w 8) := Eq.trans rfl rfl
theorem hx_set14 (z : Nat → Int32) (w : Nat → Nat → Int32) (b : Int64) (f : Nat → Int32) : (hx z w b).set 14 (.inl (0, 7, .inl f)) = hx z (va_up w 8 f) b := rfl
theorem hx_si14 (z : Nat → Int32) (w : Nat → Nat → Int32) (b : Int64) (i : Nat) (x : Int32) (hi : i < 7) : ah_si (hx z w b) 14 0 (nI i) x = some (hx z (va_up w 8 (upd (w 8) i x)) b) := by
  show ((ah_wr (w 8) 7 (nI i) x).bind fun f => some ((hx z w b).set 14 (.inl (0, 7, .inl f)))) = _
  rw [ah_wrN hi (by decide)]
  rfl
theorem hx_li16 (z : Nat → Int32) (w : Nat → Nat → Int32) (b : Int64) : ∀ i, ah_li (hx z w b) 16 0 i = ah_rd (w 9) 8 i := fun _ => Eq.trans rfl rfl
theorem hx_ai16 (z : Nat → Int32) (w : Nat → Nat → Int32) (b : Int64) : ah_ai (hx z w b) 16 0 = some (8, w 9) := Eq.trans rfl rfl
theorem hx_set16 (z : Nat → Int32) (w : Nat → Nat → Int32) (b : Int64) (f : Nat → Int32) : (hx z w b).set 16 (.inl (0, 8, .inl f)) = hx z (va_up w 9 f) b := rfl
theorem hx_si16 (z : Nat → Int32) (w : Nat → Nat → Int32) (b : Int64) (i : Nat) (x : Int32) (hi : i < 8) : ah_si (hx z w b) 16 0 (nI i) x = some (hx z (va_up w 9 (upd (w 9) i x)) b) := by
  show ((ah_wr (w 9) 8 (nI i) x).bind fun f => some ((hx z w b).set 16 (.inl (0, 8, .inl f)))) = _
  rw [ah_wrN hi (by decide)]
  rfl
theorem hx_li17 (z : Nat → Int32) (w : Nat → Nat → Int32) (b : Int64) : ∀ i, ah_li (hx z w b) 17 0 i = ah_rd (w 10) 8 i := fun _ => Eq.trans rfl rfl
theorem hx_ai17 (z : Nat → Int32) (w : Nat → Nat → Int32) (b : Int64) : ah_ai (hx z w b) 17 0 = some (8, w 10) := Eq.trans rfl rfl
theorem hx_set17 (z : Nat → Int32) (w : Nat → Nat → Int32) (b : Int64) (f : Nat → Int32) : (hx z w b).set 17 (.inl (0, 8, .inl f)) = hx z (va_up w 10 f) b := rfl
theorem hx_si17 (z : Nat → Int32) (w : Nat → Nat → Int32) (b : Int64) (i : Nat) (x : Int32) (hi : i < 8) : ah_si (hx z w b) 17 0 (nI i) x = some (hx z (va_up w 10 (upd (w 10) i x)) b) := by
  show ((ah_wr (w 10) 8 (nI i) x).bind fun f => some ((hx z w b).set 17 (.inl (0, 8, .inl f)))) = _
  rw [ah_wrN hi (by decide)]
  rfl
theorem hx_li18 (z : Nat → Int32) (w : Nat → Nat → Int32) (b : Int64) : ∀ i, ah_li (hx z w b) 18 0 i = ah_rd (w 11) 8 i := fun _ => Eq.trans rfl rfl
theorem hx_ai18 (z : Nat → Int32) (w : Nat → Nat → Int32) (b : Int64) : ah_ai (hx z w b) 18 0 = some (8, w 11) := Eq.trans rfl rfl
theorem hx_set18 (z : Nat → Int32) (w : Nat → Nat → Int32) (b : Int64) (f : Nat → Int32) : (hx z w b).set 18 (.inl (0, 8, .inl f)) = hx z (va_up w 11 f) b := rfl
theorem hx_si18 (z : Nat → Int32) (w : Nat → Nat → Int32) (b : Int64) (i : Nat) (x : Int32) (hi : i < 8) : ah_si (hx z w b) 18 0 (nI i) x = some (hx z (va_up w 11 (upd (w 11) i x)) b) := by
  show ((ah_wr (w 11) 8 (nI i) x).bind fun f => some ((hx z w b).set 18 (.inl (0, 8, .inl f)))) = _
  rw [ah_wrN hi (by decide)]
  rfl
theorem hx_li19 (z : Nat → Int32) (w : Nat → Nat → Int32) (b : Int64) : ∀ i, ah_li (hx z w b) 19 0 i = ah_rd (w 12) 20 i := fun _ => Eq.trans rfl rfl
theorem hx_ai19 (z : Nat → Int32) (w : Nat → Nat → Int32) (b : Int64) : ah_ai (hx z w b) 19 0 = some (20, w 12) := Eq.trans rfl rfl
theorem hx_set19 (z : Nat → Int32) (w : Nat → Nat → Int32) (b : Int64) (f : Nat → Int32) : (hx z w b).set 19 (.inl (0, 20, .inl f)) = hx z (va_up w 12 f) b := rfl
theorem hx_si19 (z : Nat → Int32) (w : Nat → Nat → Int32) (b : Int64) (i : Nat) (x : Int32) (hi : i < 20) : ah_si (hx z w b) 19 0 (nI i) x = some (hx z (va_up w 12 (upd (w 12) i x)) b) := by
  show ((ah_wr (w 12) 20 (nI i) x).bind fun f => some ((hx z w b).set 19 (.inl (0, 20, .inl f)))) = _
  rw [ah_wrN hi (by decide)]
  rfl
theorem hx_li21 (z : Nat → Int32) (w : Nat → Nat → Int32) (b : Int64) : ∀ i, ah_li (hx z w b) 21 0 i = ah_rd (w 13) 7 i := fun _ => Eq.trans rfl rfl
theorem hx_ai21 (z : Nat → Int32) (w : Nat → Nat → Int32) (b : Int64) : ah_ai (hx z w b) 21 0 = some (7, w 13) := Eq.trans rfl rfl
theorem hx_set21 (z : Nat → Int32) (w : Nat → Nat → Int32) (b : Int64) (f : Nat → Int32) : (hx z w b).set 21 (.inl (0, 7, .inl f)) = hx z (va_up w 13 f) b := rfl
theorem hx_si21 (z : Nat → Int32) (w : Nat → Nat → Int32) (b : Int64) (i : Nat) (x : Int32) (hi : i < 7) : ah_si (hx z w b) 21 0 (nI i) x = some (hx z (va_up w 13 (upd (w 13) i x)) b) := by
  show ((ah_wr (w 13) 7 (nI i) x).bind fun f => some ((hx z w b).set 21 (.inl (0, 7, .inl f)))) = _
  rw [ah_wrN hi (by decide)]
  rfl
theorem hx_li22 (z : Nat → Int32) (w : Nat → Nat → Int32) (b : Int64) : ∀ i, ah_li (hx z w b) 22 0 i = ah_rd (w 14) 7 i := fun _ => Eq.trans rfl rfl
theorem hx_ai22 (z : Nat → Int32) (w : Nat → Nat → Int32) (b : Int64) : ah_ai (hx z w b) 22 0 = some (7, w 14) := Eq.trans rfl rfl
theorem hx_set22 (z : Nat → Int32) (w : Nat → Nat → Int32) (b : Int64) (f : Nat → Int32) : (hx z w b).set 22 (.inl (0, 7, .inl f)) = hx z (va_up w 14 f) b := rfl
theorem hx_si22 (z : Nat → Int32) (w : Nat → Nat → Int32) (b : Int64) (i : Nat) (x : Int32) (hi : i < 7) : ah_si (hx z w b) 22 0 (nI i) x = some (hx z (va_up w 14 (upd (w 14) i x)) b) := by
  show ((ah_wr (w 14) 7 (nI i) x).bind fun f => some ((hx z w b).set 22 (.inl (0, 7, .inl f)))) = _
  rw [ah_wrN hi (by decide)]
  rfl
theorem hx_li24 (z : Nat → Int32) (w : Nat → Nat → Int32) (b : Int64) : ∀ i, ah_li (hx z w b) 24 0 i = ah_rd (w 15) 7 i := fun _ => Eq.trans rfl rfl
theorem hx_ai24 (z : Nat → Int32) (w : Nat → Nat → Int32) (b : Int64) : ah_ai (hx z w b) 24 0 = some (7, w 15) := Eq.trans rfl rfl
theorem hx_set24 (z : Nat → Int32) (w : Nat → Nat → Int32) (b : Int64) (f : Nat → Int32) : (hx z w b).set 24 (.inl (0, 7, .inl f)) = hx z (va_up w 15 f) b := rfl
theorem hx_si24 (z : Nat → Int32) (w : Nat → Nat → Int32) (b : Int64) (i : Nat) (x : Int32) (hi : i < 7) : ah_si (hx z w b) 24 0 (nI i) x = some (hx z (va_up w 15 (upd (w 15) i x)) b) := by
  show ((ah_wr (w 15) 7 (nI i) x).bind fun f => some ((hx z w b).set 24 (.inl (0, 7, .inl f)))) = _
  rw [ah_wrN hi (by decide)]
  rfl
theorem hx_li26 (z : Nat → Int32) (w : Nat → Nat → Int32) (b : Int64) : ∀ i, ah_li (hx z w b) 26 1 i = ah_rd (w 16) 7 i := fun _ => Eq.trans rfl rfl
theorem hx_ai26 (z : Nat → Int32) (w : Nat → Nat → Int32) (b : Int64) : ah_ai (hx z w b) 26 1 = some (7, w 16) := Eq.trans rfl rfl
theorem hx_set26 (z : Nat → Int32) (w : Nat → Nat → Int32) (b : Int64) (f : Nat → Int32) : (hx z w b).set 26 (.inl (1, 7, .inl f)) = hx z (va_up w 16 f) b := rfl
theorem hx_si26 (z : Nat → Int32) (w : Nat → Nat → Int32) (b : Int64) (i : Nat) (x : Int32) (hi : i < 7) : ah_si (hx z w b) 26 1 (nI i) x = some (hx z (va_up w 16 (upd (w 16) i x)) b) := by
  show ((ah_wr (w 16) 7 (nI i) x).bind fun f => some ((hx z w b).set 26 (.inl (1, 7, .inl f)))) = _
  rw [ah_wrN hi (by decide)]
  rfl
theorem hx_li27 (z : Nat → Int32) (w : Nat → Nat → Int32) (b : Int64) : ∀ i, ah_li (hx z w b) 27 0 i = ah_rd (w 30) 7 i := fun _ => Eq.trans rfl rfl
theorem hx_ai27 (z : Nat → Int32) (w : Nat → Nat → Int32) (b : Int64) : ah_ai (hx z w b) 27 0 = some (7, w 30) := Eq.trans rfl rfl
theorem hx_set27 (z : Nat → Int32) (w : Nat → Nat → Int32) (b : Int64) (f : Nat → Int32) : (hx z w b).set 27 (.inl (0, 7, .inl f)) = hx z (va_up w 30 f) b := rfl
theorem hx_si27 (z : Nat → Int32) (w : Nat → Nat → Int32) (b : Int64) (i : Nat) (x : Int32) (hi : i < 7) : ah_si (hx z w b) 27 0 (nI i) x = some (hx z (va_up w 30 (upd (w 30) i x)) b) := by
  show ((ah_wr (w 30) 7 (nI i) x).bind fun f => some ((hx z w b).set 27 (.inl (0, 7, .inl f)))) = _
  rw [ah_wrN hi (by decide)]
  rfl
theorem hx_li28 (z : Nat → Int32) (w : Nat → Nat → Int32) (b : Int64) : ∀ i, ah_li (hx z w b) 28 0 i = ah_rd (w 31) 7 i := fun _ => Eq.trans rfl rfl
theorem hx_ai28 (z : Nat → Int32) (w : Nat → Nat → Int32) (b : Int64) : ah_ai (hx z w b) 28 0 = some (7, w 31) := Eq.trans rfl rfl
theorem hx_set28 (z : Nat → Int32) (w : Nat → Nat → Int32) (b : Int64) (f : Nat → Int32) : (hx z w b).set 28 (.inl (0, 7, .inl f)) = hx z (va_up w 31 f) b := rfl
theorem hx_si28 (z : Nat → Int32) (w : Nat → Nat → Int32) (b : Int64) (i : Nat) (x : Int32) (hi : i < 7) : ah_si (hx z w b) 28 0 (nI i) x = some (hx z (va_up w 31 (upd (w 31) i x)) b) := by
  show ((ah_wr (w 31) 7 (nI i) x).bind fun f => some ((hx z w b).set 28 (.inl (0, 7, .inl f)))) = _
  rw [ah_wrN hi (by decide)]
  rfl
theorem hx_li29 (z : Nat → Int32) (w : Nat → Nat → Int32) (b : Int64) : ∀ i, ah_li (hx z w b) 29 0 i = ah_rd (w 32) 7 i := fun _ => Eq.trans rfl rfl
theorem hx_ai29 (z : Nat → Int32) (w : Nat → Nat → Int32) (b : Int64) : ah_ai (hx z w b) 29 0 = some (7, w 32) := Eq.trans rfl rfl
theorem hx_set29 (z : Nat → Int32) (w : Nat → Nat → Int32) (b : Int64) (f : Nat → Int32) : (hx z w b).set 29 (.inl (0, 7, .inl f)) = hx z (va_up w 32 f) b := rfl
theorem hx_si29 (z : Nat → Int32) (w : Nat → Nat → Int32) (b : Int64) (i : Nat) (x : Int32) (hi : i < 7) : ah_si (hx z w b) 29 0 (nI i) x = some (hx z (va_up w 32 (upd (w 32) i x)) b) := by
  show ((ah_wr (w 32) 7 (nI i) x).bind fun f => some ((hx z w b).set 29 (.inl (0, 7, .inl f)))) = _
  rw [ah_wrN hi (by decide)]
  rfl
theorem hx_li30 (z : Nat → Int32) (w : Nat → Nat → Int32) (b : Int64) : ∀ i, ah_li (hx z w b) 30 0 i = ah_rd (w 33) 7 i := fun _ => Eq.trans rfl rfl
theorem hx_ai30 (z : Nat → Int32) (w : Nat → Nat → Int32) (b : Int64) : ah_ai (hx z w b) 30 0 = some (7, w 33) := Eq.trans rfl rfl
theorem hx_set30 (z : Nat → Int32) (w : Nat → Nat → Int32) (b : Int64) (f : Nat → Int32) : (hx z w b).set 30 (.inl (0, 7, .inl f)) = hx z (va_up w 33 f) b := rfl
theorem hx_si30 (z : Nat → Int32) (w : Nat → Nat → Int32) (b : Int64) (i : Nat) (x : Int32) (hi : i < 7) : ah_si (hx z w b) 30 0 (nI i) x = some (hx z (va_up w 33 (upd (w 33) i x)) b) := by
  show ((ah_wr (w 33) 7 (nI i) x).bind fun f => some ((hx z w b).set 30 (.inl (0, 7, .inl f)))) = _
  rw [ah_wrN hi (by decide)]
  rfl
theorem hx_li31 (z : Nat → Int32) (w : Nat → Nat → Int32) (b : Int64) : ∀ i, ah_li (hx z w b) 31 0 i = ah_rd (w 34) 7 i := fun _ => Eq.trans rfl rfl
theorem hx_ai31 (z : Nat → Int32) (w : Nat → Nat → Int32) (b : Int64) : ah_ai (hx z w b) 31 0 = some (7, w 34) := Eq.trans rfl rfl
theorem hx_set31 (z : Nat → Int32) (w : Nat → Nat → Int32) (b : Int64) (f : Nat → Int32) : (hx z w b).set 31 (.inl (0, 7, .inl f)) = hx z (va_up w 34 f) b := rfl
theorem hx_si31 (z : Nat → Int32) (w : Nat → Nat → Int32) (b : Int64) (i : Nat) (x : Int32) (hi : i < 7) : ah_si (hx z w b) 31 0 (nI i) x = some (hx z (va_up w 34 (upd (w 34) i x)) b) := by
  show ((ah_wr (w 34) 7 (nI i) x).bind fun f => some ((hx z w b).set 31 (.inl (0, 7, .inl f)))) = _
  rw [ah_wrN hi (by decide)]
  rfl
theorem hx_li32 (z : Nat → Int32) (w : Nat → Nat → Int32) (b : Int64) : ∀ i, ah_li (hx z w b) 32 0 i = ah_rd (w 35) 7 i := fun _ => Eq.trans rfl rfl
theorem hx_ai32 (z : Nat → Int32) (w : Nat → Nat → Int32) (b : Int64) : ah_ai (hx z w b) 32 0 = some (7, w 35) := Eq.trans rfl rfl
theorem hx_set32 (z : Nat → Int32) (w : Nat → Nat → Int32) (b : Int64) (f : Nat → Int32) : (hx z w b).set 32 (.inl (0, 7, .inl f)) = hx z (va_up w 35 f) b := rfl
theorem hx_si32 (z : Nat → Int32) (w : Nat → Nat → Int32) (b : Int64) (i : Nat) (x : Int32) (hi : i < 7) : ah_si (hx z w b) 32 0 (nI i) x = some (hx z (va_up w 35 (upd (w 35) i x)) b) := by
  show ((ah_wr (w 35) 7 (nI i) x).bind fun f => some ((hx z w b).set 32 (.inl (0, 7, .inl f)))) = _
  rw [ah_wrN hi (by decide)]
  rfl
theorem hx_li33 (z : Nat → Int32) (w : Nat → Nat → Int32) (b : Int64) : ∀ i, ah_li (hx z w b) 33 0 i = ah_rd (w 36) 7 i := fun _ => Eq.trans rfl rfl
theorem hx_ai33 (z : Nat → Int32) (w : Nat → Nat → Int32) (b : Int64) : ah_ai (hx z w b) 33 0 = some (7, w 36) := Eq.trans rfl rfl
theorem hx_set33 (z : Nat → Int32) (w : Nat → Nat → Int32) (b : Int64) (f : Nat → Int32) : (hx z w b).set 33 (.inl (0, 7, .inl f)) = hx z (va_up w 36 f) b := rfl
theorem hx_si33 (z : Nat → Int32) (w : Nat → Nat → Int32) (b : Int64) (i : Nat) (x : Int32) (hi : i < 7) : ah_si (hx z w b) 33 0 (nI i) x = some (hx z (va_up w 36 (upd (w 36) i x)) b) := by
  show ((ah_wr (w 36) 7 (nI i) x).bind fun f => some ((hx z w b).set 33 (.inl (0, 7, .inl f)))) = _
  rw [ah_wrN hi (by decide)]
  rfl
theorem hx_lr4 (z : Nat → Int32) (w : Nat → Nat → Int32) (b : Int64) (i : Nat) (hi : i < 7) : ah_lr (hx z w b) 4 2 (nI i) = some (34 + i) := by
  show ah_rr hx_sg 7 (nI i) = _
  rw [ah_rrN hi (by decide)]
  exact if_pos hi
theorem hx_lr23 (z : Nat → Int32) (w : Nat → Nat → Int32) (b : Int64) (i : Nat) (hi : i < 7) : ah_lr (hx z w b) 23 3 (nI i) = some (27 + i) := by
  show ah_rr hx_lk 7 (nI i) = _
  rw [ah_rrN hi (by decide)]
  exact if_pos hi
theorem hx_7 {P : Nat → Prop} (h0 : P 0) (h1 : P 1) (h2 : P 2) (h3 : P 3) (h4 : P 4) (h5 : P 5) (h6 : P 6) {i : Nat} (hi : i < 7) : P i := by
  rcases (show i = 0 ∨ i = 1 ∨ i = 2 ∨ i = 3 ∨ i = 4 ∨ i = 5 ∨ i = 6 by omega) with rfl | rfl | rfl | rfl | rfl | rfl | rfl <;> assumption
theorem hx_sob (z : Nat → Int32) (w : Nat → Nat → Int32) (b : Int64) (i : Nat) (hi : i < 7) : ah_ob (hx z w b) (34 + i) = some (hx_kc (w 17 i), [.int (w 18 i), .int (w 19 i), .int (w 20 i), .int (w 21 i)]) := hx_7 (P := fun i => ah_ob (hx z w b) (34 + i) = some (hx_kc (w 17 i), [.int (w 18 i), .int (w 19 i), .int (w 20 i), .int (w 21 i)])) rfl rfl rfl rfl rfl rfl rfl hi
theorem hx_sf0 (z : Nat → Int32) (w : Nat → Nat → Int32) (b : Int64) (i : Nat) (hi : i < 7) : ah_fi (hx z w b) (34 + i) [1, 3, 5, 8, 9] 0 = some (w 18 i) := by
  show ah_aI ((ah_ob (hx z w b) (34 + i)).bind fun q => bif ah_in q.1 [1, 3, 5, 8, 9] then q.2[0]? else none) = _
  rw [hx_sob z w b i hi]
  show ah_aI (bif ah_in (hx_kc (w 17 i)) [1, 3, 5, 8, 9] then _ else none) = _
  rw [hx_kc_in]
  rfl
theorem hx_sf1 (z : Nat → Int32) (w : Nat → Nat → Int32) (b : Int64) (i : Nat) (hi : i < 7) : ah_fi (hx z w b) (34 + i) [1, 3, 5, 8, 9] 1 = some (w 19 i) := by
  show ah_aI ((ah_ob (hx z w b) (34 + i)).bind fun q => bif ah_in q.1 [1, 3, 5, 8, 9] then q.2[1]? else none) = _
  rw [hx_sob z w b i hi]
  show ah_aI (bif ah_in (hx_kc (w 17 i)) [1, 3, 5, 8, 9] then _ else none) = _
  rw [hx_kc_in]
  rfl
theorem hx_ss1 (z : Nat → Int32) (w : Nat → Nat → Int32) (b : Int64) (i : Nat) (x : Int32) (hi : i < 7) : ah_sv (hx z w b) (34 + i) [1, 3, 5, 8, 9] 1 (.int x) = some (hx z (va_up w 19 (upd (w 19) i x)) b) := by
  show ((ah_ob (hx z w b) (34 + i)).bind fun q => bif ah_in q.1 [1, 3, 5, 8, 9] && Nat.blt 1 q.2.length then some ((hx z w b).set (34 + i) (.inr (q.1, q.2.set 1 (.int x)))) else none) = _
  rw [hx_sob z w b i hi]
  show (bif ah_in (hx_kc (w 17 i)) [1, 3, 5, 8, 9] && true then _ else none) = _
  rw [hx_kc_in]
  exact hx_7 (P := fun i => some ((hx z w b).set (34 + i) (.inr (hx_kc (w 17 i), List.set [.int (w 18 i), .int (w 19 i), .int (w 20 i), .int (w 21 i)] 1 (.int x)))) = some (hx z (va_up w 19 (upd (w 19) i x)) b)) rfl rfl rfl rfl rfl rfl rfl hi
theorem hx_sf2 (z : Nat → Int32) (w : Nat → Nat → Int32) (b : Int64) (i : Nat) (hi : i < 7) : ah_fi (hx z w b) (34 + i) [1, 3, 5, 8, 9] 2 = some (w 20 i) := by
  show ah_aI ((ah_ob (hx z w b) (34 + i)).bind fun q => bif ah_in q.1 [1, 3, 5, 8, 9] then q.2[2]? else none) = _
  rw [hx_sob z w b i hi]
  show ah_aI (bif ah_in (hx_kc (w 17 i)) [1, 3, 5, 8, 9] then _ else none) = _
  rw [hx_kc_in]
  rfl
theorem hx_ss2 (z : Nat → Int32) (w : Nat → Nat → Int32) (b : Int64) (i : Nat) (x : Int32) (hi : i < 7) : ah_sv (hx z w b) (34 + i) [1, 3, 5, 8, 9] 2 (.int x) = some (hx z (va_up w 20 (upd (w 20) i x)) b) := by
  show ((ah_ob (hx z w b) (34 + i)).bind fun q => bif ah_in q.1 [1, 3, 5, 8, 9] && Nat.blt 2 q.2.length then some ((hx z w b).set (34 + i) (.inr (q.1, q.2.set 2 (.int x)))) else none) = _
  rw [hx_sob z w b i hi]
  show (bif ah_in (hx_kc (w 17 i)) [1, 3, 5, 8, 9] && true then _ else none) = _
  rw [hx_kc_in]
  exact hx_7 (P := fun i => some ((hx z w b).set (34 + i) (.inr (hx_kc (w 17 i), List.set [.int (w 18 i), .int (w 19 i), .int (w 20 i), .int (w 21 i)] 2 (.int x)))) = some (hx z (va_up w 20 (upd (w 20) i x)) b)) rfl rfl rfl rfl rfl rfl rfl hi
theorem hx_sf3 (z : Nat → Int32) (w : Nat → Nat → Int32) (b : Int64) (i : Nat) (hi : i < 7) : ah_fi (hx z w b) (34 + i) [1, 3, 5, 8, 9] 3 = some (w 21 i) := by
  show ah_aI ((ah_ob (hx z w b) (34 + i)).bind fun q => bif ah_in q.1 [1, 3, 5, 8, 9] then q.2[3]? else none) = _
  rw [hx_sob z w b i hi]
  show ah_aI (bif ah_in (hx_kc (w 17 i)) [1, 3, 5, 8, 9] then _ else none) = _
  rw [hx_kc_in]
  rfl
theorem hx_ss3 (z : Nat → Int32) (w : Nat → Nat → Int32) (b : Int64) (i : Nat) (x : Int32) (hi : i < 7) : ah_sv (hx z w b) (34 + i) [1, 3, 5, 8, 9] 3 (.int x) = some (hx z (va_up w 21 (upd (w 21) i x)) b) := by
  show ((ah_ob (hx z w b) (34 + i)).bind fun q => bif ah_in q.1 [1, 3, 5, 8, 9] && Nat.blt 3 q.2.length then some ((hx z w b).set (34 + i) (.inr (q.1, q.2.set 3 (.int x)))) else none) = _
  rw [hx_sob z w b i hi]
  show (bif ah_in (hx_kc (w 17 i)) [1, 3, 5, 8, 9] && true then _ else none) = _
  rw [hx_kc_in]
  exact hx_7 (P := fun i => some ((hx z w b).set (34 + i) (.inr (hx_kc (w 17 i), List.set [.int (w 18 i), .int (w 19 i), .int (w 20 i), .int (w 21 i)] 3 (.int x)))) = some (hx z (va_up w 21 (upd (w 21) i x)) b)) rfl rfl rfl rfl rfl rfl rfl hi
theorem hx_lkli (z : Nat → Int32) (w : Nat → Nat → Int32) (b : Int64) (i : Nat) (j : Int32) (hi : i < 7) : ah_li (hx z w b) (27 + i) 0 j = ah_rd (w (30 + i)) 7 j := hx_7 (P := fun i => ah_li (hx z w b) (27 + i) 0 j = ah_rd (w (30 + i)) 7 j) rfl rfl rfl rfl rfl rfl rfl hi
theorem hx_lkai (z : Nat → Int32) (w : Nat → Nat → Int32) (b : Int64) (i : Nat) (hi : i < 7) : ah_ai (hx z w b) (27 + i) 0 = some (7, w (30 + i)) := hx_7 (P := fun i => ah_ai (hx z w b) (27 + i) 0 = some (7, w (30 + i))) rfl rfl rfl rfl rfl rfl rfl hi
theorem hx_lkset (z : Nat → Int32) (w : Nat → Nat → Int32) (b : Int64) (i : Nat) (f : Nat → Int32) (hi : i < 7) : (hx z w b).set (27 + i) (.inl (0, 7, .inl f)) = hx z (va_up w (30 + i) f) b := hx_7 (P := fun i => (hx z w b).set (27 + i) (.inl (0, 7, .inl f)) = hx z (va_up w (30 + i) f) b) rfl rfl rfl rfl rfl rfl rfl hi
theorem hx_lksi (z : Nat → Int32) (w : Nat → Nat → Int32) (b : Int64) (i j : Nat) (x : Int32) (hi : i < 7) (hj : j < 7) : ah_si (hx z w b) (27 + i) 0 (nI j) x = some (hx z (va_up w (30 + i) (upd (w (30 + i)) j x)) b) := by
  unfold ah_si
  rw [hx_lkai z w b i hi]
  show ((ah_wr (w (30 + i)) 7 (nI j) x).bind fun f => some ((hx z w b).set (27 + i) (.inl (0, 7, .inl f)))) = _
  rw [ah_wrN hj (by decide)]
  exact congrArg some (hx_lkset z w b i _ hi)
