/-! other places for the same cells -/
theorem at_re {D : va_G} {cl : List vw_C} {A : Nat → Prop} {ad : Nat → Nat} {tc : Nat → ClassId} {h h2 : ah_H} {H : Heap} (π : Nat → Nat) (hπ : ∀ k e, h2[k]? = some e → ∃ e2, h[π k]? = some e2 ∧ ah_e ad tc e2 = ah_e (fun k => ad (π k)) tc e) (hinj : ∀ i j, i < h2.length → j < h2.length → π i = π j → i = j) (hP : va_P D cl (ah_w ad tc h) H) (hD : va_D A (ah_w ad tc h)) : va_P D cl (ah_w (fun k => ad (π k)) tc h2) H ∧ va_D A (ah_w (fun k => ad (π k)) tc h2) := by
  refine ⟨fun k q hk => ?_, fun i j p q hi hj e => ?_, fun k q hk => ?_⟩
  · obtain ⟨e, he, rfl⟩ := ah_w_inv hk
    obtain ⟨e2, h1, h3⟩ := hπ k e he
    rw [← h3]
    exact hP (π k) _ (ah_w_get h1)
  · obtain ⟨e1, he1, rfl⟩ := ah_w_inv hi
    obtain ⟨e2, he2, rfl⟩ := ah_w_inv hj
    obtain ⟨x1, g1, -⟩ := hπ i e1 he1
    obtain ⟨x2, g2, -⟩ := hπ j e2 he2
    have := hD.1 (π i) (π j) _ _ (ah_w_get g1) (ah_w_get g2) e
    exact hinj i j (List.getElem?_eq_some_iff.mp he1).1 (List.getElem?_eq_some_iff.mp he2).1 this
  · obtain ⟨e1, he1, rfl⟩ := ah_w_inv hk
    obtain ⟨x1, g1, -⟩ := hπ k e1 he1
    show A (ad (π k))
    exact hD.2 (π k) (ad (π k), ah_e ad tc x1) (ah_w_get g1)
def dr_p (n k : Nat) : Nat := if 34 ≤ k ∧ k < 34 + n then k + 7 else k
theorem dr_arr (ad : Nat → Nat) (tc : Nat → ClassId) (n : Nat) (hn : n ≤ 7) : ah_e ad tc (.inl (2, 7, .inr (dr_F n))) = ah_e (fun k => ad (dr_p n k)) tc (.inl (2, 7, .inr hx_sg)) := by
  show (.inl (tc 2, 7, .inr (.inr (.inr (.inr (fun j => (dr_F n j).map ad))))) : va_E) = .inl (tc 2, 7, .inr (.inr (.inr (.inr (fun j => (hx_sg j).map (fun k => ad (dr_p n k)))))))
  have : (fun j => (dr_F n j).map ad) = fun j => (hx_sg j).map (fun k => ad (dr_p n k)) := by
    funext j
    unfold dr_F hx_sg dr_p
    by_cases h7 : j < 7
    · rw [if_pos h7]
      by_cases hj : j < n
      · rw [if_pos hj]
        show some (ad (41 + j)) = some (ad (if 34 ≤ 34 + j ∧ 34 + j < 34 + n then 34 + j + 7 else 34 + j))
        rw [if_pos (by omega), show 34 + j + 7 = 41 + j by omega]
      · rw [if_neg hj]
        show some (ad (34 + j)) = some (ad (if 34 ≤ 34 + j ∧ 34 + j < 34 + n then 34 + j + 7 else 34 + j))
        rw [if_neg (by omega)]
    · rw [if_neg h7, if_neg (by omega)]
      rfl
  rw [this]
def dr_w (w : Nat → Nat → Int32) (c : Nat → Int32) (n : Nat) : Nat → Nat → Int32 := va_up (va_up (va_up (va_up (va_up w 17 (gm_cpy (fun i => ah_ix (c (5 * i))) (w 17) n)) 18 (gm_cpy (fun i => c (5 * i + 1) - 48) (w 18) n)) 19 (gm_cpy (fun i => c (5 * i + 2) - 48) (w 19) n)) 20 (gm_cpy (fun i => c (5 * i + 3) - 48) (w 20) n)) 21 (gm_cpy (fun _ => -1) (w 21) n)
theorem dr_w17 (w : Nat → Nat → Int32) (c : Nat → Int32) (n : Nat) : dr_w w c n 17 = gm_cpy (fun i => ah_ix (c (5 * i))) (w 17) n := rfl
theorem dr_w18 (w : Nat → Nat → Int32) (c : Nat → Int32) (n : Nat) : dr_w w c n 18 = gm_cpy (fun i => c (5 * i + 1) - 48) (w 18) n := rfl
theorem dr_w19 (w : Nat → Nat → Int32) (c : Nat → Int32) (n : Nat) : dr_w w c n 19 = gm_cpy (fun i => c (5 * i + 2) - 48) (w 19) n := rfl
theorem dr_w20 (w : Nat → Nat → Int32) (c : Nat → Int32) (n : Nat) : dr_w w c n 20 = gm_cpy (fun i => c (5 * i + 3) - 48) (w 20) n := rfl
theorem dr_w21 (w : Nat → Nat → Int32) (c : Nat → Int32) (n : Nat) : dr_w w c n 21 = gm_cpy (fun _ => -1) (w 21) n := rfl
theorem dr_lk (ad : Nat → Nat) (tc : Nat → ClassId) (n : Nat) : ah_e ad tc (.inl (3, 7, .inr hx_lk)) = ah_e (fun k => ad (dr_p n k)) tc (.inl (3, 7, .inr hx_lk)) := by
  show (.inl (tc 3, 7, .inr (.inr (.inr (.inr (fun j => (hx_lk j).map ad))))) : va_E) = .inl (tc 3, 7, .inr (.inr (.inr (.inr (fun j => (hx_lk j).map (fun k => ad (dr_p n k)))))))
  have : (fun j => (hx_lk j).map ad) = fun j => (hx_lk j).map (fun k => ad (dr_p n k)) := by
    funext j
    unfold hx_lk dr_p
    by_cases h7 : j < 7
    · rw [if_pos h7]
      show some (ad (27 + j)) = some (ad (if 34 ≤ 27 + j ∧ 27 + j < 34 + n then 27 + j + 7 else 27 + j))
      rw [if_neg (by omega)]
    · rw [if_neg h7]
      rfl
  rw [this]
theorem dr_Lg (c : Nat → Int32) : ∀ (n i : Nat), i < n → (dr_L c n)[i]? = some (dr_cell c i)
  | 0, i, h => absurd h (Nat.not_lt_zero _)
  | n + 1, i, h => by
    show (dr_L c n ++ [dr_cell c n])[i]? = _
    by_cases e : i < n
    · rw [List.getElem?_append_left (by rw [dr_Ll]; exact e)]
      exact dr_Lg c n i e
    · have : i = n := by omega
      subst this
      rw [List.getElem?_append_right (by rw [dr_Ll]; exact Nat.le_refl _), dr_Ll, Nat.sub_self]
      rfl
theorem dr_kc (x : Int32) : hx_kc (ah_ix x) = sg_kc x := rfl
def dr_sc (w : Nat → Nat → Int32) (i : Nat) : ah_E := .inr (hx_kc (w 17 i), [.int (w 18 i), .int (w 19 i), .int (w 20 i), .int (w 21 i)])
theorem hx_sc (z : Nat → Int32) (w : Nat → Nat → Int32) (b : Int64) (i : Nat) (hi : i < 7) : (hx z w b)[34 + i]? = some (dr_sc w i) := by
  rcases (show i = 0 ∨ i = 1 ∨ i = 2 ∨ i = 3 ∨ i = 4 ∨ i = 5 ∨ i = 6 by omega) with rfl | rfl | rfl | rfl | rfl | rfl | rfl <;> rfl
theorem hq_sc (z : Nat → Int32) (w : Nat → Nat → Int32) (b : Int64) (F : Nat → Option Nat) (L : ah_H) (i : Nat) (hi : i < 7) : (hq z w b F ++ L)[34 + i]? = some (dr_sc w i) := by
  rcases (show i = 0 ∨ i = 1 ∨ i = 2 ∨ i = 3 ∨ i = 4 ∨ i = 5 ∨ i = 6 by omega) with rfl | rfl | rfl | rfl | rfl | rfl | rfl <;> rfl
theorem dr_pi (z : Nat → Int32) (w : Nat → Nat → Int32) (b : Int64) (n : Nat) (hn : n ≤ 7) (ad : Nat → Nat) (tc : Nat → ClassId) : ∀ k e, (hx z (dr_w w (w 0) n) b)[k]? = some e → ∃ e2, (hq z w b (dr_F n) ++ dr_L (w 0) n)[dr_p n k]? = some e2 ∧ ah_e ad tc e2 = ah_e (fun k => ad (dr_p n k)) tc e := by
  intro k e he
  have hk : k < 41 := (List.getElem?_eq_some_iff.mp he).1
  by_cases h34 : k < 34
  · rcases (show k = 0 ∨ k = 1 ∨ k = 2 ∨ k = 3 ∨ k = 4 ∨ k = 5 ∨ k = 6 ∨ k = 7 ∨ k = 8 ∨ k = 9 ∨ k = 10 ∨ k = 11 ∨ k = 12 ∨ k = 13 ∨ k = 14 ∨ k = 15 ∨ k = 16 ∨ k = 17 ∨ k = 18 ∨ k = 19 ∨ k = 20 ∨ k = 21 ∨ k = 22 ∨ k = 23 ∨ k = 24 ∨ k = 25 ∨ k = 26 ∨ k = 27 ∨ k = 28 ∨ k = 29 ∨ k = 30 ∨ k = 31 ∨ k = 32 ∨ k = 33 by omega) with rfl | rfl | rfl | rfl | rfl | rfl | rfl | rfl | rfl | rfl | rfl | rfl | rfl | rfl | rfl | rfl | rfl | rfl | rfl | rfl | rfl | rfl | rfl | rfl | rfl | rfl | rfl | rfl | rfl | rfl | rfl | rfl | rfl | rfl
    · exact ⟨_, rfl, by have he := Option.some.inj he; subst he; rfl⟩
    · exact ⟨_, rfl, by have he := Option.some.inj he; subst he; rfl⟩
    · exact ⟨_, rfl, by have he := Option.some.inj he; subst he; rfl⟩
    · exact ⟨_, rfl, by have he := Option.some.inj he; subst he; rfl⟩
    · exact ⟨_, rfl, by have he := Option.some.inj he; subst he; exact dr_arr ad tc n hn⟩
    · exact ⟨_, rfl, by have he := Option.some.inj he; subst he; rfl⟩
    · exact ⟨_, rfl, by have he := Option.some.inj he; subst he; rfl⟩
    · exact ⟨_, rfl, by have he := Option.some.inj he; subst he; rfl⟩
    · exact ⟨_, rfl, by have he := Option.some.inj he; subst he; rfl⟩
    · exact ⟨_, rfl, by have he := Option.some.inj he; subst he; rfl⟩
    · exact ⟨_, rfl, by have he := Option.some.inj he; subst he; rfl⟩
    · exact ⟨_, rfl, by have he := Option.some.inj he; subst he; rfl⟩
    · exact ⟨_, rfl, by have he := Option.some.inj he; subst he; rfl⟩
    · exact ⟨_, rfl, by have he := Option.some.inj he; subst he; rfl⟩
    · exact ⟨_, rfl, by have he := Option.some.inj he; subst he; rfl⟩
    · exact ⟨_, rfl, by have he := Option.some.inj he; subst he; rfl⟩
    · exact ⟨_, rfl, by have he := Option.some.inj he; subst he; rfl⟩
    · exact ⟨_, rfl, by have he := Option.some.inj he; subst he; rfl⟩
    · exact ⟨_, rfl, by have he := Option.some.inj he; subst he; rfl⟩
    · exact ⟨_, rfl, by have he := Option.some.inj he; subst he; rfl⟩
    · exact ⟨_, rfl, by have he := Option.some.inj he; subst he; rfl⟩
    · exact ⟨_, rfl, by have he := Option.some.inj he; subst he; rfl⟩
    · exact ⟨_, rfl, by have he := Option.some.inj he; subst he; rfl⟩
    · exact ⟨_, rfl, by have he := Option.some.inj he; subst he; exact dr_lk ad tc n⟩
    · exact ⟨_, rfl, by have he := Option.some.inj he; subst he; rfl⟩
    · exact ⟨_, rfl, by have he := Option.some.inj he; subst he; rfl⟩
    · exact ⟨_, rfl, by have he := Option.some.inj he; subst he; rfl⟩
    · exact ⟨_, rfl, by have he := Option.some.inj he; subst he; rfl⟩
    · exact ⟨_, rfl, by have he := Option.some.inj he; subst he; rfl⟩
    · exact ⟨_, rfl, by have he := Option.some.inj he; subst he; rfl⟩
    · exact ⟨_, rfl, by have he := Option.some.inj he; subst he; rfl⟩
    · exact ⟨_, rfl, by have he := Option.some.inj he; subst he; rfl⟩
    · exact ⟨_, rfl, by have he := Option.some.inj he; subst he; rfl⟩
    · exact ⟨_, rfl, by have he := Option.some.inj he; subst he; rfl⟩
  · obtain ⟨i, rfl⟩ : ∃ i, k = 34 + i := ⟨k - 34, by omega⟩
    have i7 : i < 7 := by omega
    rw [hx_sc _ _ _ i i7] at he
    have he := Option.some.inj he
    subst he
    by_cases hi : i < n
    · refine ⟨dr_cell (w 0) i, ?_, ?_⟩
      · have e1 : dr_p n (34 + i) = 41 + i := by
          unfold dr_p
          rw [if_pos (by omega)]
          omega
        have e2 : (hq z w b (dr_F n)).length = 41 := rfl
        rw [e1, List.getElem?_append_right (by rw [e2]; omega), e2, show 41 + i - 41 = i by omega]
        exact dr_Lg (w 0) n i hi
      · have e17 : dr_w w (w 0) n 17 i = ah_ix (w 0 (5 * i)) := by rw [dr_w17, gm_cpy_lt hi]
        have e18 : dr_w w (w 0) n 18 i = w 0 (5 * i + 1) - 48 := by rw [dr_w18, gm_cpy_lt hi]
        have e19 : dr_w w (w 0) n 19 i = w 0 (5 * i + 2) - 48 := by rw [dr_w19, gm_cpy_lt hi]
        have e20 : dr_w w (w 0) n 20 i = w 0 (5 * i + 3) - 48 := by rw [dr_w20, gm_cpy_lt hi]
        have e21 : dr_w w (w 0) n 21 i = -1 := by rw [dr_w21, gm_cpy_lt hi]
        unfold dr_sc
        rw [e17, e18, e19, e20, e21, dr_kc]
        rfl
    · refine ⟨dr_sc w i, ?_, ?_⟩
      · have e1 : dr_p n (34 + i) = 34 + i := by
          unfold dr_p
          rw [if_neg (by omega)]
        rw [e1]
        exact hq_sc _ _ _ _ _ i i7
      · have e17 : dr_w w (w 0) n 17 i = w 17 i := by rw [dr_w17, gm_cpy_ge hi]
        have e18 : dr_w w (w 0) n 18 i = w 18 i := by rw [dr_w18, gm_cpy_ge hi]
        have e19 : dr_w w (w 0) n 19 i = w 19 i := by rw [dr_w19, gm_cpy_ge hi]
        have e20 : dr_w w (w 0) n 20 i = w 20 i := by rw [dr_w20, gm_cpy_ge hi]
        have e21 : dr_w w (w 0) n 21 i = w 21 i := by rw [dr_w21, gm_cpy_ge hi]
        unfold dr_sc
        rw [e17, e18, e19, e20, e21]
        rfl
theorem dr_inj (n : Nat) (hn : n ≤ 7) : ∀ i j, i < 41 → j < 41 → dr_p n i = dr_p n j → i = j := by
  intro i j hi hj h
  unfold dr_p at h
  by_cases h1 : 34 ≤ i ∧ i < 34 + n
  · rw [if_pos h1] at h
    by_cases h2 : 34 ≤ j ∧ j < 34 + n
    · rw [if_pos h2] at h
      omega
    · rw [if_neg h2] at h
      omega
  · rw [if_neg h1] at h
    by_cases h2 : 34 ≤ j ∧ j < 34 + n
    · rw [if_pos h2] at h
      omega
    · rw [if_neg h2] at h
      exact h
