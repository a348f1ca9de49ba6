/-! there is a row that none would leave -/
def rw_pf (lv : Nat → Nat → Nat) (r : Nat → Nat) (a b : Nat) : Prop := r a = 0 ∨ lv a (r a - 1) < lv a b ∨ (lv a (r a - 1) = lv a b ∧ b < r a - 1)
def rw_b (n : Nat) (ok : Nat → Nat → Bool) (lv : Nat → Nat → Nat) (r : Nat → Nat) : Prop := ∃ a b, a < b ∧ b < n ∧ ok a b = true ∧ ¬ r a = b + 1 ∧ rw_pf lv r a b ∧ rw_pf lv r b a
def rw_o (lv : Nat → Nat → Nat) (i j : Nat) : Nat := lv i j * 100 + (50 - i - j)
def rw_w (lv : Nat → Nat → Nat) (i x : Nat) : Nat := if x = 0 then 0 else 3 ^ rw_o lv i (x - 1)
def rw_W (lv : Nat → Nat → Nat) (n : Nat) (r : Nat → Nat) : Nat := rw_s (fun i => rw_w lv i (r i)) n
theorem rw_s_u {f : Nat → Nat} {i x : Nat} : ∀ a, i < a → rw_s (fun j => if j = i then x else f j) a + f i = rw_s f a + x
  | 0, h => absurd h (Nat.not_lt_zero _)
  | a + 1, h => by
    show rw_s _ a + (if a = i then x else f a) + f i = rw_s f a + f a + x
    by_cases e : a = i
    · rw [if_pos e, rw_s_c (f2 := f) a (fun j hj => if_neg (by omega)), e]
      omega
    · rw [if_neg e]
      have := rw_s_u (f := f) (i := i) (x := x) a (by omega)
      omega
theorem rw_W_u (lv : Nat → Nat → Nat) (n : Nat) (r : Nat → Nat) {i : Nat} (x : Nat) (h : i < n) : rw_W lv n (rw_u r i x) + rw_w lv i (r i) = rw_W lv n r + rw_w lv i x := by
  have e : rw_W lv n (rw_u r i x) = rw_s (fun j => if j = i then rw_w lv i x else rw_w lv j (r j)) n := by
    unfold rw_W
    apply rw_s_c
    intro j _
    simp only [rw_u]
    by_cases hj : j = i
    · rw [if_pos hj, if_pos hj, hj]
    · rw [if_neg hj, if_neg hj]
  rw [e]
  exact rw_s_u (f := fun j => rw_w lv j (r j)) n h
def rw_d (r : Nat → Nat) (a : Nat) : Nat → Nat := if r a = 0 then r else rw_u (rw_u r (r a - 1) 0) a 0
theorem rw_w_s {lv : Nat → Nat → Nat} (hl : ∀ i j, lv i j = lv j i) (i j : Nat) : rw_w lv i (j + 1) = rw_w lv j (i + 1) := by
  unfold rw_w rw_o
  rw [if_neg (by omega), if_neg (by omega), Nat.add_sub_cancel, Nat.add_sub_cancel, hl i j]
  congr 2
  omega
theorem rw_d_W {n : Nat} {ok : Nat → Nat → Bool} {lv : Nat → Nat → Nat} (hl : ∀ i j, lv i j = lv j i) {r : Nat → Nat} (h : rw_V n ok r) {a : Nat} (ha : a < n) : rw_W lv n (rw_d r a) + 2 * rw_w lv a (r a) = rw_W lv n r := by
  unfold rw_d
  by_cases h0 : r a = 0
  · rw [if_pos h0, h0]
    have : rw_w lv a 0 = 0 := if_pos rfl
    rw [this]
    omega
  · rw [if_neg h0]
    obtain ⟨m, hm⟩ : ∃ m, r a = m + 1 := ⟨r a - 1, by omega⟩
    obtain ⟨q1, q2, q3, q4, q5⟩ := h a m hm
    rw [hm, Nat.add_sub_cancel]
    have e1 := rw_W_u lv n r 0 q2
    have e2 := rw_W_u lv n (rw_u r m 0) 0 ha
    have e3 : rw_u r m 0 a = m + 1 := by
      simp only [rw_u]
      rw [if_neg q3, hm]
    have e4 : ∀ i, rw_w lv i 0 = 0 := fun i => if_pos rfl
    rw [e3, e4] at e2
    rw [q4, e4, rw_w_s hl m a] at e1
    omega
theorem rw_d_V {n : Nat} {ok : Nat → Nat → Bool} {r : Nat → Nat} (h : rw_V n ok r) (a : Nat) : rw_V n ok (rw_d r a) := by
  unfold rw_d
  by_cases h0 : r a = 0
  · rw [if_pos h0]
    exact h
  · rw [if_neg h0]
    obtain ⟨m, hm⟩ : ∃ m, r a = m + 1 := ⟨r a - 1, by omega⟩
    obtain ⟨q1, q2, q3, q4, q5⟩ := h a m hm
    rw [hm, Nat.add_sub_cancel]
    intro i j e
    simp only [rw_u] at e ⊢
    by_cases i1 : i = a
    · rw [if_pos i1] at e
      omega
    · rw [if_neg i1] at e
      by_cases i2 : i = m
      · rw [if_pos i2] at e
        omega
      · rw [if_neg i2] at e
        obtain ⟨p1, p2, p3, p4, p5⟩ := h i j e
        refine ⟨p1, p2, p3, ?_, p5⟩
        have j1 : ¬ j = a := fun c => by rw [c, hm] at p4; omega
        have j2 : ¬ j = m := fun c => by rw [c, q4] at p4; omega
        rw [if_neg j1, if_neg j2]
        exact p4
theorem rw_d_0 (r : Nat → Nat) (a : Nat) : rw_d r a a = 0 := by
  unfold rw_d
  by_cases h0 : r a = 0
  · rw [if_pos h0, h0]
  · rw [if_neg h0]
    simp only [rw_u]
    rw [if_pos trivial]
theorem rw_d_z {r : Nat → Nat} (a : Nat) {b : Nat} (h : r b = 0) : rw_d r a b = 0 := by
  unfold rw_d
  by_cases h0 : r a = 0
  · rw [if_pos h0, h]
  · rw [if_neg h0]
    simp only [rw_u]
    split
    · rfl
    · split
      · rfl
      · exact h
theorem rw_d_o {r : Nat → Nat} {a b : Nat} (h1 : ¬ b = a) (h2 : ¬ r a = b + 1) : rw_d r a b = r b := by
  unfold rw_d
  by_cases h0 : r a = 0
  · rw [if_pos h0]
  · rw [if_neg h0]
    simp only [rw_u]
    rw [if_neg h1, if_neg (by omega)]
theorem rw_pf_w {n : Nat} {ok : Nat → Nat → Bool} {lv : Nat → Nat → Nat} {r : Nat → Nat} (h : rw_V n ok r) (h7 : n ≤ 7) {a b : Nat} (ha : a < n) (hb : b < n) (hp : rw_pf lv r a b) : 3 * rw_w lv a (r a) ≤ 3 ^ rw_o lv a b := by
  by_cases h0 : r a = 0
  · rw [h0, show rw_w lv a 0 = 0 from if_pos rfl]
    exact Nat.zero_le _
  · obtain ⟨m, hm⟩ : ∃ m, r a = m + 1 := ⟨r a - 1, by omega⟩
    obtain ⟨q1, q2, q3, q4, q5⟩ := h a m hm
    have hlt : rw_o lv a m < rw_o lv a b := by
      unfold rw_o
      rcases hp with hp | hp | ⟨hp, hp2⟩
      · exact absurd hp h0
      · rw [hm, Nat.add_sub_cancel] at hp
        omega
      · rw [hm, Nat.add_sub_cancel] at hp hp2
        omega
    have e : rw_w lv a (r a) = 3 ^ rw_o lv a m := by
      unfold rw_w
      rw [if_neg h0, hm, Nat.add_sub_cancel]
    rw [e]
    have := Nat.pow_le_pow_right (show 0 < 3 by omega) (show rw_o lv a m + 1 ≤ rw_o lv a b from hlt)
    rw [Nat.pow_succ] at this
    omega
theorem rw_max {α : Type} (W : α → Nat) : ∀ (x : α) (l : List α), ∃ y ∈ x :: l, ∀ z ∈ x :: l, W z ≤ W y
  | x, [] => ⟨x, List.mem_singleton.mpr rfl, fun z hz => by rw [List.mem_singleton.mp hz]; exact Nat.le_refl _⟩
  | x, y :: l => by
    obtain ⟨u, hu, h⟩ := rw_max W y l
    by_cases hx : W u ≤ W x
    · refine ⟨x, List.mem_cons_self, fun z hz => ?_⟩
      rcases List.mem_cons.mp hz with e | e
      · rw [e]; exact Nat.le_refl _
      · exact Nat.le_trans (h z e) hx
    · refine ⟨u, List.mem_cons_of_mem _ hu, fun z hz => ?_⟩
      rcases List.mem_cons.mp hz with e | e
      · rw [e]; omega
      · exact h z e
theorem rw_stable {n : Nat} {ok : Nat → Nat → Bool} {lv : Nat → Nat → Nat} (dv : Nat → Nat → Nat) (h7 : n ≤ 7) (hs : ∀ i j, ok i j = true → ok j i = true) (hl : ∀ i j, lv i j = lv j i) : ∃ x ∈ rw_L ok lv dv n 0 rw_0 0 0 0, ¬ rw_b n ok lv x.1 := by
  obtain ⟨l, e⟩ := rw_L_hd ok lv dv n 0 rw_0 0 0 0
  obtain ⟨x, hx, hmax⟩ := rw_max (fun x => rw_W lv n x.1) (rw_0, 0, 0, 0) l
  rw [← e] at hx hmax
  refine ⟨x, hx, ?_⟩
  rintro ⟨a, b, hab, hb, hok, hne, p1, p2⟩
  have hV := (rw_inv hs lv dv n 0 rw_0 0 0 0 (Nat.add_zero n) (rw_I0 n ok lv dv) x hx).1
  have ha : a < n := by omega
  -- the row with a and b together
  have hV1 := rw_d_V hV a
  have hV2 := rw_d_V hV1 b
  have za : rw_d (rw_d x.1 a) b a = 0 := rw_d_z b (rw_d_0 x.1 a)
  have zb : rw_d (rw_d x.1 a) b b = 0 := rw_d_0 _ b
  have hV3 := rw_V_j hs hV2 (by omega : ¬ a = b) ha hb za zb hok
  obtain ⟨y, hy, ey⟩ := rw_mem lv dv hV3 n 0 0 0 0 (Nat.add_zero n)
  have e0 : rw_t 0 (rw_j (rw_d (rw_d x.1 a) b) a b) = rw_0 := by
    funext j
    simp only [rw_t, rw_0]
    split
    · omega
    · rfl
  rw [e0] at hy
  have hle := hmax y hy
  simp only [ey] at hle
  have w1 := rw_d_W hl hV ha
  have w2 := rw_d_W hl hV1 hb
  rw [rw_d_o (by omega) hne] at w2
  have w3 : rw_W lv n (rw_j (rw_d (rw_d x.1 a) b) a b) = rw_W lv n (rw_d (rw_d x.1 a) b) + 2 * 3 ^ rw_o lv a b := by
    have e1 := rw_W_u lv n (rw_d (rw_d x.1 a) b) (b + 1) ha
    have e2 := rw_W_u lv n (rw_u (rw_d (rw_d x.1 a) b) a (b + 1)) (a + 1) hb
    have e3 : rw_u (rw_d (rw_d x.1 a) b) a (b + 1) b = 0 := by
      simp only [rw_u]
      rw [if_neg (by omega), zb]
    have e4 : ∀ i, rw_w lv i 0 = 0 := fun i => if_pos rfl
    have e5 : rw_w lv a (b + 1) = 3 ^ rw_o lv a b := by
      unfold rw_w
      rw [if_neg (by omega), Nat.add_sub_cancel]
    rw [za, e4, e5] at e1
    rw [e3, e4, rw_w_s hl b a, e5] at e2
    unfold rw_j
    omega
  have v1 := rw_pf_w hV h7 ha hb p1
  have v2 := rw_pf_w hV h7 hb ha p2
  have eo : rw_o lv b a = rw_o lv a b := by
    unfold rw_o
    rw [hl b a]
    omega
  rw [eo] at v2
  have v3 : 0 < 3 ^ rw_o lv a b := Nat.pow_pos (by omega)
  omega
