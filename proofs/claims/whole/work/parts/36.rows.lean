/-! rows: the pure part -/
/-- one more at a place -/
def rw_u (r : Nat → Nat) (i x : Nat) : Nat → Nat := fun j => if j = i then x else r j
/-- a and b paired (a row holds 0 for none, else the mate's number and one) -/
def rw_j (r : Nat → Nat) (a b : Nat) : Nat → Nat := rw_u (rw_u r a (b + 1)) b (a + 1)
/-- the blocks of m numbers from b on -/
def rw_bk {α : Type} (F : Nat → List α) : Nat → Nat → List α
  | 0, _ => []
  | m + 1, b => F b ++ rw_bk F m (b + 1)
/-- the rows, in their order, each with its pairs, likeness, miles -/
def rw_L (ok : Nat → Nat → Bool) (lv dv : Nat → Nat → Nat) : Nat → Nat → (Nat → Nat) → Nat → Nat → Nat → List ((Nat → Nat) × Nat × Nat × Nat)
  | 0, _, r, P, K, M => [(r, P, K, M)]
  | k + 1, a, r, P, K, M => rw_L ok lv dv k (a + 1) r P K M ++ (if r a = 0 then rw_bk (fun b => if r b = 0 ∧ ok a b = true then rw_L ok lv dv k (a + 1) (rw_j r a b) (P + 1) (K + lv a b) (M + dv a b) else []) k (a + 1) else [])
/-- the first b of m from b on that a can be paired with -/
def rw_f (ok : Nat → Nat → Bool) (r : Nat → Nat) (a : Nat) : Nat → Nat → Option Nat
  | 0, _ => none
  | m + 1, b => if r b = 0 ∧ ok a b = true then some b else rw_f ok r a m (b + 1)
/-- the next row -/
def rw_N (n : Nat) (ok : Nat → Nat → Bool) : Nat → (Nat → Nat) → Bool × (Nat → Nat)
  | 0, r => (false, r)
  | a + 1, r =>
    if r a = 0 then (match rw_f ok r a (n - (a + 1)) (a + 1) with | some b => (true, rw_j r a b) | none => rw_N n ok a r)
    else if a + 1 < r a then (match rw_f ok (rw_u (rw_u r (r a - 1) 0) a 0) a (n - r a) (r a) with | some b => (true, rw_j (rw_u (rw_u r (r a - 1) 0) a 0) a b) | none => rw_N n ok a (rw_u (rw_u r (r a - 1) 0) a 0))
    else rw_N n ok a r
/-- a list of rows, each the next of the one before; after the last comes e -/
def rw_c (N : (Nat → Nat) → Bool × (Nat → Nat)) : List ((Nat → Nat) × Nat × Nat × Nat) → Bool × (Nat → Nat) → Prop
  | [], _ => False
  | [x], e => N x.1 = e
  | x :: y :: l, e => N x.1 = (true, y.1) ∧ rw_c N (y :: l) e
theorem rw_c_app (N : (Nat → Nat) → Bool × (Nat → Nat)) (y : (Nat → Nat) × Nat × Nat × Nat) (l2 : List ((Nat → Nat) × Nat × Nat × Nat)) (e : Bool × (Nat → Nat)) (h2 : rw_c N (y :: l2) e) : ∀ l1, rw_c N l1 (true, y.1) → rw_c N (l1 ++ y :: l2) e
  | [], h => absurd h (fun h => h)
  | [x], h => ⟨h, h2⟩
  | x :: z :: l, h => ⟨h.1, rw_c_app N y l2 e h2 (z :: l) h.2⟩
theorem rw_L_hd (ok : Nat → Nat → Bool) (lv dv : Nat → Nat → Nat) : ∀ (k a : Nat) (r : Nat → Nat) (P K M : Nat), ∃ l, rw_L ok lv dv k a r P K M = (r, P, K, M) :: l
  | 0, a, r, P, K, M => ⟨[], rfl⟩
  | k + 1, a, r, P, K, M => by
    obtain ⟨l, e⟩ := rw_L_hd ok lv dv k (a + 1) r P K M
    refine ⟨l ++ (if r a = 0 then rw_bk (fun b => if r b = 0 ∧ ok a b = true then rw_L ok lv dv k (a + 1) (rw_j r a b) (P + 1) (K + lv a b) (M + dv a b) else []) k (a + 1) else []), ?_⟩
    show rw_L ok lv dv k (a + 1) r P K M ++ _ = _
    rw [e]
    rfl
theorem rw_j_back (r : Nat → Nat) {a b : Nat} (hab : a < b) (ha : r a = 0) (hb : r b = 0) : rw_u (rw_u (rw_j r a b) b 0) a 0 = r := by
  funext j
  simp only [rw_u, rw_j]
  by_cases h1 : j = a
  · rw [if_pos h1, h1, ha]
  · rw [if_neg h1]
    by_cases h2 : j = b
    · rw [if_pos h2, h2, hb]
    · rw [if_neg h2, if_neg h2, if_neg h1]
theorem rw_j_a (r : Nat → Nat) {a b : Nat} (hab : a < b) : rw_j r a b a = b + 1 := by
  simp only [rw_u, rw_j]
  rw [if_neg (by omega), if_pos trivial]
theorem rw_j_b (r : Nat → Nat) (a b : Nat) : rw_j r a b b = a + 1 := by
  simp only [rw_u, rw_j]
  rw [if_pos trivial]
theorem rw_j_o (r : Nat → Nat) {a b j : Nat} (h1 : ¬ j = a) (h2 : ¬ j = b) : rw_j r a b j = r j := by
  simp only [rw_u, rw_j]
  rw [if_neg h2, if_neg h1]
/-- the rows come by the step to the next -/
theorem rw_chain (n : Nat) (ok : Nat → Nat → Bool) (lv dv : Nat → Nat → Nat) : ∀ (k a : Nat) (r : Nat → Nat) (P K M : Nat), k + a = n → (∀ j, a ≤ j → r j ≤ a) → rw_c (rw_N n ok n) (rw_L ok lv dv k a r P K M) (rw_N n ok a r)
  | 0, a, r, P, K, M, hn, _ => by
    have : a = n := by omega
    subst this
    exact rfl
  | k + 1, a, r, P, K, M, hn, hr => by
    have ih := rw_chain n ok lv dv k (a + 1) r P K M (by omega) (fun j hj => Nat.le_succ_of_le (hr j (by omega)))
    show rw_c _ (rw_L ok lv dv k (a + 1) r P K M ++ _) _
    by_cases h0 : r a = 0
    · rw [if_pos h0]
      -- the blocks
      have key : ∀ (m b : Nat), m + b = n → a < b → ∀ l, rw_c (rw_N n ok n) l (match rw_f ok r a m b with | some b => (true, rw_j r a b) | none => rw_N n ok a r) → rw_c (rw_N n ok n) (l ++ rw_bk (fun b => if r b = 0 ∧ ok a b = true then rw_L ok lv dv k (a + 1) (rw_j r a b) (P + 1) (K + lv a b) (M + dv a b) else []) m b) (rw_N n ok a r) := by
        intro m
        induction m with
        | zero =>
          intro b _ _ l h
          simp only [rw_f] at h
          simp only [rw_bk, List.append_nil]
          exact h
        | succ m im =>
          intro b hb hab l h
          simp only [rw_f] at h
          simp only [rw_bk]
          by_cases h1 : r b = 0 ∧ ok a b = true
          · rw [if_pos h1] at h ⊢
            have ib := rw_chain n ok lv dv k (a + 1) (rw_j r a b) (P + 1) (K + lv a b) (M + dv a b) (by omega) (fun j hj => by
              by_cases hj2 : j = b
              · rw [hj2, rw_j_b]
                exact Nat.le_refl _
              · rw [rw_j_o r (by omega) hj2]
                have := hr j (by omega)
                omega)
            have e : rw_N n ok (a + 1) (rw_j r a b) = (match rw_f ok r a m (b + 1) with | some b => (true, rw_j r a b) | none => rw_N n ok a r) := by
              have e1 := rw_j_a r hab
              simp only [rw_N, e1]
              rw [if_neg (by omega), if_pos (by omega), Nat.add_sub_cancel, rw_j_back r hab h0 h1.1, show n - (b + 1) = m by omega]
            rw [e] at ib
            have ij := im (b + 1) (by omega) (by omega) _ ib
            obtain ⟨l3, e3⟩ := rw_L_hd ok lv dv k (a + 1) (rw_j r a b) (P + 1) (K + lv a b) (M + dv a b)
            rw [e3] at ij ⊢
            exact rw_c_app _ _ _ _ ij l h
          · rw [if_neg h1] at h ⊢
            exact im (b + 1) (by omega) (by omega) l h
      have e0 : rw_N n ok (a + 1) r = (match rw_f ok r a k (a + 1) with | some b => (true, rw_j r a b) | none => rw_N n ok a r) := by
        simp only [rw_N]
        rw [if_pos h0, show n - (a + 1) = k by omega]
      rw [e0] at ih
      exact key k (a + 1) (by omega) (by omega) _ ih
    · rw [if_neg h0, List.append_nil]
      have e0 : rw_N n ok (a + 1) r = rw_N n ok a r := by
        simp only [rw_N]
        have := hr a (Nat.le_refl _)
        rw [if_neg h0, if_neg (by omega)]
      rw [e0] at ih
      exact ih
/-- what every row of the list keeps -/
theorem rw_all (n : Nat) (ok : Nat → Nat → Bool) (lv dv : Nat → Nat → Nat) (I : Nat → (Nat → Nat) → Nat → Nat → Nat → Prop)
    (h1 : ∀ a r P K M, a < n → I a r P K M → I (a + 1) r P K M)
    (h2 : ∀ a b r P K M, a < b → b < n → I a r P K M → r a = 0 → r b = 0 → ok a b = true → I (a + 1) (rw_j r a b) (P + 1) (K + lv a b) (M + dv a b)) :
    ∀ (k a : Nat) (r : Nat → Nat) (P K M : Nat), k + a = n → I a r P K M → ∀ x ∈ rw_L ok lv dv k a r P K M, I n x.1 x.2.1 x.2.2.1 x.2.2.2
  | 0, a, r, P, K, M, hn, hI, x, hx => by
    have e : x = (r, P, K, M) := List.mem_singleton.mp hx
    have : a = n := by omega
    subst this
    rw [e]
    exact hI
  | k + 1, a, r, P, K, M, hn, hI, x, hx => by
    have hx : x ∈ rw_L ok lv dv k (a + 1) r P K M ++ _ := hx
    rcases List.mem_append.mp hx with h | h
    · exact rw_all n ok lv dv I h1 h2 k (a + 1) r P K M (by omega) (h1 _ _ _ _ _ (by omega) hI) x h
    · by_cases h0 : r a = 0
      · rw [if_pos h0] at h
        have key : ∀ (m b : Nat), m + b = n → a < b → x ∈ rw_bk (fun b => if r b = 0 ∧ ok a b = true then rw_L ok lv dv k (a + 1) (rw_j r a b) (P + 1) (K + lv a b) (M + dv a b) else []) m b → I n x.1 x.2.1 x.2.2.1 x.2.2.2 := by
          intro m
          induction m with
          | zero => intro b _ _ h; exact absurd h (List.not_mem_nil)
          | succ m im =>
            intro b hb hab h
            simp only [rw_bk] at h
            rcases List.mem_append.mp h with h | h
            · by_cases h3 : r b = 0 ∧ ok a b = true
              · rw [if_pos h3] at h
                exact rw_all n ok lv dv I h1 h2 k (a + 1) _ _ _ _ (by omega) (h2 a b r P K M hab (by omega) hI h0 h3.1 h3.2) x h
              · rw [if_neg h3] at h
                exact absurd h (List.not_mem_nil)
            · exact im (b + 1) (by omega) (by omega) h
        exact key k (a + 1) (by omega) (by omega) h
      · rw [if_neg h0] at h
        exact absurd h (List.not_mem_nil)
theorem rw_bk_len {α : Type} (F : Nat → List α) (c : Nat) (h : ∀ b, (F b).length ≤ c) : ∀ m b, (rw_bk F m b).length ≤ m * c
  | 0, b => by simp [rw_bk]
  | m + 1, b => by
    have h1 := rw_bk_len F c h m (b + 1)
    have h2 := h b
    simp only [rw_bk, List.length_append]
    rw [Nat.succ_mul]
    omega
def rw_n : Nat → Nat
  | 0 => 1
  | k + 1 => rw_n k + k * rw_n k
theorem rw_len (ok : Nat → Nat → Bool) (lv dv : Nat → Nat → Nat) : ∀ (k a : Nat) (r : Nat → Nat) (P K M : Nat), (rw_L ok lv dv k a r P K M).length ≤ rw_n k
  | 0, a, r, P, K, M => Nat.le_refl _
  | k + 1, a, r, P, K, M => by
    show (rw_L ok lv dv k (a + 1) r P K M ++ _).length ≤ rw_n k + k * rw_n k
    rw [List.length_append]
    have h1 := rw_len ok lv dv k (a + 1) r P K M
    have h2 : (if r a = 0 then rw_bk (fun b => if r b = 0 ∧ ok a b = true then rw_L ok lv dv k (a + 1) (rw_j r a b) (P + 1) (K + lv a b) (M + dv a b) else []) k (a + 1) else []).length ≤ k * rw_n k := by
      by_cases h0 : r a = 0
      · rw [if_pos h0]
        apply rw_bk_len
        intro b
        by_cases h3 : r b = 0 ∧ ok a b = true
        · rw [if_pos h3]
          exact rw_len ok lv dv k (a + 1) _ _ _ _
        · rw [if_neg h3]
          exact Nat.zero_le _
      · rw [if_neg h0]
        exact Nat.zero_le _
    omega
theorem rw_n_mono : ∀ k, rw_n k ≤ rw_n (k + 1) := fun k => Nat.le_add_right _ _
theorem rw_n7 {k : Nat} (h : k ≤ 7) : rw_n k ≤ 5040 := by
  have h7 : rw_n 7 = 5040 := rfl
  rw [← h7]
  have : ∀ d, rw_n k ≤ rw_n (k + d) := fun d => by
    induction d with
    | zero => exact Nat.le_refl _
    | succ d ih => exact Nat.le_trans ih (rw_n_mono _)
  have := this (7 - k)
  rwa [show k + (7 - k) = 7 by omega] at this
/-- sums -/
def rw_s (f : Nat → Nat) : Nat → Nat
  | 0 => 0
  | a + 1 => rw_s f a + f a
theorem rw_s_c {f f2 : Nat → Nat} : ∀ a, (∀ i, i < a → f i = f2 i) → rw_s f a = rw_s f2 a
  | 0, _ => rfl
  | a + 1, h => by
    show rw_s f a + f a = rw_s f2 a + f2 a
    rw [rw_s_c a (fun i hi => h i (by omega)), h a (by omega)]
def rw_P (r : Nat → Nat) : Nat → Nat := fun i => if i + 1 < r i then 1 else 0
def rw_K (l : Nat → Nat → Nat) (r : Nat → Nat) : Nat → Nat := fun i => if i + 1 < r i then l i (r i - 1) else 0
/-- a row of n -/
def rw_V (n : Nat) (ok : Nat → Nat → Bool) (r : Nat → Nat) : Prop := ∀ i j, r i = j + 1 → i < n ∧ j < n ∧ ¬ i = j ∧ r j = i + 1 ∧ ok i j = true
/-- what is kept -/
def rw_I (n : Nat) (ok : Nat → Nat → Bool) (lv dv : Nat → Nat → Nat) (a : Nat) (r : Nat → Nat) (P K M : Nat) : Prop := rw_V n ok r ∧ (∀ j, a ≤ j → r j ≤ a) ∧ P = rw_s (rw_P r) a ∧ K = rw_s (rw_K lv r) a ∧ M = rw_s (rw_K dv r) a
theorem rw_V_j {n : Nat} {ok : Nat → Nat → Bool} (hs : ∀ i j, ok i j = true → ok j i = true) {r : Nat → Nat} (h : rw_V n ok r) {a b : Nat} (hab : ¬ a = b) (ha : a < n) (hb : b < n) (h1 : r a = 0) (h2 : r b = 0) (h3 : ok a b = true) : rw_V n ok (rw_j r a b) := by
  intro i j e
  simp only [rw_j, rw_u] at e ⊢
  by_cases i1 : i = b
  · rw [if_pos i1] at e
    have : j = a := by omega
    subst this
    subst i1
    refine ⟨hb, ha, fun h => hab h.symm, ?_, hs _ _ h3⟩
    rw [if_neg hab, if_pos rfl]
  · rw [if_neg i1] at e
    by_cases i2 : i = a
    · rw [if_pos i2] at e
      have : j = b := by omega
      subst this
      subst i2
      refine ⟨ha, hb, hab, ?_, h3⟩
      rw [if_pos rfl]
    · rw [if_neg i2] at e
      obtain ⟨q1, q2, q3, q4, q5⟩ := h i j e
      refine ⟨q1, q2, q3, ?_, q5⟩
      have j1 : ¬ j = b := fun h => by rw [h, h2] at q4; omega
      have j2 : ¬ j = a := fun h => by rw [h, h1] at q4; omega
      rw [if_neg j1, if_neg j2]
      exact q4
theorem rw_inv {n : Nat} {ok : Nat → Nat → Bool} (hs : ∀ i j, ok i j = true → ok j i = true) (lv dv : Nat → Nat → Nat) (k a : Nat) (r : Nat → Nat) (P K M : Nat) (hn : k + a = n) (hI : rw_I n ok lv dv a r P K M) : ∀ x ∈ rw_L ok lv dv k a r P K M, rw_I n ok lv dv n x.1 x.2.1 x.2.2.1 x.2.2.2 := by
  refine rw_all n ok lv dv (rw_I n ok lv dv) ?_ ?_ k a r P K M hn hI
  · intro a r P K M _ ⟨i1, i2, i3, i4, i5⟩
    have ha := i2 a (Nat.le_refl _)
    refine ⟨i1, fun j hj => Nat.le_succ_of_le (i2 j (by omega)), ?_, ?_, ?_⟩
    · show P = rw_s (rw_P r) a + rw_P r a
      rw [← i3, rw_P, if_neg (by omega), Nat.add_zero]
    · show K = rw_s (rw_K lv r) a + rw_K lv r a
      rw [← i4, rw_K, if_neg (by omega), Nat.add_zero]
    · show M = rw_s (rw_K dv r) a + rw_K dv r a
      rw [← i5, rw_K, if_neg (by omega), Nat.add_zero]
  · intro a b r P K M hab hb ⟨i1, i2, i3, i4, i5⟩ ha0 hb0 hok
    have ea := rw_j_a r hab
    have eo : ∀ i, i < a → rw_j r a b i = r i := fun i hi => rw_j_o r (by omega) (by omega)
    refine ⟨rw_V_j hs i1 (by omega) (by omega) hb ha0 hb0 hok, ?_, ?_, ?_, ?_⟩
    · intro j hj
      by_cases h : j = b
      · rw [h, rw_j_b]
        exact Nat.le_refl _
      · rw [rw_j_o r (by omega) h]
        exact Nat.le_succ_of_le (i2 j (by omega))
    · show P + 1 = rw_s (rw_P (rw_j r a b)) a + rw_P (rw_j r a b) a
      rw [rw_s_c (f2 := rw_P r) a (fun i hi => by simp only [rw_P, eo i hi]), ← i3]
      simp only [rw_P, ea]
      rw [if_pos (by omega)]
    · show K + lv a b = rw_s (rw_K lv (rw_j r a b)) a + rw_K lv (rw_j r a b) a
      rw [rw_s_c (f2 := rw_K lv r) a (fun i hi => by simp only [rw_K, eo i hi]), ← i4]
      simp only [rw_K, ea]
      rw [if_pos (by omega), Nat.add_sub_cancel]
    · show M + dv a b = rw_s (rw_K dv (rw_j r a b)) a + rw_K dv (rw_j r a b) a
      rw [rw_s_c (f2 := rw_K dv r) a (fun i hi => by simp only [rw_K, eo i hi]), ← i5]
      simp only [rw_K, ea]
      rw [if_pos (by omega), Nat.add_sub_cancel]
theorem rw_s_le {f : Nat → Nat} {c : Nat} : ∀ a, (∀ i, i < a → f i ≤ c) → rw_s f a ≤ a * c
  | 0, _ => Nat.zero_le _
  | a + 1, h => by
    show rw_s f a + f a ≤ (a + 1) * c
    have h1 := rw_s_le a (fun i hi => h i (by omega))
    have h2 := h a (by omega)
    rw [Nat.succ_mul]
    omega
/-- the empty row -/
def rw_0 : Nat → Nat := fun _ => 0
theorem rw_I0 (n : Nat) (ok : Nat → Nat → Bool) (lv dv : Nat → Nat → Nat) : rw_I n ok lv dv 0 rw_0 0 0 0 := ⟨fun i j h => absurd h (by simp [rw_0]), fun j _ => Nat.le_refl _, rfl, rfl, rfl⟩
/-- every row of n is in the list -/
def rw_t (a : Nat) (p : Nat → Nat) : Nat → Nat := fun j => if j < a ∨ p j ≤ a then p j else 0
theorem rw_mem {n : Nat} {ok : Nat → Nat → Bool} (lv dv : Nat → Nat → Nat) {p : Nat → Nat} (hp : rw_V n ok p) : ∀ (k a P K M : Nat), k + a = n → ∃ x ∈ rw_L ok lv dv k a (rw_t a p) P K M, x.1 = p
  | 0, a, P, K, M, hn => by
    refine ⟨(rw_t a p, P, K, M), List.mem_singleton.mpr rfl, ?_⟩
    funext j
    simp only [rw_t]
    by_cases h : j < a ∨ p j ≤ a
    · rw [if_pos h]
    · exfalso
      have h1 : ¬ p j = 0 := by omega
      obtain ⟨c, hc⟩ : ∃ c, p j = c + 1 := ⟨p j - 1, by omega⟩
      have := hp j c hc
      omega
  | k + 1, a, P, K, M, hn => by
    show ∃ x ∈ rw_L ok lv dv k (a + 1) (rw_t a p) P K M ++ _, _
    by_cases h : p a ≤ a
    · have e : rw_t a p = rw_t (a + 1) p := by
        funext j
        simp only [rw_t]
        by_cases h1 : j < a ∨ p j ≤ a
        · rw [if_pos h1, if_pos (by omega)]
        · rw [if_neg h1]
          by_cases h2 : j < a + 1 ∨ p j ≤ a + 1
          · exfalso
            by_cases h3 : j = a
            · rw [h3] at h1; omega
            · have h4 : p j = a + 1 := by omega
              have := (hp j a h4).2.2.2.1
              omega
          · rw [if_neg h2]
      rw [e]
      obtain ⟨x, hx, ex⟩ := rw_mem lv dv hp k (a + 1) P K M (by omega)
      exact ⟨x, List.mem_append.mpr (Or.inl hx), ex⟩
    · obtain ⟨b, hb⟩ : ∃ b, p a = b + 1 := ⟨p a - 1, by omega⟩
      obtain ⟨q1, q2, q3, q4, q5⟩ := hp a b hb
      have hab : a < b := by omega
      have ea : rw_t a p a = 0 := by
        simp only [rw_t]
        rw [if_neg (by omega)]
      have eb : rw_t a p b = 0 := by
        simp only [rw_t]
        rw [if_neg (by omega)]
      have e : rw_j (rw_t a p) a b = rw_t (a + 1) p := by
        funext j
        by_cases h1 : j = a
        · rw [h1, rw_j_a _ hab]
          simp only [rw_t]
          rw [if_pos (by omega), hb]
        · by_cases h2 : j = b
          · rw [h2, rw_j_b]
            simp only [rw_t]
            rw [if_pos (by omega), q4]
          · rw [rw_j_o _ h1 h2]
            simp only [rw_t]
            by_cases h3 : j < a ∨ p j ≤ a
            · rw [if_pos h3, if_pos (by omega)]
            · rw [if_neg h3, if_neg]
              intro h4
              have h5 : p j = a + 1 := by omega
              have := (hp j a h5).2.2.2.1
              omega
      obtain ⟨x, hx, ex⟩ := rw_mem lv dv hp k (a + 1) (P + 1) (K + lv a b) (M + dv a b) (by omega)
      refine ⟨x, List.mem_append.mpr (Or.inr ?_), ex⟩
      rw [if_pos ea]
      have key : ∀ (m c : Nat), c ≤ b → b < m + c → x ∈ rw_bk (fun b => if rw_t a p b = 0 ∧ ok a b = true then rw_L ok lv dv k (a + 1) (rw_j (rw_t a p) a b) (P + 1) (K + lv a b) (M + dv a b) else []) m c := by
        intro m
        induction m with
        | zero => intro c h1 h2; omega
        | succ m im =>
          intro c h1 h2
          simp only [rw_bk]
          apply List.mem_append.mpr
          by_cases h3 : c = b
          · refine Or.inl ?_
            subst h3
            rw [if_pos ⟨eb, q5⟩, e]
            exact hx
          · exact Or.inr (im (c + 1) (by omega) (by omega))
      exact key k (a + 1) (by omega) (by omega)
