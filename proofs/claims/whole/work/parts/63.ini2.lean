/-! the constructors: what they make -/
def eq_v : Value → Value → Bool := fun a b => match a, b with
  | .int x, .int y => decide (x = y)
  | .long x, .long y => decide (x = y)
  | .ref x, .ref y => Nat.beq x y
  | .null, .null => true
  | _, _ => false
theorem eq_v_i {a b : Value} (h : eq_v a b = true) : a = b := by
  unfold eq_v at h
  split at h
  · rw [of_decide_eq_true h]
  · rw [of_decide_eq_true h]
  · rw [Nat.eq_of_beq_eq_true h]
  · rfl
  · cases h
def eq_l : List Value → List Value → Bool
  | [], [] => true
  | a :: l, b :: m => eq_v a b && eq_l l m
  | _, _ => false
theorem eq_l_i : ∀ {l m : List Value}, eq_l l m = true → l = m
  | [], [], _ => rfl
  | a :: l, b :: m, h => by
    have h : (eq_v a b && eq_l l m) = true := h
    rw [Bool.and_eq_true] at h
    rw [eq_v_i h.1, eq_l_i h.2]
  | [], b :: m, h => by cases h
  | a :: l, [], h => by cases h
def eq_e : ah_E → ah_E → Bool := fun a b => match a, b with
  | .inr x, .inr y => Nat.beq x.1 y.1 && eq_l x.2 y.2
  | .inl x, .inl y => Nat.beq x.1 y.1 && (Nat.beq x.2.1 y.2.1 && (match x.2.2, y.2.2 with
    | .inl f, .inl g => (List.range x.2.1).all (fun j => decide (f j = g j))
    | .inr f, .inr g => (List.range x.2.1).all (fun j => decide (f j = g j))
    | _, _ => false))
  | _, _ => false
def eq_h : ah_H → ah_H → Bool
  | [], [] => true
  | a :: l, b :: m => eq_e a b && eq_h l m
  | _, _ => false
theorem eq_h_len : ∀ {l m : ah_H}, eq_h l m = true → l.length = m.length
  | [], [], _ => rfl
  | a :: l, b :: m, h => by
    have h : (eq_e a b && eq_h l m) = true := h
    rw [Bool.and_eq_true] at h
    rw [List.length_cons, List.length_cons, eq_h_len h.2]
  | [], b :: m, h => by cases h
  | a :: l, [], h => by cases h
theorem eq_h_get : ∀ {l m : ah_H} {k : Nat} {b : ah_E}, eq_h l m = true → m[k]? = some b → ∃ a, l[k]? = some a ∧ eq_e a b = true
  | [], [], k, b, _, hk => by cases hk
  | a :: l, c :: m, k, b, h, hk => by
    have h : (eq_e a c && eq_h l m) = true := h
    rw [Bool.and_eq_true] at h
    cases k with
    | zero =>
      have hk : c = b := Option.some.inj hk
      rw [← hk]
      exact ⟨a, rfl, h.1⟩
    | succ k => exact eq_h_get (k := k) h.2 hk
  | [], b :: m, _, _, h, _ => by cases h
  | a :: l, [], _, _, h, _ => by cases h
theorem eq_h_P {D : va_G} {cl : List vw_C} {ad : Nat → Nat} {tc : Nat → ClassId} {h1 h2 : ah_H} {H : Heap} (he : eq_h h1 h2 = true) (hP : va_P D cl (ah_w ad tc h1) H) : va_P D cl (ah_w ad tc h2) H := by
  intro k q hk
  obtain ⟨b, hb, rfl⟩ := ah_w_inv hk
  obtain ⟨a, ha, hab⟩ := eq_h_get he hb
  have h0 := hP k _ (ah_w_get ha)
  cases a with
  | inr x =>
    cases b with
    | inr y =>
      have hab : (Nat.beq x.1 y.1 && eq_l x.2 y.2) = true := hab
      rw [Bool.and_eq_true] at hab
      have e : x = y := Prod.ext (Nat.eq_of_beq_eq_true hab.1) (eq_l_i hab.2)
      rw [← e]
      exact h0
    | inl y => cases hab
  | inl x =>
    cases b with
    | inr y => cases hab
    | inl y =>
      obtain ⟨t, N, f⟩ := x
      obtain ⟨t2, N2, f2⟩ := y
      cases f with
      | inl f =>
        cases f2 with
        | inl f2 =>
          have hab : (Nat.beq t t2 && (Nat.beq N N2 && (List.range N).all (fun j => decide (f j = f2 j)))) = true := hab
          rw [Bool.and_eq_true, Bool.and_eq_true] at hab
          have e1 := Nat.eq_of_beq_eq_true hab.1
          have e2 := Nat.eq_of_beq_eq_true hab.2.1
          subst e1
          subst e2
          have h0 : H[ad k]? = some (arrV (tc t) N (fun j => .int (f j))) := h0
          show H[ad k]? = some (arrV (tc t) N (fun j => .int (f2 j)))
          rw [h0]
          exact congrArg some (arrV_congr (fun j hj => by rw [of_decide_eq_true (List.all_eq_true.mp hab.2.2 j (List.mem_range.mpr hj))]))
        | inr f2 =>
          have hab : (Nat.beq t t2 && (Nat.beq N N2 && false)) = true := hab
          rw [Bool.and_eq_true, Bool.and_eq_true] at hab
          cases hab.2.2
      | inr f =>
        cases f2 with
        | inl f2 =>
          have hab : (Nat.beq t t2 && (Nat.beq N N2 && false)) = true := hab
          rw [Bool.and_eq_true, Bool.and_eq_true] at hab
          cases hab.2.2
        | inr f2 =>
          have hab : (Nat.beq t t2 && (Nat.beq N N2 && (List.range N).all (fun j => decide (f j = f2 j)))) = true := hab
          rw [Bool.and_eq_true, Bool.and_eq_true] at hab
          have e1 := Nat.eq_of_beq_eq_true hab.1
          have e2 := Nat.eq_of_beq_eq_true hab.2.1
          subst e1
          subst e2
          have h0 : H[ad k]? = some (arrV (tc t) N (fun j => va_rf ((f j).map ad))) := h0
          show H[ad k]? = some (arrV (tc t) N (fun j => va_rf ((f2 j).map ad)))
          rw [h0]
          exact congrArg some (arrV_congr (fun j hj => by rw [of_decide_eq_true (List.all_eq_true.mp hab.2.2 j (List.mem_range.mpr hj))]))
theorem eq_h_D {A : Nat → Prop} {ad : Nat → Nat} {tc : Nat → ClassId} {h1 h2 : ah_H} (he : eq_h h1 h2 = true) (hD : va_D A (ah_w ad tc h1)) : va_D A (ah_w ad tc h2) := by
  refine ⟨fun i j p q hi hj e => ?_, fun k q hk => ?_⟩
  · obtain ⟨b1, hb1, rfl⟩ := ah_w_inv hi
    obtain ⟨b2, hb2, rfl⟩ := ah_w_inv hj
    obtain ⟨a1, ha1, -⟩ := eq_h_get he hb1
    obtain ⟨a2, ha2, -⟩ := eq_h_get he hb2
    exact hD.1 i j _ _ (ah_w_get ha1) (ah_w_get ha2) e
  · obtain ⟨b1, hb1, rfl⟩ := ah_w_inv hk
    obtain ⟨a1, ha1, -⟩ := eq_h_get he hb1
    show A (ad k)
    exact hD.2 k (ad k, ah_e ad tc a1) (ah_w_get ha1)
def eq_r (o : Option ah_R) (h : ah_H) : Bool := match o with
  | some (none, h2) => eq_h h2 h
  | _ => false
theorem eq_r_i {o : Option ah_R} {h : ah_H} (he : eq_r o h = true) : ∃ h2, o = some (none, h2) ∧ eq_h h2 h = true := by
  unfold eq_r at he
  split at he
  · rename_i h2
    exact ⟨h2, rfl, he⟩
  · cases he
def ini_F : Nat → Option Nat := va_up (va_up (va_up (va_up (va_up (va_up (va_up (fun _ => none) 0 (some 11)) 1 (some 12)) 2 (some 13)) 3 (some 14)) 4 (some 15)) 5 (some 16)) 6 (some 17)
def ini_H : ah_H := [
  .inr (11, [.ref 1, .ref 3, .ref 18, .ref 27, .ref 39, .int 0]),
  .inr (4, [.ref 2, .int 0]),
  .inl (0, 36, .inl (fun _ => 0)),
  .inr (0, [.ref 4, .ref 5, .int 0, .int 0, .int 0, .int 0, .int 0, .ref 10]),
  .inl (2, 7, .inr ini_F),
  .inr (7, [.int 0, .ref 6, .ref 7, .ref 8, .ref 9]),
  .inl (0, 8, .inl (fun _ => 0)),
  .inl (0, 8, .inl (fun _ => 0)),
  .inl (0, 8, .inl (fun _ => 0)),
  .inl (0, 20, .inl (fun _ => 0)),
  .inl (0, 7, .inl (fun _ => 0)),
  .inr (8, [.int 0, .int 0, .int 0, .int (-1)]),
  .inr (8, [.int 0, .int 0, .int 0, .int (-1)]),
  .inr (8, [.int 0, .int 0, .int 0, .int (-1)]),
  .inr (8, [.int 0, .int 0, .int 0, .int (-1)]),
  .inr (8, [.int 0, .int 0, .int 0, .int (-1)]),
  .inr (8, [.int 0, .int 0, .int 0, .int (-1)]),
  .inr (8, [.int 0, .int 0, .int 0, .int (-1)]),
  .inr (2, [.int 0, .ref 19, .ref 20, .ref 21, .ref 22, .int 0, .int 0, .int 0, .int 0]),
  .inl (0, 7, .inl (fun _ => 0)),
  .inl (0, 7, .inl (fun _ => 0)),
  .inl (0, 7, .inl (fun _ => 0)),
  .inr (7, [.int 0, .ref 23, .ref 24, .ref 25, .ref 26]),
  .inl (0, 8, .inl (fun _ => 0)),
  .inl (0, 8, .inl (fun _ => 0)),
  .inl (0, 8, .inl (fun _ => 0)),
  .inl (0, 20, .inl (fun _ => 0)),
  .inr (6, [.int 0, .int 0, .int 0, .int 0, .ref 28, .ref 29, .ref 30, .ref 38, .int 0, .int 0, .int 0, .int 0]),
  .inl (0, 7, .inl (fun _ => 0)),
  .inl (0, 7, .inl (fun _ => 0)),
  .inl (3, 7, .inr (at_mu 30)),
  .inl (0, 7, .inl (fun _ => 0)),
  .inl (0, 7, .inl (fun _ => 0)),
  .inl (0, 7, .inl (fun _ => 0)),
  .inl (0, 7, .inl (fun _ => 0)),
  .inl (0, 7, .inl (fun _ => 0)),
  .inl (0, 7, .inl (fun _ => 0)),
  .inl (0, 7, .inl (fun _ => 0)),
  .inl (0, 7, .inl (fun _ => 0)),
  .inr (10, [.int 0, .int 0, .long 0, .ref 40]),
  .inl (1, 7, .inl (fun _ => 0))]
theorem ini_x : ∃ h2, aX11_init 100 [.ref 0] [.inr (11, [.null, .null, .null, .null, .null, .int 0])] = some (none, h2) ∧ eq_h h2 ini_H = true := eq_r_i (by decide +kernel)
def ini_y : Nat → Int32 := fun k => if k = 19 then -1 else 0
theorem ini_m : ∃ h2, aX12_init 100 [.ref 0] [.inr (12, [.null, .int 0, .int 0, .int 0, .int 0, .int 0, .int 0, .int 0, .null, .null, .null, .null, .null, .null, .null, .int 0, .null, .null, .int 0, .int 0, .int 0, .int 0, .int 0, .int 0, .int 0, .null, .null, .null, .null, .long 0])] = some (none, h2) ∧ eq_h h2 (hm ini_y (fun _ _ => 0) 0) = true := eq_r_i (by decide +kernel)
def ini_p (k : Nat) : Nat := if k ≤ 10 then k else if k ≤ 23 then k + 7 else if k ≤ 26 then k + 14 else if k ≤ 33 then k + 4 else if k ≤ 40 then k - 23 else k
def ini_w : Nat → Nat → Int32 := fun k _ => if k = 21 then -1 else 0
theorem ini_4 (ad : Nat → Nat) (tc : Nat → ClassId) : ah_e ad tc (.inl (2, 7, .inr ini_F)) = ah_e (fun k => ad (ini_p k)) tc (.inl (2, 7, .inr hx_sg)) := by
  show (.inl (tc 2, 7, .inr (.inr (.inr (.inr (fun j => (ini_F j).map ad))))) : va_E) = .inl (tc 2, 7, .inr (.inr (.inr (.inr (fun j => (hx_sg j).map (fun k => ad (ini_p k)))))))
  have : (fun j => (ini_F j).map ad) = fun j => (hx_sg j).map (fun k => ad (ini_p k)) := by
    funext j
    by_cases h7 : j < 7
    · rcases (show j = 0 ∨ j = 1 ∨ j = 2 ∨ j = 3 ∨ j = 4 ∨ j = 5 ∨ j = 6 by omega) with rfl | rfl | rfl | rfl | rfl | rfl | rfl <;> rfl
    · unfold ini_F hx_sg
      simp only [va_l]
      rw [if_neg (by omega), if_neg (by omega), if_neg (by omega), if_neg (by omega), if_neg (by omega), if_neg (by omega), if_neg (by omega), if_neg h7]
      rfl
  rw [this]
theorem ini_23 (ad : Nat → Nat) (tc : Nat → ClassId) : ah_e ad tc (.inl (3, 7, .inr (at_mu 30))) = ah_e (fun k => ad (ini_p k)) tc (.inl (3, 7, .inr hx_lk)) := by
  show (.inl (tc 3, 7, .inr (.inr (.inr (.inr (fun j => (at_mu 30 j).map ad))))) : va_E) = .inl (tc 3, 7, .inr (.inr (.inr (.inr (fun j => (hx_lk j).map (fun k => ad (ini_p k)))))))
  have : (fun j => (at_mu 30 j).map ad) = fun j => (hx_lk j).map (fun k => ad (ini_p k)) := by
    funext j
    by_cases h7 : j < 7
    · rcases (show j = 0 ∨ j = 1 ∨ j = 2 ∨ j = 3 ∨ j = 4 ∨ j = 5 ∨ j = 6 by omega) with rfl | rfl | rfl | rfl | rfl | rfl | rfl <;> rfl
    · unfold at_mu hx_lk
      rw [if_neg h7, if_neg h7]
      rfl
  rw [this]
theorem ini_pi (ad : Nat → Nat) (tc : Nat → ClassId) : ∀ k e, (hx (fun _ => 0) ini_w 0)[k]? = some e → ∃ e2, ini_H[ini_p k]? = some e2 ∧ ah_e ad tc e2 = ah_e (fun k => ad (ini_p k)) tc e := by
  intro k e he
  have hk : k < 41 := (List.getElem?_eq_some_iff.mp he).1
  rcases (show k = 0 ∨ k = 1 ∨ k = 2 ∨ k = 3 ∨ k = 4 ∨ k = 5 ∨ k = 6 ∨ k = 7 ∨ k = 8 ∨ k = 9 ∨ k = 10 ∨ k = 11 ∨ k = 12 ∨ k = 13 ∨ k = 14 ∨ k = 15 ∨ k = 16 ∨ k = 17 ∨ k = 18 ∨ k = 19 ∨ k = 20 ∨ k = 21 ∨ k = 22 ∨ k = 23 ∨ k = 24 ∨ k = 25 ∨ k = 26 ∨ k = 27 ∨ k = 28 ∨ k = 29 ∨ k = 30 ∨ k = 31 ∨ k = 32 ∨ k = 33 ∨ k = 34 ∨ k = 35 ∨ k = 36 ∨ k = 37 ∨ k = 38 ∨ k = 39 ∨ k = 40 by omega) with rfl | rfl | rfl | rfl | rfl | rfl | rfl | rfl | rfl | rfl | rfl | rfl | rfl | rfl | rfl | rfl | rfl | rfl | rfl | rfl | rfl | rfl | rfl | rfl | rfl | rfl | rfl | rfl | rfl | rfl | rfl | rfl | rfl | rfl | rfl | rfl | rfl | rfl | rfl | rfl | rfl
  · exact ⟨_, rfl, by have he := Option.some.inj he; subst he; rfl⟩
  · exact ⟨_, rfl, by have he := Option.some.inj he; subst he; rfl⟩
  · exact ⟨_, rfl, by have he := Option.some.inj he; subst he; rfl⟩
  · exact ⟨_, rfl, by have he := Option.some.inj he; subst he; rfl⟩
  · exact ⟨_, rfl, by have he := Option.some.inj he; subst he; exact ini_4 ad tc⟩
  · exact ⟨_, rfl, by have he := Option.some.inj he; subst he; rfl⟩
  · exact ⟨_, rfl, by have he := Option.some.inj he; subst he; rfl⟩
  · exact ⟨_, rfl, by have he := Option.some.inj he; subst he; rfl⟩
  · exact ⟨_, rfl, by have he := Option.some.inj he; subst he; rfl⟩
  · exact ⟨_, rfl, by have he := Option.some.inj he; subst he; rfl⟩
  · exact ⟨_, rfl, by have he := Option.some.inj he; subst he; rfl⟩
  · exact ⟨_, rfl, by have he := Option.some.inj he; subst he; rfl⟩
  · exact ⟨_, rfl, by have he := Option.some.inj he; subst he; rfl⟩
  · exact ⟨_, rfl, by have he := Option.some.inj he; subst he; rfl⟩
  · exact ⟨_, rfl, by have he := Option.some.inj he; subst he; rfl⟩
  · exact ⟨_, rfl, by have he := Option.some.inj he; subst he; rfl⟩
  · exact ⟨_, rfl, by have he := Option.some.inj he; subst he; rfl⟩
  · exact ⟨_, rfl, by have he := Option.some.inj he; subst he; rfl⟩
  · exact ⟨_, rfl, by have he := Option.some.inj he; subst he; rfl⟩
  · exact ⟨_, rfl, by have he := Option.some.inj he; subst he; rfl⟩
  · exact ⟨_, rfl, by have he := Option.some.inj he; subst he; rfl⟩
  · exact ⟨_, rfl, by have he := Option.some.inj he; subst he; rfl⟩
  · exact ⟨_, rfl, by have he := Option.some.inj he; subst he; rfl⟩
  · exact ⟨_, rfl, by have he := Option.some.inj he; subst he; exact ini_23 ad tc⟩
  · exact ⟨_, rfl, by have he := Option.some.inj he; subst he; rfl⟩
  · exact ⟨_, rfl, by have he := Option.some.inj he; subst he; rfl⟩
  · exact ⟨_, rfl, by have he := Option.some.inj he; subst he; rfl⟩
  · exact ⟨_, rfl, by have he := Option.some.inj he; subst he; rfl⟩
  · exact ⟨_, rfl, by have he := Option.some.inj he; subst he; rfl⟩
  · exact ⟨_, rfl, by have he := Option.some.inj he; subst he; rfl⟩
  · exact ⟨_, rfl, by have he := Option.some.inj he; subst he; rfl⟩
  · exact ⟨_, rfl, by have he := Option.some.inj he; subst he; rfl⟩
  · exact ⟨_, rfl, by have he := Option.some.inj he; subst he; rfl⟩
  · exact ⟨_, rfl, by have he := Option.some.inj he; subst he; rfl⟩
  · exact ⟨_, rfl, by have he := Option.some.inj he; subst he; rfl⟩
  · exact ⟨_, rfl, by have he := Option.some.inj he; subst he; rfl⟩
  · exact ⟨_, rfl, by have he := Option.some.inj he; subst he; rfl⟩
  · exact ⟨_, rfl, by have he := Option.some.inj he; subst he; rfl⟩
  · exact ⟨_, rfl, by have he := Option.some.inj he; subst he; rfl⟩
  · exact ⟨_, rfl, by have he := Option.some.inj he; subst he; rfl⟩
  · exact ⟨_, rfl, by have he := Option.some.inj he; subst he; rfl⟩
theorem ini_inj0 : ∀ i j : Fin 41, ini_p i.val = ini_p j.val → i.val = j.val := by decide +kernel
theorem ini_inj : ∀ i j, i < 41 → j < 41 → ini_p i = ini_p j → i = j := fun i j hi hj h => ini_inj0 ⟨i, hi⟩ ⟨j, hj⟩ h
theorem ini_R : gm_R 0 0 0 0 (fun _ => 0) ini_w ini_y (fun _ _ => 0) := by
  refine ⟨⟨by omega, rfl, rfl, fun i hi => absurd hi (Nat.not_lt_zero _)⟩, ⟨by omega, rfl, rfl, fun i hi => (show 0 ≤ (0 : Int32).toInt ∧ (0 : Int32).toInt ≤ 9 by decide), fun i hi => absurd hi (Nat.not_lt_zero _), fun i hi => absurd hi (Nat.not_lt_zero _)⟩, ⟨by omega, rfl, rfl, fun i hi => absurd hi (Nat.not_lt_zero _)⟩, ⟨rfl, rfl, rfl, rfl⟩, ⟨0, ⟨by omega, by omega⟩, rfl, rfl, Or.inl ⟨rfl, by decide, Or.inl rfl⟩⟩⟩
