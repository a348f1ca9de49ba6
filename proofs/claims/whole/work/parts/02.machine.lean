/-! THE ABSTRACT MACHINE: a method's code as a list of steps over an abstract heap whose references are places -/
abbrev ah_E : Type := (Nat × Nat × ((Nat → Int32) ⊕ (Nat → Option Nat))) ⊕ (Nat × List Value)
abbrev ah_H : Type := List ah_E
abbrev ah_L : Type := List (Nat × Value)
abbrev ah_R : Type := Option Value × ah_H
abbrev ah_K : Type := ah_L → List Value → ah_H → Option ah_R
abbrev ah_J : Type := Nat → ah_K
abbrev ah_S : Type := ah_J → ah_K
def ah_v (ad : Nat → Nat) : Value → Value := fun v => match v with
  | .ref k => .ref (ad k)
  | v => v
def ah_e (ad : Nat → Nat) (tc : Nat → ClassId) : ah_E → va_E := fun e => match e with
  | .inl (t, n, .inl f) => .inl (tc t, n, .inl f)
  | .inl (t, n, .inr g) => .inl (tc t, n, .inr (.inr (.inr (.inr (fun i => (g i).map ad)))))
  | .inr (ci, fs) => .inr (ci, fs.map (ah_v ad))
def ah_w (ad : Nat → Nat) (tc : Nat → ClassId) (h : ah_H) : va_W := h.zipIdx.map (fun q => (ad q.2, ah_e ad tc q.1))
theorem ah_w_get {ad : Nat → Nat} {tc : Nat → ClassId} {h : ah_H} {k : Nat} {e : ah_E} (hk : h[k]? = some e) : (ah_w ad tc h)[k]? = some (ad k, ah_e ad tc e) := by
  unfold ah_w
  rw [List.getElem?_map, List.getElem?_zipIdx, hk]
  simp
theorem ah_w_set {ad : Nat → Nat} {tc : Nat → ClassId} {h : ah_H} {k : Nat} {e : ah_E} : (ah_w ad tc h).set k (ad k, ah_e ad tc e) = ah_w ad tc (h.set k e) := by
  apply List.ext_getElem?
  intro i
  unfold ah_w
  simp only [List.getElem?_set, List.getElem?_map, List.getElem?_zipIdx, List.length_map, List.length_zipIdx]
  by_cases hik : k = i
  · subst hik
    by_cases hk : k < h.length <;> simp [hk]
  · simp [hik]
def ah_lm (ad : Nat → Nat) (lv : ah_L) : List (Nat × Value) := lv.map (fun q => (q.1, ah_v ad q.2))
def ah_get : ah_L → Nat → Option Value
  | [], _ => none
  | (j, v) :: r, i => bif Nat.beq j i then some v else ah_get r i
theorem ah_get_mem {i : Nat} {v : Value} : ∀ {lv : ah_L}, ah_get lv i = some v → (i, v) ∈ lv
  | [], h => by cases h
  | (j, w) :: r, h => by
    unfold ah_get at h
    cases hb : Nat.beq j i with
    | true =>
      rw [hb] at h
      have e1 : j = i := Nat.eq_of_beq_eq_true hb
      have e2 : w = v := Option.some.inj h
      rw [e1, e2]
      exact List.mem_cons_self
    | false =>
      rw [hb] at h
      exact List.mem_cons_of_mem _ (ah_get_mem h)
theorem ah_loc {ad : Nat → Nat} {ls : Array Slot} {nL : Nat} {lv : ah_L} {i : Nat} {v : Value} (hl : lv_has ls nL (ah_lm ad lv)) (h : ah_get lv i = some v) : ls[i]? = some (.val (ah_v ad v)) :=
  hl.2.2 (i, ah_v ad v) (List.mem_map.mpr ⟨(i, v), ah_get_mem h, rfl⟩)
def ah_two : Value → Bool := fun v => match v with
  | .long _ => true
  | .double _ => true
  | _ => false
def ah_del : ah_L → Nat → ah_L
  | [], _ => []
  | (j, w) :: r, i => bif Nat.beq j i || (Nat.beq (j + 1) i && ah_two w) then ah_del r i else (j, w) :: ah_del r i
def ah_ins : ah_L → Nat → Value → ah_L
  | [], i, v => [(i, v)]
  | (j, w) :: r, i, v => bif Nat.blt i j then (i, v) :: (j, w) :: r else (j, w) :: ah_ins r i v
def ah_set (lv : ah_L) (i : Nat) (v : Value) : ah_L := ah_ins (ah_del lv i) i v
def ah_set2 (lv : ah_L) (i : Nat) (v : Value) : ah_L := ah_ins (ah_del (ah_del lv i) (i + 1)) i v
def ah_res : List Nat → ah_L → ah_L
  | [], _ => []
  | k :: ks, lv => match ah_get lv k with
    | some v => (k, v) :: ah_res ks lv
    | none => ah_res ks lv
theorem ah_del_mem {i : Nat} {q : Nat × Value} : ∀ {lv : ah_L}, q ∈ ah_del lv i → q ∈ lv ∧ ¬ q.1 = i ∧ ¬ (q.1 + 1 = i ∧ ah_two q.2 = true)
  | [], h => by cases h
  | (j, w) :: r, h => by
    unfold ah_del at h
    cases hb : (Nat.beq j i || (Nat.beq (j + 1) i && ah_two w)) with
    | true =>
      rw [hb] at h
      have := ah_del_mem (lv := r) h
      exact ⟨List.mem_cons_of_mem _ this.1, this.2⟩
    | false =>
      rw [hb] at h
      rcases List.mem_cons.mp h with e | h
      · subst e
        simp only [Bool.or_eq_false_iff, Bool.and_eq_false_iff] at hb
        refine ⟨List.mem_cons_self, fun e => ?_, fun e => ?_⟩
        · have e : j = i := e
          rw [e, Nat.beq_refl] at hb
          cases hb.1
        · have e1 : j + 1 = i := e.1
          rcases hb.2 with z | z
          · rw [e1, Nat.beq_refl] at z; cases z
          · have e2 : ah_two w = true := e.2
            rw [e2] at z; cases z
      · have := ah_del_mem (lv := r) h
        exact ⟨List.mem_cons_of_mem _ this.1, this.2⟩
theorem ah_ins_mem {i : Nat} {v : Value} {q : Nat × Value} : ∀ {lv : ah_L}, q ∈ ah_ins lv i v → q = (i, v) ∨ q ∈ lv
  | [], h => by
    have h : q ∈ [(i, v)] := h
    rcases List.mem_cons.mp h with e | h
    · exact Or.inl e
    · cases h
  | (j, w) :: r, h => by
    unfold ah_ins at h
    cases hb : Nat.blt i j with
    | true =>
      rw [hb] at h
      rcases List.mem_cons.mp h with e | h
      · exact Or.inl e
      · exact Or.inr h
    | false =>
      rw [hb] at h
      rcases List.mem_cons.mp h with e | h
      · exact Or.inr (by rw [e]; exact List.mem_cons_self)
      · rcases ah_ins_mem h with e | h
        · exact Or.inl e
        · exact Or.inr (List.mem_cons_of_mem _ h)
theorem ah_res_mem {lv : ah_L} {q : Nat × Value} : ∀ {ks : List Nat}, q ∈ ah_res ks lv → q ∈ lv
  | [], h => by cases h
  | k :: ks, h => by
    unfold ah_res at h
    split at h
    next v hv =>
      rcases List.mem_cons.mp h with e | h
      · rw [e]; exact ah_get_mem hv
      · exact ah_res_mem h
    next => exact ah_res_mem h
theorem ah_cat (ad : Nat → Nat) (v : Value) : (ah_v ad v).category = v.category := by cases v <;> rfl
theorem ah_two_cat (v : Value) : (v.category == 2) = ah_two v := by cases v <;> rfl
theorem ah_lmem {ad : Nat → Nat} {lv lv2 : ah_L} (h : ∀ q ∈ lv2, q ∈ lv) {ls : Array Slot} {nL : Nat} (hl : lv_has ls nL (ah_lm ad lv)) : lv_has ls nL (ah_lm ad lv2) := by
  refine ⟨hl.1, hl.2.1, fun q hq => ?_⟩
  obtain ⟨q0, h0, rfl⟩ := List.mem_map.mp hq
  exact hl.2.2 _ (List.mem_map.mpr ⟨q0, h q0 h0, rfl⟩)
theorem ah_st1 {ad : Nat → Nat} {lv : ah_L} {i : Nat} {v : Value} {ls : Array Slot} {nL : Nat} (hl : lv_has ls nL ((i, ah_v ad v) :: (ah_lm ad lv).filter (fun q => !(q.1 == i) && !(q.1 + 1 == i && q.2.category == 2)))) : lv_has ls nL (ah_lm ad (ah_set lv i v)) := by
  refine ⟨hl.1, hl.2.1, fun q hq => ?_⟩
  obtain ⟨q0, h0, rfl⟩ := List.mem_map.mp hq
  rcases ah_ins_mem h0 with e | h1
  · subst e
    exact hl.2.2 _ List.mem_cons_self
  · obtain ⟨h2, h3, h4⟩ := ah_del_mem h1
    refine hl.2.2 _ (List.mem_cons_of_mem _ (List.mem_filter.mpr ⟨List.mem_map.mpr ⟨q0, h2, rfl⟩, ?_⟩))
    have e1 : (q0.1 == i) = false := by simpa using h3
    simp only [ah_cat, ah_two_cat, e1]
    cases hb : (q0.1 + 1 == i && ah_two q0.2) with
    | false => rfl
    | true =>
      simp only [Bool.and_eq_true, beq_iff_eq] at hb
      exact absurd hb h4
theorem ah_st2 {ad : Nat → Nat} {lv : ah_L} {i : Nat} {v : Value} {ls : Array Slot} {nL : Nat} (hl : lv_has ls nL ((i, ah_v ad v) :: (ah_lm ad lv).filter (fun q => !(q.1 == i) && (!(q.1 == i + 1) && !(q.1 + 1 == i && q.2.category == 2))))) : lv_has ls nL (ah_lm ad (ah_set2 lv i v)) := by
  refine ⟨hl.1, hl.2.1, fun q hq => ?_⟩
  obtain ⟨q0, h0, rfl⟩ := List.mem_map.mp hq
  rcases ah_ins_mem h0 with e | h1
  · subst e
    exact hl.2.2 _ List.mem_cons_self
  · obtain ⟨h5, h6, -⟩ := ah_del_mem h1
    obtain ⟨h2, h3, h4⟩ := ah_del_mem h5
    refine hl.2.2 _ (List.mem_cons_of_mem _ (List.mem_filter.mpr ⟨List.mem_map.mpr ⟨q0, h2, rfl⟩, ?_⟩))
    have e1 : (q0.1 == i) = false := by simpa using h3
    have e2 : (q0.1 == i + 1) = false := by simpa using h6
    simp only [ah_cat, ah_two_cat, e1, e2]
    cases hb : (q0.1 + 1 == i && ah_two q0.2) with
    | false => rfl
    | true =>
      simp only [Bool.and_eq_true, beq_iff_eq] at hb
      exact absurd hb h4
def ah_den (back : ah_J) : List (Nat × ah_S) → ah_J
  | [] => back
  | (pc, f) :: rest => fun p => bif Nat.beq p pc then f (ah_den back rest) else ah_den back rest p
def ah_run (code : List (Nat × ah_S)) : Nat → ah_J
  | 0 => fun _ _ _ _ => none
  | f + 1 => ah_den (ah_run code f) code
def ah_Snd (G : Nat → ah_L → List Value → ah_H → Prop) (res : ah_R) (pc : Nat) (f : ah_S) : Prop := ∀ J : ah_J, (∀ p lv st h, J p lv st h = some res → G p lv st h) → ∀ lv st h, f J lv st h = some res → G pc lv st h
def ah_All (G : Nat → ah_L → List Value → ah_H → Prop) (res : ah_R) (code : List (Nat × ah_S)) : Prop := ∀ q ∈ code, ah_Snd G res q.1 q.2
theorem ah_nil {G : Nat → ah_L → List Value → ah_H → Prop} {res : ah_R} : ah_All G res [] := fun _ h => by cases h
theorem ah_cons {G : Nat → ah_L → List Value → ah_H → Prop} {res : ah_R} {pc : Nat} {f : ah_S} {r : List (Nat × ah_S)} (h : ah_Snd G res pc f) (t : ah_All G res r) : ah_All G res ((pc, f) :: r) := fun q hq => by
  rcases List.mem_cons.mp hq with e | hq
  · subst e; exact h
  · exact t q hq
theorem ah_den_ok {G : Nat → ah_L → List Value → ah_H → Prop} {res : ah_R} {back : ah_J} (hb : ∀ p lv st h, back p lv st h = some res → G p lv st h) : ∀ (code : List (Nat × ah_S)), ah_All G res code → ∀ p lv st h, ah_den back code p lv st h = some res → G p lv st h
  | [], _, p, lv, st, h, hf => hb p lv st h hf
  | (pc, f) :: rest, hc, p, lv, st, h, hf => by
    have ht : ah_All G res rest := fun q hq => hc q (List.mem_cons_of_mem _ hq)
    have ih := ah_den_ok hb rest ht
    unfold ah_den at hf
    cases hp : Nat.beq p pc with
    | true =>
      rw [hp] at hf
      have e : p = pc := Nat.eq_of_beq_eq_true hp
      rw [e]
      exact hc (pc, f) List.mem_cons_self _ ih lv st h hf
    | false =>
      rw [hp] at hf
      exact ih p lv st h hf
theorem ah_run_ok {G : Nat → ah_L → List Value → ah_H → Prop} {res : ah_R} {code : List (Nat × ah_S)} (hc : ah_All G res code) : ∀ (f : Nat) (p : Nat) (lv : ah_L) (st : List Value) (h : ah_H), ah_run code f p lv st h = some res → G p lv st h
  | 0, _, _, _, _, hf => by cases hf
  | f + 1, p, lv, st, h, hf => ah_den_ok (ah_run_ok hc f) code hc p lv st h hf
/-- jumps to n drop the locals that aren't in ks -/
def ah_lim (n : Nat) (ks : List Nat) (f : ah_S) : ah_S := fun J => f (fun p lv => bif Nat.beq p n then J p (ah_res ks lv) else J p lv)
-- what a step takes
def ah_aI : Option Value → Option Int32 := fun o => match o with
  | some (.int x) => some x
  | _ => none
def ah_aL : Option Value → Option Int64 := fun o => match o with
  | some (.long x) => some x
  | _ => none
def ah_aR : Option Value → Option Nat := fun o => match o with
  | some (.ref x) => some x
  | _ => none
theorem ah_aI_i {o : Option Value} {x : Int32} (h : ah_aI o = some x) : o = some (.int x) := by
  unfold ah_aI at h
  split at h
  · cases h; rfl
  · cases h
theorem ah_aL_i {o : Option Value} {x : Int64} (h : ah_aL o = some x) : o = some (.long x) := by
  unfold ah_aL at h
  split at h
  · cases h; rfl
  · cases h
theorem ah_aR_i {o : Option Value} {x : Nat} (h : ah_aR o = some x) : o = some (.ref x) := by
  unfold ah_aR at h
  split at h
  · cases h; rfl
  · cases h
def ah_p1 : List Value → Option (Int32 × List Value) := fun st => match st with
  | .int x :: r => some (x, r)
  | _ => none
def ah_p2 : List Value → Option (Int32 × Int32 × List Value) := fun st => match st with
  | .int y :: .int x :: r => some (x, y, r)
  | _ => none
def ah_g1 : List Value → Option (Int64 × List Value) := fun st => match st with
  | .long x :: r => some (x, r)
  | _ => none
def ah_g2 : List Value → Option (Int64 × Int64 × List Value) := fun st => match st with
  | .long y :: .long x :: r => some (x, y, r)
  | _ => none
def ah_q1 : List Value → Option (Nat × List Value) := fun st => match st with
  | .ref a :: r => some (a, r)
  | _ => none
def ah_qi : List Value → Option (Nat × Int32 × List Value) := fun st => match st with
  | .int i :: .ref a :: r => some (a, i, r)
  | _ => none
def ah_qii : List Value → Option (Nat × Int32 × Int32 × List Value) := fun st => match st with
  | .int x :: .int i :: .ref a :: r => some (a, i, x, r)
  | _ => none
def ah_ql : List Value → Option (Nat × Int64 × List Value) := fun st => match st with
  | .long i :: .ref a :: r => some (a, i, r)
  | _ => none
theorem ah_p1_i {st : List Value} {q : Int32 × List Value} (h : ah_p1 st = some q) : st = .int q.1 :: q.2 := by
  unfold ah_p1 at h
  split at h
  · cases h; rfl
  · cases h
theorem ah_p2_i {st : List Value} {q : Int32 × Int32 × List Value} (h : ah_p2 st = some q) : st = .int q.2.1 :: .int q.1 :: q.2.2 := by
  unfold ah_p2 at h
  split at h
  · cases h; rfl
  · cases h
theorem ah_g1_i {st : List Value} {q : Int64 × List Value} (h : ah_g1 st = some q) : st = .long q.1 :: q.2 := by
  unfold ah_g1 at h
  split at h
  · cases h; rfl
  · cases h
theorem ah_g2_i {st : List Value} {q : Int64 × Int64 × List Value} (h : ah_g2 st = some q) : st = .long q.2.1 :: .long q.1 :: q.2.2 := by
  unfold ah_g2 at h
  split at h
  · cases h; rfl
  · cases h
theorem ah_q1_i {st : List Value} {q : Nat × List Value} (h : ah_q1 st = some q) : st = .ref q.1 :: q.2 := by
  unfold ah_q1 at h
  split at h
  · cases h; rfl
  · cases h
theorem ah_qi_i {st : List Value} {q : Nat × Int32 × List Value} (h : ah_qi st = some q) : st = .int q.2.1 :: .ref q.1 :: q.2.2 := by
  unfold ah_qi at h
  split at h
  · cases h; rfl
  · cases h
theorem ah_qii_i {st : List Value} {q : Nat × Int32 × Int32 × List Value} (h : ah_qii st = some q) : st = .int q.2.2.1 :: .int q.2.1 :: .ref q.1 :: q.2.2.2 := by
  unfold ah_qii at h
  split at h
  · cases h; rfl
  · cases h
theorem ah_ql_i {st : List Value} {q : Nat × Int64 × List Value} (h : ah_ql st = some q) : st = .long q.2.1 :: .ref q.1 :: q.2.2 := by
  unfold ah_ql at h
  split at h
  · cases h; rfl
  · cases h
-- the heap
def ah_rd (f : Nat → Int32) (n : Nat) (i : Int32) : Option Int32 := if i < 0 ∨ n ≤ i.toNatClampNeg then none else some (f i.toNatClampNeg)
def ah_wr (f : Nat → Int32) (n : Nat) (i x : Int32) : Option (Nat → Int32) := if i < 0 ∨ n ≤ i.toNatClampNeg then none else some (upd f i.toNatClampNeg x)
def ah_rr (g : Nat → Option Nat) (n : Nat) (i : Int32) : Option Nat := if i < 0 ∨ n ≤ i.toNatClampNeg then none else g i.toNatClampNeg
def ah_in (c : Nat) : List Nat → Bool
  | [] => false
  | k :: r => bif Nat.beq c k then true else ah_in c r
theorem ah_in_mem {c : Nat} : ∀ {l : List Nat}, ah_in c l = true → c ∈ l
  | [], h => by cases h
  | k :: r, h => by
    unfold ah_in at h
    cases hb : Nat.beq c k with
    | true => rw [Nat.eq_of_beq_eq_true hb]; exact List.mem_cons_self
    | false => rw [hb] at h; exact List.mem_cons_of_mem _ (ah_in_mem h)
def ah_ob (h : ah_H) (a : Nat) : Option (Nat × List Value) := match h[a]? with
  | some (.inr q) => some q
  | _ => none
theorem ah_ob_i {h : ah_H} {a : Nat} {q : Nat × List Value} (e : ah_ob h a = some q) : h[a]? = some (.inr q) := by
  unfold ah_ob at e
  split at e
  next x hx => cases e; exact hx
  next => cases e
def ah_fv (h : ah_H) (a : Nat) (cs : List Nat) (k : Nat) : Option Value := (ah_ob h a).bind fun q => bif ah_in q.1 cs then q.2[k]? else none
def ah_fi (h : ah_H) (a : Nat) (cs : List Nat) (k : Nat) : Option Int32 := ah_aI (ah_fv h a cs k)
def ah_fl (h : ah_H) (a : Nat) (cs : List Nat) (k : Nat) : Option Int64 := ah_aL (ah_fv h a cs k)
def ah_fr (h : ah_H) (a : Nat) (cs : List Nat) (k : Nat) : Option Nat := ah_aR (ah_fv h a cs k)
def ah_sv (h : ah_H) (a : Nat) (cs : List Nat) (k : Nat) (v : Value) : Option ah_H := (ah_ob h a).bind fun q => bif ah_in q.1 cs && Nat.blt k q.2.length then some (h.set a (.inr (q.1, q.2.set k v))) else none
def ah_is (h : ah_H) (a : Nat) (cs : List Nat) : Bool := match ah_ob h a with
  | some q => ah_in q.1 cs
  | none => false
theorem ah_is_i {h : ah_H} {a : Nat} {cs : List Nat} (e : ah_is h a cs = true) : ∃ q, ah_ob h a = some q ∧ ah_in q.1 cs = true := by
  unfold ah_is at e
  split at e
  next q hq => exact ⟨q, hq, e⟩
  next => cases e
def ah_ai (h : ah_H) (a t : Nat) : Option (Nat × (Nat → Int32)) := match h[a]? with
  | some (.inl (t2, n, .inl f)) => bif Nat.beq t2 t then some (n, f) else none
  | _ => none
theorem ah_ai_i {h : ah_H} {a t : Nat} {q : Nat × (Nat → Int32)} (e : ah_ai h a t = some q) : h[a]? = some (.inl (t, q.1, .inl q.2)) := by
  unfold ah_ai at e
  split at e
  next t2 n f hx =>
    cases hb : Nat.beq t2 t with
    | true => rw [hb] at e; cases e; rw [hx, Nat.eq_of_beq_eq_true hb]
    | false => rw [hb] at e; cases e
  next => cases e
def ah_ar (h : ah_H) (a t : Nat) : Option (Nat × (Nat → Option Nat)) := match h[a]? with
  | some (.inl (t2, n, .inr f)) => bif Nat.beq t2 t then some (n, f) else none
  | _ => none
theorem ah_ar_i {h : ah_H} {a t : Nat} {q : Nat × (Nat → Option Nat)} (e : ah_ar h a t = some q) : h[a]? = some (.inl (t, q.1, .inr q.2)) := by
  unfold ah_ar at e
  split at e
  next t2 n f hx =>
    cases hb : Nat.beq t2 t with
    | true => rw [hb] at e; cases e; rw [hx, Nat.eq_of_beq_eq_true hb]
    | false => rw [hb] at e; cases e
  next => cases e
/-- an element is read; one is written -/
def ah_li (h : ah_H) (a t : Nat) (i : Int32) : Option Int32 := (ah_ai h a t).bind fun w => ah_rd w.2 w.1 i
def ah_lr (h : ah_H) (a t : Nat) (i : Int32) : Option Nat := (ah_ar h a t).bind fun w => ah_rr w.2 w.1 i
def ah_si (h : ah_H) (a t : Nat) (i x : Int32) : Option ah_H := (ah_ai h a t).bind fun w => (ah_wr w.2 w.1 i x).bind fun f => some (h.set a (.inl (t, w.1, .inl f)))
-- the steps
def ah_push (v : Value) (n : Nat) : ah_S := fun J lv st h => J n lv (v :: st) h
def ah_ild (i n : Nat) : ah_S := fun J lv st h => (ah_aI (ah_get lv i)).bind fun x => J n lv (.int x :: st) h
def ah_lld (i n : Nat) : ah_S := fun J lv st h => (ah_aL (ah_get lv i)).bind fun x => J n lv (.long x :: st) h
def ah_ald (i n : Nat) : ah_S := fun J lv st h => (ah_aR (ah_get lv i)).bind fun x => J n lv (.ref x :: st) h
def ah_ist (i n : Nat) : ah_S := fun J lv st h => (ah_p1 st).bind fun q => J n (ah_set lv i (.int q.1)) q.2 h
def ah_lst (i n : Nat) : ah_S := fun J lv st h => (ah_g1 st).bind fun q => J n (ah_set2 lv i (.long q.1)) q.2 h
def ah_rst (i n : Nat) : ah_S := fun J lv st h => (ah_q1 st).bind fun q => J n (ah_set lv i (.ref q.1)) q.2 h
def ah_inc (i : Nat) (d : Int32) (n : Nat) : ah_S := fun J lv st h => (ah_aI (ah_get lv i)).bind fun x => J n (ah_set lv i (.int (x + d))) st h
def ah_bin (g : Int32 → Int32 → Int32) (n : Nat) : ah_S := fun J lv st h => (ah_p2 st).bind fun q => J n lv (.int (g q.1 q.2.1) :: q.2.2) h
def ah_un (g : Int32 → Int32) (n : Nat) : ah_S := fun J lv st h => (ah_p1 st).bind fun q => J n lv (.int (g q.1) :: q.2) h
def ah_div (n : Nat) : ah_S := fun J lv st h => (ah_p2 st).bind fun q => if q.2.1 = 0 then none else J n lv (.int (q.1 / q.2.1) :: q.2.2) h
def ah_rem (n : Nat) : ah_S := fun J lv st h => (ah_p2 st).bind fun q => if q.2.1 = 0 then none else J n lv (.int (q.1 - q.1 / q.2.1 * q.2.1) :: q.2.2) h
def ah_lbin (g : Int64 → Int64 → Int64) (n : Nat) : ah_S := fun J lv st h => (ah_g2 st).bind fun q => J n lv (.long (g q.1 q.2.1) :: q.2.2) h
def ah_ldiv (n : Nat) : ah_S := fun J lv st h => (ah_g2 st).bind fun q => if q.2.1 = 0 then none else J n lv (.long (q.1 / q.2.1) :: q.2.2) h
def ah_lrem (n : Nat) : ah_S := fun J lv st h => (ah_g2 st).bind fun q => if q.2.1 = 0 then none else J n lv (.long (q.1 - q.1 / q.2.1 * q.2.1) :: q.2.2) h
def ah_lcmp (n : Nat) : ah_S := fun J lv st h => (ah_g2 st).bind fun q => J n lv (.int (lg_cmp q.1 q.2.1) :: q.2.2) h
def ah_i2l (n : Nat) : ah_S := fun J lv st h => (ah_p1 st).bind fun q => J n lv (.long q.1.toInt64 :: q.2) h
def ah_l2i (n : Nat) : ah_S := fun J lv st h => (ah_g1 st).bind fun q => J n lv (.int q.1.toInt32 :: q.2) h
def ah_dupR (n : Nat) : ah_S := fun J lv st h => (ah_q1 st).bind fun q => J n lv (.ref q.1 :: .ref q.1 :: q.2) h
def ah_dup2 (n : Nat) : ah_S := fun J lv st h => (ah_qi st).bind fun q => J n lv (.int q.2.1 :: .ref q.1 :: .int q.2.1 :: .ref q.1 :: q.2.2) h
def ah_goto (t : Nat) : ah_S := fun J lv st h => J t lv st h
def ah_ceq (t n : Nat) : ah_S := fun J lv st h => (ah_p2 st).bind fun q => if q.1 = q.2.1 then J t lv q.2.2 h else J n lv q.2.2 h
def ah_clt (t n : Nat) : ah_S := fun J lv st h => (ah_p2 st).bind fun q => if q.1 < q.2.1 then J t lv q.2.2 h else J n lv q.2.2 h
def ah_cgt (t n : Nat) : ah_S := fun J lv st h => (ah_p2 st).bind fun q => if q.2.1 < q.1 then J t lv q.2.2 h else J n lv q.2.2 h
def ah_zeq (t n : Nat) : ah_S := fun J lv st h => (ah_p1 st).bind fun q => if q.1 = 0 then J t lv q.2 h else J n lv q.2 h
def ah_zlt (t n : Nat) : ah_S := fun J lv st h => (ah_p1 st).bind fun q => if q.1 < 0 then J t lv q.2 h else J n lv q.2 h
def ah_zgt (t n : Nat) : ah_S := fun J lv st h => (ah_p1 st).bind fun q => if 0 < q.1 then J t lv q.2 h else J n lv q.2 h
def ah_swt (J : ah_J) (lv : ah_L) (r : List Value) (h : ah_H) (x : Int32) (d : Nat) : List (Int32 × Nat) → Option ah_R
  | [] => J d lv r h
  | (k, t) :: ks => if x = k then J t lv r h else ah_swt J lv r h x d ks
def ah_sw (ks : List (Int32 × Nat)) (d : Nat) : ah_S := fun J lv st h => (ah_p1 st).bind fun q => ah_swt J lv q.2 h q.1 d ks
def ah_gfi (cs : List Nat) (k n : Nat) : ah_S := fun J lv st h => (ah_q1 st).bind fun q => (ah_fi h q.1 cs k).bind fun x => J n lv (.int x :: q.2) h
def ah_gfl (cs : List Nat) (k n : Nat) : ah_S := fun J lv st h => (ah_q1 st).bind fun q => (ah_fl h q.1 cs k).bind fun x => J n lv (.long x :: q.2) h
def ah_gfr (cs : List Nat) (k n : Nat) : ah_S := fun J lv st h => (ah_q1 st).bind fun q => (ah_fr h q.1 cs k).bind fun x => J n lv (.ref x :: q.2) h
def ah_pfi (cs : List Nat) (k n : Nat) : ah_S := fun J lv st h => (ah_qi st).bind fun q => (ah_sv h q.1 cs k (.int q.2.1)).bind fun h2 => J n lv q.2.2 h2
def ah_pfz (cs : List Nat) (k n : Nat) : ah_S := fun J lv st h => (ah_qi st).bind fun q => if q.2.1 = 0 ∨ q.2.1 = 1 then (ah_sv h q.1 cs k (.int q.2.1)).bind fun h2 => J n lv q.2.2 h2 else none
def ah_pfl (cs : List Nat) (k n : Nat) : ah_S := fun J lv st h => (ah_ql st).bind fun q => (ah_sv h q.1 cs k (.long q.2.1)).bind fun h2 => J n lv q.2.2 h2
def ah_iald (t n : Nat) : ah_S := fun J lv st h => (ah_qi st).bind fun q => (ah_li h q.1 t q.2.1).bind fun x => J n lv (.int x :: q.2.2) h
def ah_iast (n : Nat) : ah_S := fun J lv st h => (ah_qii st).bind fun q => (ah_si h q.1 0 q.2.1 q.2.2.1).bind fun h2 => J n lv q.2.2.2 h2
def ah_zast (n : Nat) : ah_S := fun J lv st h => (ah_qii st).bind fun q => if q.2.2.1 = 0 ∨ q.2.2.1 = 1 then (ah_si h q.1 1 q.2.1 q.2.2.1).bind fun h2 => J n lv q.2.2.2 h2 else none
def ah_aald (t n : Nat) : ah_S := fun J lv st h => (ah_qi st).bind fun q => (ah_lr h q.1 t q.2.1).bind fun x => J n lv (.ref x :: q.2.2) h
def ah_alen (n : Nat) : ah_S := fun J lv st h => (ah_q1 st).bind fun q => (ah_ai h q.1 0).bind fun w => J n lv (.int (Int32.ofNat w.1) :: q.2) h
def ah_inst (ys ns : List Nat) (n : Nat) : ah_S := fun J lv st h => (ah_q1 st).bind fun q => bif ah_is h q.1 ys then J n lv (.int 1 :: q.2) h else bif ah_is h q.1 ns then J n lv (.int 0 :: q.2) h else none
def ah_iret : ah_S := fun _ _ st h => (ah_p1 st).bind fun q => match q.2 with
  | [] => some (some (.int q.1), h)
  | _ => none
def ah_zret : ah_S := fun _ _ st h => (ah_p1 st).bind fun q => match q.2 with
  | [] => if q.1 = 0 ∨ q.1 = 1 then some (some (.int q.1), h) else none
  | _ => none
def ah_lret : ah_S := fun _ _ st h => (ah_g1 st).bind fun q => match q.2 with
  | [] => some (some (.long q.1), h)
  | _ => none
def ah_vret : ah_S := fun _ _ st h => match st with
  | [] => some (none, h)
  | _ => none
