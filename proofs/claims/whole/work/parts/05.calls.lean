/-! calls, and a method's contract out of its table -/
def ah_pop : Nat → List Value → List Value → Option (List Value × List Value)
  | 0, acc, st => some (acc, st)
  | k + 1, acc, st => match st with
    | v :: r => ah_pop k (v :: acc) r
    | [] => none
theorem ah_pop_i {q : List Value × List Value} : ∀ {k : Nat} {acc st : List Value}, ah_pop k acc st = some q → ∃ pre : List Value, pre.length = k ∧ st = pre ++ q.2 ∧ q.1 = pre.reverse ++ acc
  | 0, acc, st, h => by
    have e := Option.some.inj h
    subst e
    exact ⟨[], rfl, rfl, rfl⟩
  | k + 1, acc, [], h => by cases h
  | k + 1, acc, v :: r, h => by
    obtain ⟨pre, h1, h2, h3⟩ := ah_pop_i (k := k) (acc := v :: acc) (st := r) h
    refine ⟨v :: pre, by rw [List.length_cons, h1], by rw [h2]; rfl, by rw [h3]; simp⟩
def ah_rm : List Value → Nat → Bool
  | [], _ => true
  | _ :: _, 0 => false
  | v :: r, k + 1 => match v with
    | .long _ => (match k with
      | 0 => false
      | j + 1 => ah_rm r j)
    | .double _ => (match k with
      | 0 => false
      | j + 1 => ah_rm r j)
    | _ => ah_rm r k
theorem ah_rm_i (ad : Nat → Nat) : ∀ {r : List Value} {k : Nat}, ah_rm r k = true → ((r.map (ah_v ad)).map fun v => v.category).sum ≤ k
  | [], _, _ => Nat.zero_le _
  | v :: r, 0, h => by cases v <;> cases h
  | v :: r, k + 1, h => by
    have e : (((v :: r).map (ah_v ad)).map fun v => v.category).sum = (ah_v ad v).category + ((r.map (ah_v ad)).map fun v => v.category).sum := by simp
    rw [e, ah_cat]
    cases v with
    | long x =>
      cases k with
      | zero => cases h
      | succ j =>
        have := ah_rm_i ad (r := r) (k := j) h
        have e2 : (Value.long x).category = 2 := rfl
        omega
    | double x =>
      cases k with
      | zero => cases h
      | succ j =>
        have := ah_rm_i ad (r := r) (k := j) h
        have e2 : (Value.double x).category = 2 := rfl
        omega
    | int x =>
      have := ah_rm_i ad (r := r) (k := k) h
      have e2 : (Value.int x).category = 1 := rfl
      omega
    | float x =>
      have := ah_rm_i ad (r := r) (k := k) h
      have e2 : (Value.float x).category = 1 := rfl
      omega
    | null =>
      have := ah_rm_i ad (r := r) (k := k) h
      have e2 : (Value.null).category = 1 := rfl
      omega
    | ref x =>
      have := ah_rm_i ad (r := r) (k := k) h
      have e2 : (Value.ref x).category = 1 := rfl
      omega
    | retAddr x =>
      have := ah_rm_i ad (r := r) (k := k) h
      have e2 : (Value.retAddr x).category = 1 := rfl
      omega
abbrev ah_F : Type := List Value → ah_H → Option ah_R
def ah_rI : Option ah_R → Option (Int32 × ah_H) := fun o => match o with
  | some (some (.int x), h) => some (x, h)
  | _ => none
def ah_rL : Option ah_R → Option (Int64 × ah_H) := fun o => match o with
  | some (some (.long x), h) => some (x, h)
  | _ => none
def ah_rV : Option ah_R → Option ah_H := fun o => match o with
  | some (none, h) => some h
  | _ => none
theorem ah_rI_i {o : Option ah_R} {q : Int32 × ah_H} (h : ah_rI o = some q) : o = some (some (.int q.1), q.2) := by
  unfold ah_rI at h
  split at h
  · cases h; rfl
  · cases h
theorem ah_rL_i {o : Option ah_R} {q : Int64 × ah_H} (h : ah_rL o = some q) : o = some (some (.long q.1), q.2) := by
  unfold ah_rL at h
  split at h
  · cases h; rfl
  · cases h
theorem ah_rV_i {o : Option ah_R} {q : ah_H} (h : ah_rV o = some q) : o = some (none, q) := by
  unfold ah_rV at h
  split at h
  · cases h; rfl
  · cases h
def ah_sel : List (Nat × ah_F) → Nat → Option ah_F
  | [], _ => none
  | (k, F) :: r, c => bif Nat.beq c k then some F else ah_sel r c
theorem ah_sel_i {c : Nat} {F : ah_F} : ∀ {tab : List (Nat × ah_F)}, ah_sel tab c = some F → (c, F) ∈ tab
  | [], h => by cases h
  | (k, F2) :: r, h => by
    unfold ah_sel at h
    cases hb : Nat.beq c k with
    | true =>
      rw [hb] at h
      have e1 := Nat.eq_of_beq_eq_true hb
      have e2 : F2 = F := Option.some.inj h
      rw [e1, e2]; exact List.mem_cons_self
    | false => rw [hb] at h; exact List.mem_cons_of_mem _ (ah_sel_i h)
/-- a call on an object: which method, its class says -/
def ah_vI (tab : List (Nat × ah_F)) (k n : Nat) : ah_S := fun J lv st h => (ah_pop k [] st).bind fun q => (ah_q1 q.1).bind fun r => (ah_ob h r.1).bind fun o => (ah_sel tab o.1).bind fun F => bif ah_rm q.2 8 then (ah_rI (F q.1 h)).bind fun w => J n lv (.int w.1 :: q.2) w.2 else none
def ah_vL (tab : List (Nat × ah_F)) (k n : Nat) : ah_S := fun J lv st h => (ah_pop k [] st).bind fun q => (ah_q1 q.1).bind fun r => (ah_ob h r.1).bind fun o => (ah_sel tab o.1).bind fun F => bif ah_rm q.2 8 then (ah_rL (F q.1 h)).bind fun w => J n lv (.long w.1 :: q.2) w.2 else none
def ah_vV (tab : List (Nat × ah_F)) (k n : Nat) : ah_S := fun J lv st h => (ah_pop k [] st).bind fun q => (ah_q1 q.1).bind fun r => (ah_ob h r.1).bind fun o => (ah_sel tab o.1).bind fun F => bif ah_rm q.2 8 then (ah_rV (F q.1 h)).bind fun w => J n lv q.2 w else none
def ah_sI (F : ah_F) (k n : Nat) : ah_S := fun J lv st h => (ah_pop k [] st).bind fun q => bif ah_rm q.2 8 then (ah_rI (F q.1 h)).bind fun w => J n lv (.int w.1 :: q.2) w.2 else none
def ah_sL (F : ah_F) (k n : Nat) : ah_S := fun J lv st h => (ah_pop k [] st).bind fun q => bif ah_rm q.2 8 then (ah_rL (F q.1 h)).bind fun w => J n lv (.long w.1 :: q.2) w.2 else none
def ah_sV (F : ah_F) (k n : Nat) : ah_S := fun J lv st h => (ah_pop k [] st).bind fun q => bif ah_rm q.2 8 then (ah_rV (F q.1 h)).bind fun w => J n lv q.2 w else none
def ah_room (f n : Nat) : Room := { frames := f, cells := 0, slots := 0, locals := n }
def ah_Met (l : Launch) (s0 : State) (D : va_G) (tc : Nat → ClassId) (ad : Nat → Nat) (A : Nat → Prop) (y : MethodName) (cc : ByteArray) (maxL : Nat) (ret : Option FieldType) (fr lo : Nat) (F : ah_F) : Prop := ∀ (as : List Value) (h : ah_H) (res : ah_R), F as h = some res → Met l y (Cond.code y cc maxL ret :: ah_TT) (ah_room fr lo) (ah_Pre s0 D tc ad A as h) (ah_Q D tc ad A res) 0 0 A
theorem ah_blind {s0 : State} {D : va_G} {tc : Nat → ClassId} {ad : Nat → Nat} {A : Nat → Prop} {as : List Value} {h : ah_H} : FrameBlind (ah_Pre s0 D tc ad A as h) := fun a U g mk q => by
  obtain ⟨q0, qP, qK, qD, qE⟩ := q
  exact ⟨q0, qP, va_K.moved (u := U) (U := U.calling g mk a) (Vm.Alike.refl U.vm) qK, qD, qE⟩
section AHC
variable {p : Program} {l : Launch} {e : Env} {R : Room} {s : State} {m : MethodId} {args : Array Value} {below : List Frame} {meth : Method} {c : Code} {cc : ByteArray} {nL : Nat} {own : String} {ret : Option FieldType} {s0 : State} {D : va_G} {tc : Nat → ClassId} {ad : Nat → Nat} {A : Nat → Prop} {res : ah_R} {pc : Nat}
theorem ah_pre (C : ah_C p s m args meth c cc nL own ret s0 D tc A) {as : List Value} {h : ah_H} {H : Heap} {locs : List Loc} (hP : va_P D vwCl (ah_w ad tc h) H) (hD : va_D A (ah_w ad tc h)) (hS : va_S A s.heap H locs) : ∀ U : State, U.heap = H → s.WarmedH U.vm → ah_Pre s0 D tc ad A as h (as.map (ah_v ad)).toArray U := by
  intro U hU hW
  obtain ⟨e1, e2, e3⟩ := C.2.2.2.2.2.2.1
  refine ⟨rfl, by rw [hU]; exact hP, va_K.moved hW.alike C.2.2.2.2.2.1, hD, State.WarmedH.trans e1 hW, by rw [hU]; exact Nat.le_trans e2 hS.1, fun q hq => ?_⟩
  rw [hU, hS.2.1 q (Nat.lt_of_lt_of_le hq e2) (fun z => Nat.not_lt.mpr (C.2.2.2.2.2.2.2.1 q z) hq)]
  exact e3 q hq
theorem ah_call {res2 : ah_R} {a : Array Value} {H : Heap} {locs : List Loc} {ls : Array Slot} {st0 rest : List Value} {Q : State → Prop} (hr : va_Run p l e R s m args below meth c H locs 0 0 0 0 (F0 m pc ls st0) rest (ah_Q D tc ad A res2 a) A) (hS : va_S A s.heap H locs)
    (kk : ∀ (H1 : Heap) (locs1 : List Loc), va_P D vwCl (ah_w ad tc res2.2) H1 → va_D A (ah_w ad tc res2.2) → va_S A s.heap H1 locs1 → W p l e R s m args below meth c H1 locs1 0 0 Q (F0 m (pc + 3) ls ((res2.1.map (ah_v ad)).toList ++ rest))) : W p l e R s m args below meth c H locs 0 0 Q (F0 m pc ls st0) := by
  intro T hT X
  obtain ⟨v, st₀, t, T', L, h0, X', hL, e1, e2, ⟨hv, hp, hd, hz, hk⟩, st⟩ := hr T hT X
  injection hv with hv
  subst hv
  rw [h0] at hz hk
  obtain ⟨t2, a1, b1⟩ := kk T'.heap (locs ++ L) (by rw [e1]; exact hp) hd
    ⟨Nat.le_trans hS.1 (by rw [e1]; exact hz), fun q h1 h2 => by rw [e1, hk q (Nat.lt_of_lt_of_le h1 hS.1) h2]; exact hS.2.1 q h1 h2, fun q hq => by
      rcases List.mem_append.mp hq with h | h
      · exact hS.2.2 q h
      · exact hL q h⟩ T' rfl X'
  exact ⟨t2, st t2 a1, b1⟩
/-- the call at pc, on an object of class ci, with k values (the object among them), is answered by F -/
def ah_Vok (p : Program) (l : Launch) (e : Env) (R : Room) (s : State) (m : MethodId) (args : Array Value) (below : List Frame) (meth : Method) (c : Code) (nL : Nat) (D : va_G) (tc : Nat → ClassId) (ad : Nat → Nat) (A : Nat → Prop) (pc k ci : Nat) (F : ah_F) : Prop := ∀ (h : ah_H) (a : Nat) (fs As rest : List Value) (res2 : ah_R) (ls : Array Slot) (H : Heap) (locs : List Loc), h[a]? = some (.inr (ci, fs)) → As.length + 1 = k → F (.ref a :: As) h = some res2 → va_P D vwCl (ah_w ad tc h) H → va_D A (ah_w ad tc h) → va_S A s.heap H locs → ls.size = nL → (rest.map fun v => v.category).sum ≤ 8 → va_Run p l e R s m args below meth c H locs 0 0 0 0 (F0 m pc ls ((As.map (ah_v ad)).reverse ++ .ref (ad a) :: rest)) rest (ah_Q D tc ad A res2 (Value.ref (ad a) :: As.map (ah_v ad)).toArray) A
theorem ah_okV (C : ah_C p s m args meth c cc nL own ret s0 D tc A) {y : MethodName} {cc2 : ByteArray} {maxL fr lo idx n ci N : Nat} {ret2 : Option FieldType} {Cn : String} {T : u_T} {F : ah_F} (hM : ah_Met l s0 D tc ad A y cc2 maxL ret2 fr lo F) (hd : decode cc pc = .ok (.invokevirtual idx, 3)) (hci : vwCl[ci]? = some (Cn, T, N))
    (w1 : Cond.methodLink own idx y ∈ ah_TT) (w2 : Cond.instanceMethod y ∈ ah_TT) (w3 : Cond.selects Cn y y ∈ ah_TT) (w4 : Cond.initialized Cn ∈ ah_TT) (w5 : Cond.code y cc2 maxL ret2 ∈ ah_TT) (hdd : y.cls = Cn ∧ y.cls ≠ "java/lang/invoke/MethodHandle" ∧ y.cls ≠ "java/lang/invoke/VarHandle" ∧ (parseMethodDescriptor y.desc).map (fun d => d.parameters.length) = some n) (hR : fr + 1 ≤ R.frames ∧ 8 + (maxL + 11) + lo ≤ R.locals) : ah_Vok p l e R s m args below meth c nL D tc ad A pc (n + 1) ci F := by
  intro h a fs As rest res2 ls H locs ha hk hF hP hD hS hls hrm
  have hG : GoodIn ah_TT (wsV own idx Cn y (Cond.code y cc2 maxL ret2 :: ah_TT)) := by
    intro w hw
    have hw2 : w ∈ ah_TT := by
      unfold wsV at hw
      rcases List.mem_append.mp hw with hw | hw
      · rcases List.mem_cons.mp hw with rfl | hw
        · exact w1
        rcases List.mem_cons.mp hw with rfl | hw
        · exact w2
        rcases List.mem_cons.mp hw with rfl | hw
        · exact w3
        rcases List.mem_cons.mp hw with rfl | hw
        · exact w4
        cases hw
      · rcases List.mem_cons.mp hw with rfl | hw
        · exact w5
        · exact hw
    exact ⟨hw2, ah_TT_good hw2⟩
  exact va_runV (Ts := ah_TT) (As := As.map (ah_v ad)) (rest := rest) ⟨C.1, C.2.1, C.2.2.1, C.2.2.2.1, C.2.2.2.2.1⟩ (hM _ _ _ hF) (cwV n C.2.2.2.2.1 hG rfl rfl rfl hdd hR) ⟨ah_blind, va_recv C.2.2.2.2.2.1 hP hci (ah_w_get ha), ah_pre C (as := .ref a :: As) hP hD hS⟩ rfl (by rw [List.length_map]; omega) hls rfl (lv_room hrm) hd ⟨Nat.zero_le _, Nat.zero_le _⟩
theorem ah_okU (C : ah_C p s m args meth c cc nL own ret s0 D tc A) {x y : MethodName} {cc2 : ByteArray} {maxL fr lo idx n ci N : Nat} {ret2 : Option FieldType} {Cn owner : String} {T : u_T} {F : ah_F} (hM : ah_Met l s0 D tc ad A y cc2 maxL ret2 fr lo F) (hd : decode cc pc = .ok (.invokevirtual idx, 3)) (hci : vwCl[ci]? = some (Cn, T, N))
    (w1 : Cond.methodLink own idx x ∈ ah_TT) (w6 : Cond.sameMethod x.cls owner x.name x.desc ∈ ah_TT) (w2 : Cond.instanceMethod ⟨owner, x.name, x.desc⟩ ∈ ah_TT) (w3 : Cond.selects Cn x y ∈ ah_TT) (w7 : Cond.instanceMethod y ∈ ah_TT) (w4 : Cond.initialized y.cls ∈ ah_TT) (w5 : Cond.code y cc2 maxL ret2 ∈ ah_TT)
    {b0 : ByteArray} {m0 : Nat} {r0 : Option FieldType} (h0 : Cond.code ⟨owner, x.name, x.desc⟩ b0 m0 r0 ∈ ah_TT) (hdd : owner ≠ "java/lang/invoke/MethodHandle" ∧ owner ≠ "java/lang/invoke/VarHandle" ∧ (parseMethodDescriptor x.desc).map (fun d => d.parameters.length) = some n) (hR : fr + 1 ≤ R.frames ∧ 8 + (maxL + 11) + lo ≤ R.locals) : ah_Vok p l e R s m args below meth c nL D tc ad A pc (n + 1) ci F := by
  intro h a fs As rest res2 ls H locs ha hk hF hP hD hS hls hrm
  have hG : GoodIn ah_TT (va_wsO own idx Cn owner x y (Cond.code y cc2 maxL ret2 :: ah_TT)) := by
    intro w hw
    have hw2 : w ∈ ah_TT := by
      unfold va_wsO at hw
      rcases List.mem_append.mp hw with hw | hw
      · rcases List.mem_cons.mp hw with rfl | hw
        · exact w1
        rcases List.mem_cons.mp hw with rfl | hw
        · exact w6
        rcases List.mem_cons.mp hw with rfl | hw
        · exact w2
        rcases List.mem_cons.mp hw with rfl | hw
        · exact w3
        rcases List.mem_cons.mp hw with rfl | hw
        · exact w7
        rcases List.mem_cons.mp hw with rfl | hw
        · exact w4
        cases hw
      · rcases List.mem_cons.mp hw with rfl | hw
        · exact w5
        · exact hw
    exact ⟨hw2, ah_TT_good hw2⟩
  exact va_runU (Ts := ah_TT) (As := As.map (ah_v ad)) (rest := rest) ⟨C.1, C.2.1, C.2.2.1, C.2.2.2.1, C.2.2.2.2.1⟩ (hM _ _ _ hF) (va_cwO n C.2.2.2.2.1 hG rfl rfl rfl h0 hdd hR) ⟨ah_blind, va_recv C.2.2.2.2.2.1 hP hci (ah_w_get ha), ah_pre C (as := .ref a :: As) hP hD hS⟩ rfl (by rw [List.length_map]; omega) hls rfl (lv_room hrm) hd ⟨Nat.zero_le _, Nat.zero_le _⟩
/-- what a table of a call says of each of its rows -/
def ah_Tok (p : Program) (l : Launch) (e : Env) (R : Room) (s : State) (m : MethodId) (args : Array Value) (below : List Frame) (meth : Method) (c : Code) (nL : Nat) (D : va_G) (tc : Nat → ClassId) (ad : Nat → Nat) (A : Nat → Prop) (pc k : Nat) (tab : List (Nat × ah_F)) : Prop := ∀ q ∈ tab, ah_Vok p l e R s m args below meth c nL D tc ad A pc k q.1 q.2
theorem ah_t0 {k : Nat} : ah_Tok p l e R s m args below meth c nL D tc ad A pc k [] := fun _ h => by cases h
theorem ah_t1 {k ci : Nat} {F : ah_F} {r : List (Nat × ah_F)} (h : ah_Vok p l e R s m args below meth c nL D tc ad A pc k ci F) (t : ah_Tok p l e R s m args below meth c nL D tc ad A pc k r) : ah_Tok p l e R s m args below meth c nL D tc ad A pc k ((ci, F) :: r) := fun q hq => by
  rcases List.mem_cons.mp hq with e | hq
  · subst e; exact h
  · exact t q hq
theorem ah_vcall {k : Nat} {tab : List (Nat × ah_F)} (hT : ah_Tok p l e R s m args below meth c nL D tc ad A pc k tab) {st : List Value} {h : ah_H} {q : List Value × List Value} {r : Nat × List Value} {o : Nat × List Value} {F : ah_F} {res2 : ah_R} {ls : Array Slot} {H : Heap} {locs : List Loc} {Q : State → Prop} {lv : List (Nat × Value)} (h1 : ah_pop k [] st = some q) (h2 : ah_q1 q.1 = some r) (h3 : ah_ob h r.1 = some o) (h4 : ah_sel tab o.1 = some F) (h5 : ah_rm q.2 8 = true) (h6 : F q.1 h = some res2) (hl : lv_has ls nL lv) (hP : va_P D vwCl (ah_w ad tc h) H) (hD : va_D A (ah_w ad tc h)) (hS : va_S A s.heap H locs)
    (kk : ∀ (H1 : Heap) (locs1 : List Loc), va_P D vwCl (ah_w ad tc res2.2) H1 → va_D A (ah_w ad tc res2.2) → va_S A s.heap H1 locs1 → W p l e R s m args below meth c H1 locs1 0 0 Q (F0 m (pc + 3) ls ((res2.1.map (ah_v ad)).toList ++ q.2.map (ah_v ad)))) : W p l e R s m args below meth c H locs 0 0 Q (F0 m pc ls (st.map (ah_v ad))) := by
  obtain ⟨pre, e1, e2, e3⟩ := ah_pop_i h1
  rw [List.append_nil] at e3
  have e4 := ah_q1_i h2
  have hpre : pre = r.2.reverse ++ [.ref r.1] := by
    have : pre.reverse = .ref r.1 :: r.2 := by rw [← e3]; exact e4
    have := congrArg List.reverse this
    rw [List.reverse_reverse] at this
    rw [this]; simp
  have hst : st.map (ah_v ad) = (r.2.map (ah_v ad)).reverse ++ .ref (ad r.1) :: q.2.map (ah_v ad) := by
    rw [e2, hpre]
    simp [ah_v]
  rw [hst]
  have hk : r.2.length + 1 = k := by rw [← e1, hpre]; simp
  exact ah_call (hT _ (ah_sel_i h4) h r.1 o.2 r.2 (q.2.map (ah_v ad)) res2 ls H locs (ah_ob_i h3) hk (by rw [← e4]; exact h6) hP hD hS hl.1 (ah_rm_i ad h5)) hS kk
theorem as_vI {k : Nat} {tab : List (Nat × ah_F)} (hT : ah_Tok p l e R s m args below meth c nL D tc ad A pc k tab) : ah_Snd (ah_G p l e R s m args below meth c nL D tc ad A res) res pc (ah_vI tab k (pc + 3)) := by
  intro J hJ lv st h hf ls H locs hl hP hD hS
  replace hf := Option.bind_eq_some_iff.mp hf
  obtain ⟨q, h1, hf⟩ := hf
  replace hf := Option.bind_eq_some_iff.mp hf
  obtain ⟨r, h2, hf⟩ := hf
  replace hf := Option.bind_eq_some_iff.mp hf
  obtain ⟨o, h3, hf⟩ := hf
  replace hf := Option.bind_eq_some_iff.mp hf
  obtain ⟨F, h4, hf⟩ := hf
  cases h5 : ah_rm q.2 8 with
  | false => rw [h5] at hf; cases hf
  | true =>
    rw [h5] at hf
    replace hf := Option.bind_eq_some_iff.mp hf
    obtain ⟨w, h6, hf⟩ := hf
    exact ah_vcall hT h1 h2 h3 h4 h5 (ah_rI_i h6) hl hP hD hS (fun H locs hP hD hS => hJ _ _ _ _ hf ls H locs hl hP hD hS)
theorem as_vL {k : Nat} {tab : List (Nat × ah_F)} (hT : ah_Tok p l e R s m args below meth c nL D tc ad A pc k tab) : ah_Snd (ah_G p l e R s m args below meth c nL D tc ad A res) res pc (ah_vL tab k (pc + 3)) := by
  intro J hJ lv st h hf ls H locs hl hP hD hS
  replace hf := Option.bind_eq_some_iff.mp hf
  obtain ⟨q, h1, hf⟩ := hf
  replace hf := Option.bind_eq_some_iff.mp hf
  obtain ⟨r, h2, hf⟩ := hf
  replace hf := Option.bind_eq_some_iff.mp hf
  obtain ⟨o, h3, hf⟩ := hf
  replace hf := Option.bind_eq_some_iff.mp hf
  obtain ⟨F, h4, hf⟩ := hf
  cases h5 : ah_rm q.2 8 with
  | false => rw [h5] at hf; cases hf
  | true =>
    rw [h5] at hf
    replace hf := Option.bind_eq_some_iff.mp hf
    obtain ⟨w, h6, hf⟩ := hf
    exact ah_vcall hT h1 h2 h3 h4 h5 (ah_rL_i h6) hl hP hD hS (fun H locs hP hD hS => hJ _ _ _ _ hf ls H locs hl hP hD hS)
theorem as_vV {k : Nat} {tab : List (Nat × ah_F)} (hT : ah_Tok p l e R s m args below meth c nL D tc ad A pc k tab) : ah_Snd (ah_G p l e R s m args below meth c nL D tc ad A res) res pc (ah_vV tab k (pc + 3)) := by
  intro J hJ lv st h hf ls H locs hl hP hD hS
  replace hf := Option.bind_eq_some_iff.mp hf
  obtain ⟨q, h1, hf⟩ := hf
  replace hf := Option.bind_eq_some_iff.mp hf
  obtain ⟨r, h2, hf⟩ := hf
  replace hf := Option.bind_eq_some_iff.mp hf
  obtain ⟨o, h3, hf⟩ := hf
  replace hf := Option.bind_eq_some_iff.mp hf
  obtain ⟨F, h4, hf⟩ := hf
  cases h5 : ah_rm q.2 8 with
  | false => rw [h5] at hf; cases hf
  | true =>
    rw [h5] at hf
    replace hf := Option.bind_eq_some_iff.mp hf
    obtain ⟨w, h6, hf⟩ := hf
    exact ah_vcall hT h1 h2 h3 h4 h5 (ah_rV_i h6) hl hP hD hS (fun H locs hP hD hS => hJ _ _ _ _ hf ls H locs hl hP hD hS)
theorem ah_scall (C : ah_C p s m args meth c cc nL own ret s0 D tc A) {y : MethodName} {cc2 : ByteArray} {maxL fr lo idx n : Nat} {ret2 : Option FieldType} {F : ah_F} (hM : ah_Met l s0 D tc ad A y cc2 maxL ret2 fr lo F) (hd : decode cc pc = .ok (.invokestatic idx, 3))
    (w1 : Cond.methodLink own idx y ∈ ah_TT) (w2 : Cond.static y ∈ ah_TT) (w4 : Cond.initialized y.cls ∈ ah_TT) (w5 : Cond.code y cc2 maxL ret2 ∈ ah_TT) (hdd : y.cls ≠ "java/lang/invoke/MethodHandle" ∧ y.cls ≠ "java/lang/invoke/VarHandle" ∧ (parseMethodDescriptor y.desc).map (fun d => d.parameters.length) = some n) (hR : fr + 1 ≤ R.frames ∧ 8 + (maxL + 11) + lo ≤ R.locals)
    {st : List Value} {h : ah_H} {q : List Value × List Value} {res2 : ah_R} {ls : Array Slot} {H : Heap} {locs : List Loc} {Q : State → Prop} {lv : List (Nat × Value)} (h1 : ah_pop n [] st = some q) (h5 : ah_rm q.2 8 = true) (h6 : F q.1 h = some res2) (hl : lv_has ls nL lv) (hP : va_P D vwCl (ah_w ad tc h) H) (hD : va_D A (ah_w ad tc h)) (hS : va_S A s.heap H locs)
    (kk : ∀ (H1 : Heap) (locs1 : List Loc), va_P D vwCl (ah_w ad tc res2.2) H1 → va_D A (ah_w ad tc res2.2) → va_S A s.heap H1 locs1 → W p l e R s m args below meth c H1 locs1 0 0 Q (F0 m (pc + 3) ls ((res2.1.map (ah_v ad)).toList ++ q.2.map (ah_v ad)))) : W p l e R s m args below meth c H locs 0 0 Q (F0 m pc ls (st.map (ah_v ad))) := by
  obtain ⟨pre, e1, e2, e3⟩ := ah_pop_i h1
  rw [List.append_nil] at e3
  have hst : st.map (ah_v ad) = (q.1.map (ah_v ad)).reverse ++ q.2.map (ah_v ad) := by
    rw [e2, e3]; simp
  rw [hst]
  have hG : GoodIn ah_TT (Cond.code y cc2 maxL ret2 :: ah_TT) := by
    intro w hw
    have hw2 : w ∈ ah_TT := by
      rcases List.mem_cons.mp hw with rfl | hw
      · exact w5
      · exact hw
    exact ⟨hw2, ah_TT_good hw2⟩
  have hlen : (q.1.map (ah_v ad)).length = n := by rw [List.length_map, e3, List.length_reverse, e1]
  refine ah_call (va_runS (Ts := ah_TT) (As := q.1.map (ah_v ad)) (rest := q.2.map (ah_v ad)) ⟨C.1, C.2.1, C.2.2.1, C.2.2.2.1, C.2.2.2.2.1⟩ (hM _ _ _ h6) ⟨callB_of n C.2.2.2.2.1 hG rfl rfl rfl (C.2.2.2.2.1 _ w4) (C.2.2.2.2.1 _ w1) hdd hR, C.2.2.2.2.1 _ w2⟩ ⟨ah_blind, ah_pre C hP hD hS⟩ rfl hlen hl.1 rfl (lv_room (ah_rm_i ad h5)) hd ⟨Nat.zero_le _, Nat.zero_le _⟩) hS kk
theorem as_sI (C : ah_C p s m args meth c cc nL own ret s0 D tc A) {y : MethodName} {cc2 : ByteArray} {maxL fr lo idx n : Nat} {ret2 : Option FieldType} {F : ah_F} (hM : ah_Met l s0 D tc ad A y cc2 maxL ret2 fr lo F) (hd : decode cc pc = .ok (.invokestatic idx, 3))
    (w1 : Cond.methodLink own idx y ∈ ah_TT) (w2 : Cond.static y ∈ ah_TT) (w4 : Cond.initialized y.cls ∈ ah_TT) (w5 : Cond.code y cc2 maxL ret2 ∈ ah_TT) (hdd : y.cls ≠ "java/lang/invoke/MethodHandle" ∧ y.cls ≠ "java/lang/invoke/VarHandle" ∧ (parseMethodDescriptor y.desc).map (fun d => d.parameters.length) = some n) (hR : fr + 1 ≤ R.frames ∧ 8 + (maxL + 11) + lo ≤ R.locals) : ah_Snd (ah_G p l e R s m args below meth c nL D tc ad A res) res pc (ah_sI F n (pc + 3)) := by
  intro J hJ lv st h hf ls H locs hl hP hD hS
  replace hf := Option.bind_eq_some_iff.mp hf
  obtain ⟨q, h1, hf⟩ := hf
  cases h5 : ah_rm q.2 8 with
  | false => rw [h5] at hf; cases hf
  | true =>
    rw [h5] at hf
    replace hf := Option.bind_eq_some_iff.mp hf
    obtain ⟨w, h6, hf⟩ := hf
    exact ah_scall C hM hd w1 w2 w4 w5 hdd hR h1 h5 (ah_rI_i h6) hl hP hD hS (fun H locs hP hD hS => hJ _ _ _ _ hf ls H locs hl hP hD hS)
theorem as_sL (C : ah_C p s m args meth c cc nL own ret s0 D tc A) {y : MethodName} {cc2 : ByteArray} {maxL fr lo idx n : Nat} {ret2 : Option FieldType} {F : ah_F} (hM : ah_Met l s0 D tc ad A y cc2 maxL ret2 fr lo F) (hd : decode cc pc = .ok (.invokestatic idx, 3))
    (w1 : Cond.methodLink own idx y ∈ ah_TT) (w2 : Cond.static y ∈ ah_TT) (w4 : Cond.initialized y.cls ∈ ah_TT) (w5 : Cond.code y cc2 maxL ret2 ∈ ah_TT) (hdd : y.cls ≠ "java/lang/invoke/MethodHandle" ∧ y.cls ≠ "java/lang/invoke/VarHandle" ∧ (parseMethodDescriptor y.desc).map (fun d => d.parameters.length) = some n) (hR : fr + 1 ≤ R.frames ∧ 8 + (maxL + 11) + lo ≤ R.locals) : ah_Snd (ah_G p l e R s m args below meth c nL D tc ad A res) res pc (ah_sL F n (pc + 3)) := by
  intro J hJ lv st h hf ls H locs hl hP hD hS
  replace hf := Option.bind_eq_some_iff.mp hf
  obtain ⟨q, h1, hf⟩ := hf
  cases h5 : ah_rm q.2 8 with
  | false => rw [h5] at hf; cases hf
  | true =>
    rw [h5] at hf
    replace hf := Option.bind_eq_some_iff.mp hf
    obtain ⟨w, h6, hf⟩ := hf
    exact ah_scall C hM hd w1 w2 w4 w5 hdd hR h1 h5 (ah_rL_i h6) hl hP hD hS (fun H locs hP hD hS => hJ _ _ _ _ hf ls H locs hl hP hD hS)
theorem as_sV (C : ah_C p s m args meth c cc nL own ret s0 D tc A) {y : MethodName} {cc2 : ByteArray} {maxL fr lo idx n : Nat} {ret2 : Option FieldType} {F : ah_F} (hM : ah_Met l s0 D tc ad A y cc2 maxL ret2 fr lo F) (hd : decode cc pc = .ok (.invokestatic idx, 3))
    (w1 : Cond.methodLink own idx y ∈ ah_TT) (w2 : Cond.static y ∈ ah_TT) (w4 : Cond.initialized y.cls ∈ ah_TT) (w5 : Cond.code y cc2 maxL ret2 ∈ ah_TT) (hdd : y.cls ≠ "java/lang/invoke/MethodHandle" ∧ y.cls ≠ "java/lang/invoke/VarHandle" ∧ (parseMethodDescriptor y.desc).map (fun d => d.parameters.length) = some n) (hR : fr + 1 ≤ R.frames ∧ 8 + (maxL + 11) + lo ≤ R.locals) : ah_Snd (ah_G p l e R s m args below meth c nL D tc ad A res) res pc (ah_sV F n (pc + 3)) := by
  intro J hJ lv st h hf ls H locs hl hP hD hS
  replace hf := Option.bind_eq_some_iff.mp hf
  obtain ⟨q, h1, hf⟩ := hf
  cases h5 : ah_rm q.2 8 with
  | false => rw [h5] at hf; cases hf
  | true =>
    rw [h5] at hf
    replace hf := Option.bind_eq_some_iff.mp hf
    obtain ⟨w, h6, hf⟩ := hf
    exact ah_scall C hM hd w1 w2 w4 w5 hdd hR h1 h5 (ah_rV_i h6) hl hP hD hS (fun H locs hP hD hS => hJ _ _ _ _ hf ls H locs hl hP hD hS)
end AHC
def ah_abs (n : Nat) : ah_S := fun J lv st h => (ah_p1 st).bind fun q => bif ah_rm q.2 8 then J n lv (.int (if 0 ≤ q.1 then q.1 else 0 - q.1) :: q.2) h else none
def ah_max (n : Nat) : ah_S := fun J lv st h => (ah_p2 st).bind fun q => bif ah_rm q.2.2 8 then J n lv (.int (if q.1 < q.2.1 then q.2.1 else q.1) :: q.2.2) h else none
def ah_min (n : Nat) : ah_S := fun J lv st h => (ah_p2 st).bind fun q => bif ah_rm q.2.2 8 then J n lv (.int (if q.2.1 < q.1 then q.2.1 else q.1) :: q.2.2) h else none
def ah_p5 : List Value → Option (Nat × Int32 × Nat × Int32 × Int32 × List Value) := fun st => match st with
  | .int n :: .int dp :: .ref a :: .int sp :: .ref a0 :: r => some (a0, sp, a, dp, n, r)
  | _ => none
theorem ah_p5_i {st : List Value} {q : Nat × Int32 × Nat × Int32 × Int32 × List Value} (h : ah_p5 st = some q) : st = .int q.2.2.2.2.1 :: .int q.2.2.2.1 :: .ref q.2.2.1 :: .int q.2.1 :: .ref q.1 :: q.2.2.2.2.2 := by
  unfold ah_p5 at h
  split at h
  · cases h; rfl
  · cases h
def ah_cp (h : ah_H) (a0 : Nat) (sp : Int32) (a : Nat) (dp n : Int32) : Option ah_H := (ah_ai h a0 0).bind fun w => (ah_ai h a 0).bind fun z =>
  if sp < 0 ∨ dp < 0 ∨ n < 0 ∨ w.1 < sp.toNatClampNeg + n.toNatClampNeg ∨ z.1 < dp.toNatClampNeg + n.toNatClampNeg then none else some (h.set a (.inl (0, z.1, .inl (va_cpy w.2 z.2 sp.toNatClampNeg dp.toNatClampNeg n.toNatClampNeg))))
def ah_acp (n : Nat) : ah_S := fun J lv st h => (ah_p5 st).bind fun q => (ah_cp h q.1 q.2.1 q.2.2.1 q.2.2.2.1 q.2.2.2.2.1).bind fun h2 => bif ah_rm q.2.2.2.2.2 8 then J n lv q.2.2.2.2.2 h2 else none
section AHM
variable {p : Program} {l : Launch} {e : Env} {R : Room} {s : State} {m : MethodId} {args : Array Value} {below : List Frame} {meth : Method} {c : Code} {cc : ByteArray} {nL : Nat} {own : String} {ret : Option FieldType} {s0 : State} {D : va_G} {tc : Nat → ClassId} {ad : Nat → Nat} {A : Nat → Prop} {res : ah_R} {pc : Nat}
theorem as_abs (C : ah_C p s m args meth c cc nL own ret s0 D tc A) {idx : Nat} (hd : decode cc pc = .ok (.invokestatic idx, 3)) (w1 : Cond.methodLink own idx Lib.Math.abs.name ∈ ah_TT) (w2 : Cond.static Lib.Math.abs.name ∈ ah_TT) (w3 : Cond.initialized "java/lang/Math" ∈ ah_TT) (w4 : Cond.code Lib.Math.abs.name Lib.Math.abs.code 1 (some .int) ∈ ah_TT) (hR : 1 ≤ R.frames ∧ 21 ≤ R.locals) : ah_Snd (ah_G p l e R s m args below meth c nL D tc ad A res) res pc (ah_abs (pc + 3)) := by
  intro J hJ lv st h hf ls H locs hl hP hD hS
  replace hf := Option.bind_eq_some_iff.mp hf
  obtain ⟨q, hq, hf⟩ := hf
  obtain rfl := ah_p1_i hq
  cases h5 : ah_rm q.2 8 with
  | false => rw [h5] at hf; cases hf
  | true =>
    rw [h5] at hf
    have hr := ah_rm_i ad h5
    exact va_mabs C.1 C.2.1 (C.2.2.1.trans hl.1.symm) C.2.2.2.1 (C.2.2.2.2.1 _ w1) (C.2.2.2.2.1 _ w2) (C.2.2.2.2.1 _ w3) (C.2.2.2.2.1 _ w4) hR.1 (by omega) (Nat.zero_le _) (Nat.zero_le _) hd (hJ _ _ _ _ hf ls H locs hl hP hD hS)
theorem as_max (C : ah_C p s m args meth c cc nL own ret s0 D tc A) {idx : Nat} (hd : decode cc pc = .ok (.invokestatic idx, 3)) (w1 : Cond.methodLink own idx Lib.Math.max.name ∈ ah_TT) (w2 : Cond.static Lib.Math.max.name ∈ ah_TT) (w3 : Cond.initialized "java/lang/Math" ∈ ah_TT) (w4 : Cond.code Lib.Math.max.name Lib.Math.max.code 2 (some .int) ∈ ah_TT) (hR : 1 ≤ R.frames ∧ 21 ≤ R.locals) : ah_Snd (ah_G p l e R s m args below meth c nL D tc ad A res) res pc (ah_max (pc + 3)) := by
  intro J hJ lv st h hf ls H locs hl hP hD hS
  replace hf := Option.bind_eq_some_iff.mp hf
  obtain ⟨q, hq, hf⟩ := hf
  obtain rfl := ah_p2_i hq
  cases h5 : ah_rm q.2.2 8 with
  | false => rw [h5] at hf; cases hf
  | true =>
    rw [h5] at hf
    have hr := ah_rm_i ad h5
    exact va_mmax C.1 C.2.1 (C.2.2.1.trans hl.1.symm) C.2.2.2.1 (C.2.2.2.2.1 _ w1) (C.2.2.2.2.1 _ w2) (C.2.2.2.2.1 _ w3) (C.2.2.2.2.1 _ w4) hR.1 (by omega) (Nat.zero_le _) (Nat.zero_le _) hd (hJ _ _ _ _ hf ls H locs hl hP hD hS)
theorem as_min (C : ah_C p s m args meth c cc nL own ret s0 D tc A) {idx : Nat} (hd : decode cc pc = .ok (.invokestatic idx, 3)) (w1 : Cond.methodLink own idx Lib.Math.min.name ∈ ah_TT) (w2 : Cond.static Lib.Math.min.name ∈ ah_TT) (w3 : Cond.initialized "java/lang/Math" ∈ ah_TT) (w4 : Cond.code Lib.Math.min.name Lib.Math.min.code 2 (some .int) ∈ ah_TT) (hR : 1 ≤ R.frames ∧ 21 ≤ R.locals) : ah_Snd (ah_G p l e R s m args below meth c nL D tc ad A res) res pc (ah_min (pc + 3)) := by
  intro J hJ lv st h hf ls H locs hl hP hD hS
  replace hf := Option.bind_eq_some_iff.mp hf
  obtain ⟨q, hq, hf⟩ := hf
  obtain rfl := ah_p2_i hq
  cases h5 : ah_rm q.2.2 8 with
  | false => rw [h5] at hf; cases hf
  | true =>
    rw [h5] at hf
    have hr := ah_rm_i ad h5
    exact va_mmin C.1 C.2.1 (C.2.2.1.trans hl.1.symm) C.2.2.2.1 (C.2.2.2.2.1 _ w1) (C.2.2.2.2.1 _ w2) (C.2.2.2.2.1 _ w3) (C.2.2.2.2.1 _ w4) hR.1 (by omega) (Nat.zero_le _) (Nat.zero_le _) hd (hJ _ _ _ _ hf ls H locs hl hP hD hS)
theorem as_acp (C : ah_C p s m args meth c cc nL own ret s0 D tc A) {idx : Nat} (hd : decode cc pc = .ok (.invokestatic idx, 3)) (w1 : Cond.methodLink own idx arraycopyName ∈ ah_TT) (w2 : Cond.native arraycopyName ∈ ah_TT) (w3 : Cond.static arraycopyName ∈ ah_TT) (w4 : Cond.initialized "java/lang/System" ∈ ah_TT) (hR : 1 ≤ R.frames ∧ 8 + (nativeFrameWords "java/lang/System" "arraycopy" 5 + 11) ≤ R.locals) : ah_Snd (ah_G p l e R s m args below meth c nL D tc ad A res) res pc (ah_acp (pc + 3)) := by
  intro J hJ lv st h hf ls H locs hl hP hD hS
  replace hf := Option.bind_eq_some_iff.mp hf
  obtain ⟨q, hq, hf⟩ := hf
  obtain rfl := ah_p5_i hq
  replace hf := Option.bind_eq_some_iff.mp hf
  obtain ⟨h2, hh, hf⟩ := hf
  obtain ⟨w, hw, hh⟩ := Option.bind_eq_some_iff.mp hh
  obtain ⟨z, hz, hh⟩ := Option.bind_eq_some_iff.mp hh
  by_cases hc : q.2.1 < 0 ∨ q.2.2.2.1 < 0 ∨ q.2.2.2.2.1 < 0 ∨ w.1 < q.2.1.toNatClampNeg + q.2.2.2.2.1.toNatClampNeg ∨ z.1 < q.2.2.2.1.toNatClampNeg + q.2.2.2.2.1.toNatClampNeg
  · rw [if_pos hc] at hh; cases hh
  · rw [if_neg hc] at hh
    obtain rfl := Option.some.inj hh
    simp only [not_or] at hc
    cases h5 : ah_rm q.2.2.2.2.2 8 with
    | false => rw [h5] at hf; cases hf
    | true =>
      rw [h5] at hf
      have hr := ah_rm_i ad h5
      refine va_copyi (ty := .int) C.1 C.2.1 (C.2.2.1.trans hl.1.symm) C.2.2.2.1 (C.2.2.2.2.1 _ w1) (C.2.2.2.2.1 _ w2) (C.2.2.2.2.1 _ w3) (C.2.2.2.2.1 _ w4) C.2.2.2.2.2.1 hP hD hS q.1 q.2.2.1 0 0 (ah_w_get (ah_ai_i hw)) (ah_w_get (ah_ai_i hz)) rfl rfl rfl hc.1 hc.2.1 hc.2.2.1 (by omega) (by omega) (fun _ _ => rfl) hR.1 (by omega) hd (fun H1 locs1 hP1 hD1 hS1 => ?_)
      have hs : (ah_w ad tc h).set q.2.2.1 (ad q.2.2.1, .inl (tc 0, z.1, .inl (va_cpy w.2 z.2 q.2.1.toNatClampNeg q.2.2.2.1.toNatClampNeg q.2.2.2.2.1.toNatClampNeg))) = ah_w ad tc (h.set q.2.2.1 (.inl (0, z.1, .inl (va_cpy w.2 z.2 q.2.1.toNatClampNeg q.2.2.2.1.toNatClampNeg q.2.2.2.2.1.toNatClampNeg)))) := ah_w_set (e := .inl (0, z.1, .inl (va_cpy w.2 z.2 q.2.1.toNatClampNeg q.2.2.2.1.toNatClampNeg q.2.2.2.2.1.toNatClampNeg)))
      rw [hs] at hP1 hD1
      exact hJ _ _ _ _ hf ls H1 locs1 hl hP1 hD1 hS1
end AHM
-- a method's contract
def ah_ent : Nat → List Value → ah_L
  | _, [] => []
  | i, v :: vs => (i, v) :: ah_ent (bif ah_two v then i + 2 else i + 1) vs
theorem ah_ent_i (ad : Nat → Nat) : ∀ (vs : List Value) (i : Nat), ah_lm ad (ah_ent i vs) = lv_args i (vs.map (ah_v ad))
  | [], _ => rfl
  | v :: vs, i => by
    unfold ah_ent
    have e : (if (ah_v ad v).category = 2 then i + 2 else i + 1) = (bif ah_two v then i + 2 else i + 1) := by
      rw [ah_cat]; cases v <;> rfl
    show (i, ah_v ad v) :: ah_lm ad (ah_ent _ vs) = (i, ah_v ad v) :: lv_args _ (vs.map (ah_v ad))
    rw [ah_ent_i ad vs, e]
theorem ah_sl (ad : Nat → Nat) (vs : List Value) : (lg_sl (vs.map (ah_v ad))).length = (lg_sl vs).length := by
  induction vs with
  | nil => rfl
  | cons v vs ih =>
    have e : lg_sl ((v :: vs).map (ah_v ad)) = (if (ah_v ad v).category = 2 then [Slot.val (ah_v ad v), .second] else [.val (ah_v ad v)]) ++ lg_sl (vs.map (ah_v ad)) := rfl
    have e2 : lg_sl (v :: vs) = (if v.category = 2 then [Slot.val v, .second] else [.val v]) ++ lg_sl vs := rfl
    rw [e, e2, List.length_append, List.length_append, ih, ah_cat]
    split <;> rfl
/-- a method's answer by its table: with f turns of its loops -/
def ah_fun (code : List (Nat × ah_S)) (nL f : Nat) : ah_F := fun as h => bif ah_rm as nL then ah_run code f 0 (ah_ent 0 as) [] h else none
theorem ah_rm_sl : ∀ {as : List Value} {n : Nat}, ah_rm as n = true → (lg_sl as).length ≤ n
  | [], _, _ => Nat.zero_le _
  | v :: r, 0, h => by cases v <;> cases h
  | v :: r, k + 1, h => by
    have e2 : lg_sl (v :: r) = (if v.category = 2 then [Slot.val v, .second] else [.val v]) ++ lg_sl r := rfl
    rw [e2, List.length_append]
    cases v with
    | long x =>
      cases k with
      | zero => cases h
      | succ j =>
        have := ah_rm_sl (as := r) (n := j) h
        simp only [Value.category, if_true, List.length_cons, List.length_nil]
        omega
    | double x =>
      cases k with
      | zero => cases h
      | succ j =>
        have := ah_rm_sl (as := r) (n := j) h
        simp only [Value.category, if_true, List.length_cons, List.length_nil]
        omega
    | int x => have := ah_rm_sl (as := r) (n := k) h; simp [Value.category]; omega
    | float x => have := ah_rm_sl (as := r) (n := k) h; simp [Value.category]; omega
    | null => have := ah_rm_sl (as := r) (n := k) h; simp [Value.category]; omega
    | ref x => have := ah_rm_sl (as := r) (n := k) h; simp [Value.category]; omega
    | retAddr x => have := ah_rm_sl (as := r) (n := k) h; simp [Value.category]; omega
theorem ah_met {l : Launch} {s0 : State} {D : va_G} {tc : Nat → ClassId} {ad : Nat → Nat} {A : Nat → Prop} {y : MethodName} {cc : ByteArray} {nL : Nat} {ret : Option FieldType} {fr lo : Nat} {code : List (Nat × ah_S)} {f : Nat} (hA : ∀ q, A q → s0.heap.size ≤ q) (hy : plainName y.cls = true)
    (hc : ∀ (p : Program) (e : Env) (s : State) (m : MethodId) (args : Array Value) (below : List Frame) (meth : Method) (c : Code) (res : ah_R), ah_C p s m args meth c cc nL y.cls ret s0 D tc A → ah_All (ah_G p l e (ah_room fr lo) s m args below meth c nL D tc ad A res) res code) : ah_Met l s0 D tc ad A y cc nL ret fr lo (ah_fun code nL f) := by
  intro as h res hF
  unfold ah_fun at hF
  cases h5 : ah_rm as nL with
  | false => rw [h5] at hF; cases hF
  | true =>
    rw [h5] at hF
    refine Met.ofW (cc := cc) (maxL := nL) (ret := ret) hy rfl ?_
    intro p e s m args below meth c s₁ B hml hv
    obtain ⟨rfl, hP, hK, hD, hE⟩ := hv
    have hts := atoms_spec (ws := Cond.code y cc nL ret :: ah_TT) B.pre
    have hown : s.vm.findClass y.cls = some m.cls := findClass_of_methodNamed B.named
    have C : ah_C p s m (as.map (ah_v ad)).toArray meth c cc nL y.cls ret s0 D tc A := ⟨B.exec, B.bytes, hml, hown, fun w hw => hts w (List.mem_cons_of_mem _ hw), hK, hE, hA, B.notSynchronized, B.returns⟩
    have hg := ah_run_ok (hc p e s m _ below meth c res C) f 0 (ah_ent 0 as) [] h hF
    have hl := lv_entry (as.map (ah_v ad)) (n := nL) (by rw [ah_sl]; exact ah_rm_sl h5)
    rw [lg_entry_eq]
    generalize (lg_sl (as.map (ah_v ad)) ++ List.replicate (nL - (lg_sl (as.map (ah_v ad))).length) Slot.unset).toArray = ls at hl ⊢
    rw [← ah_ent_i] at hl
    exact hg ls s.heap [] hl hP hD va_S.rf
