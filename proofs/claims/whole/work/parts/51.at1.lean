/-! THE MACHINE THAT MAKES CELLS: a new cell comes last; the addresses of the others stay -/
def at_ok (n : Nat) : Value → Bool := fun v => match v with
  | .ref k => Nat.blt k n || Nat.ble 1000 k
  | _ => true
def at_oko (n : Nat) : Option Nat → Bool := fun v => match v with
  | some k => Nat.blt k n
  | none => true
def at_oke (n : Nat) : ah_E → Bool := fun e => match e with
  | .inr q => q.2.all (at_ok n)
  | .inl q => match q.2.2 with
    | .inl _ => true
    | .inr f => (List.range q.2.1).all (fun j => at_oko n (f j))
def at_okh (h : ah_H) : Bool := h.all (at_oke h.length) && Nat.blt h.length 900
def at_okl (n : Nat) (lv : ah_L) : Bool := lv.all (fun q => at_ok n q.2)
def at_chk (h : ah_H) (lv : ah_L) (st : List Value) : Bool := at_okh h && (at_okl h.length lv && st.all (at_ok h.length))
def at_ag (n : Nat) (ad ad2 : Nat → Nat) : Prop := ∀ k, k < n ∨ 1000 ≤ k → ad2 k = ad k
theorem at_ok_v {n : Nat} {ad ad2 : Nat → Nat} (ha : at_ag n ad ad2) {v : Value} (h : at_ok n v = true) : ah_v ad2 v = ah_v ad v := by
  cases v with
  | ref k =>
    show Value.ref (ad2 k) = Value.ref (ad k)
    have h : (Nat.blt k n || Nat.ble 1000 k) = true := h
    rw [Bool.or_eq_true] at h
    rw [ha k (h.elim (fun h => Or.inl (Nat.le_of_ble_eq_true h)) (fun h => Or.inr (Nat.le_of_ble_eq_true h)))]
  | _ => rfl
theorem at_ok_st {n : Nat} {ad ad2 : Nat → Nat} (ha : at_ag n ad ad2) {st : List Value} (h : st.all (at_ok n) = true) : st.map (ah_v ad2) = st.map (ah_v ad) :=
  List.map_congr_left (fun v hv => at_ok_v ha (List.all_eq_true.mp h v hv))
theorem at_ok_lm {n : Nat} {ad ad2 : Nat → Nat} (ha : at_ag n ad ad2) {lv : ah_L} (h : at_okl n lv = true) : ah_lm ad2 lv = ah_lm ad lv :=
  List.map_congr_left (fun q hq => by rw [at_ok_v ha (List.all_eq_true.mp h q hq)])
theorem ah_w_inv {ad : Nat → Nat} {tc : Nat → ClassId} {h : ah_H} {k : Nat} {q : Nat × va_E} (hk : (ah_w ad tc h)[k]? = some q) : ∃ e, h[k]? = some e ∧ q = (ad k, ah_e ad tc e) := by
  unfold ah_w at hk
  rw [List.getElem?_map, List.getElem?_zipIdx] at hk
  cases he : h[k]? with
  | none => rw [he] at hk; cases hk
  | some e =>
    rw [he] at hk
    have hk := Option.some.inj hk
    refine ⟨e, rfl, ?_⟩
    rw [← hk]
    simp
theorem arrV_congr {cI : ClassId} {N : Nat} {f g : Nat → Value} (h : ∀ j, j < N → f j = g j) : arrV cI N f = arrV cI N g := by
  unfold arrV
  have : (fun j : Fin N => f j.val) = (fun j : Fin N => g j.val) := funext fun j => h j.val j.isLt
  rw [this]
/-- where the references of a heap are old, its world is the same under more addresses -/
theorem at_wP {D : va_G} {cl : List vw_C} {ad ad2 : Nat → Nat} {tc : Nat → ClassId} {h : ah_H} {H : Heap} {n : Nat} (hn : h.length ≤ n) (hh : h.all (at_oke n) = true) (ha : at_ag n ad ad2) (hP : va_P D cl (ah_w ad tc h) H) : va_P D cl (ah_w ad2 tc h) H := by
  intro k q hk
  obtain ⟨e, he, rfl⟩ := ah_w_inv hk
  have hlt : k < h.length := (List.getElem?_eq_some_iff.mp he).1
  have h0 := hP k _ (ah_w_get he)
  have hke : at_oke n e = true := List.all_eq_true.mp hh e (List.mem_of_getElem? he)
  rw [ha k (Or.inl (by omega))]
  cases e with
  | inr q =>
    have e2 : ah_e ad2 tc (.inr q) = ah_e ad tc (.inr q) := by
      show (Sum.inr (q.1, q.2.map (ah_v ad2)) : va_E) = .inr (q.1, q.2.map (ah_v ad))
      rw [at_ok_st ha hke]
    rw [e2]
    exact h0
  | inl q =>
    obtain ⟨t, N, b⟩ := q
    cases b with
    | inl f => exact h0
    | inr f =>
      have hke : (List.range N).all (fun j => at_oko n (f j)) = true := hke
      have h0 : H[ad k]? = some (arrV (tc t) N (fun j => va_rf ((f j).map ad))) := h0
      show H[ad k]? = some (arrV (tc t) N (fun j => va_rf ((f j).map ad2)))
      rw [h0]
      refine congrArg some (arrV_congr (fun j hj => ?_))
      have h1 : at_oko n (f j) = true := List.all_eq_true.mp hke j (List.mem_range.mpr hj)
      cases hf : f j with
      | none => rfl
      | some x =>
        rw [hf] at h1
        show va_rf (some (ad x)) = va_rf (some (ad2 x))
        rw [ha x (Or.inl (Nat.le_of_ble_eq_true h1))]
theorem at_wD {A : Nat → Prop} {ad ad2 : Nat → Nat} {tc : Nat → ClassId} {h : ah_H} {n : Nat} (hn : h.length ≤ n) (ha : at_ag n ad ad2) (hD : va_D A (ah_w ad tc h)) : va_D A (ah_w ad2 tc h) := by
  refine ⟨fun i j p q hi hj e => ?_, fun k q hk => ?_⟩
  · obtain ⟨e1, h1, rfl⟩ := ah_w_inv hi
    obtain ⟨e2, h2, rfl⟩ := ah_w_inv hj
    have l1 : i < h.length := (List.getElem?_eq_some_iff.mp h1).1
    have l2 : j < h.length := (List.getElem?_eq_some_iff.mp h2).1
    have e : ad2 i = ad2 j := e
    rw [ha i (Or.inl (by omega)), ha j (Or.inl (by omega))] at e
    exact hD.1 i j _ _ (ah_w_get h1) (ah_w_get h2) e
  · obtain ⟨e1, h1, rfl⟩ := ah_w_inv hk
    have l1 : k < h.length := (List.getElem?_eq_some_iff.mp h1).1
    show A (ad2 k)
    rw [ha k (Or.inl (by omega))]
    exact hD.2 k _ (ah_w_get h1)
theorem ah_w_app (ad : Nat → Nat) (tc : Nat → ClassId) (h : ah_H) (e : ah_E) : ah_w ad tc (h ++ [e]) = ah_w ad tc h ++ [(ad h.length, ah_e ad tc e)] := by
  unfold ah_w
  rw [List.zipIdx_append, List.map_append]
  simp
/-- a new cell at address q -/
theorem at_push {D : va_G} {cl : List vw_C} {A : Nat → Prop} {ad ad0 : Nat → Nat} {tc : Nat → ClassId} {h : ah_H} {H1 : Heap} {e : ah_E} {x : va_E} {q n0 : Nat} (hok : at_okh h = true) (hn : n0 ≤ h.length) (hag : at_ag n0 ad0 ad) (hx : ∀ ad2 : Nat → Nat, ah_e ad2 tc e = x) (hP : va_P D cl (ah_w ad tc h ++ [(q, x)]) H1) (hD : va_D A (ah_w ad tc h ++ [(q, x)])) : ∃ ad2, at_ag h.length ad ad2 ∧ at_ag n0 ad0 ad2 ∧ ad2 h.length = q ∧ va_P D cl (ah_w ad2 tc (h ++ [e])) H1 ∧ va_D A (ah_w ad2 tc (h ++ [e])) := by
  unfold at_okh at hok
  rw [Bool.and_eq_true] at hok
  have h9 : h.length < 900 := Nat.le_of_ble_eq_true hok.2
  have hlen : (ah_w ad tc h).length = h.length := by unfold ah_w; simp
  have ag : at_ag h.length ad (fun k => if k = h.length then q else ad k) := fun k hk => if_neg (by omega)
  have hP1 : va_P D cl (ah_w ad tc h) H1 := fun k y hk => hP k y (by
    rw [List.getElem?_append_left (List.getElem?_eq_some_iff.mp hk).1]; exact hk)
  have hD1 : va_D A (ah_w ad tc h) := ⟨fun i j y y2 hi hj e => hD.1 i j y y2 (by
    rw [List.getElem?_append_left (List.getElem?_eq_some_iff.mp hi).1]; exact hi) (by
    rw [List.getElem?_append_left (List.getElem?_eq_some_iff.mp hj).1]; exact hj) e, fun k y hk => hD.2 k y (by
    rw [List.getElem?_append_left (List.getElem?_eq_some_iff.mp hk).1]; exact hk)⟩
  have hPq : va_at D cl (q, x) H1 := hP h.length (q, x) (by
    rw [List.getElem?_append_right (by omega), hlen, Nat.sub_self]; rfl)
  have hAq : A q := hD.2 h.length (q, x) (by
    rw [List.getElem?_append_right (by omega), hlen, Nat.sub_self]; rfl)
  have e0 : (fun k => if k = h.length then q else ad k) h.length = q := if_pos rfl
  have hw : ah_w (fun k => if k = h.length then q else ad k) tc (h ++ [e]) = ah_w (fun k => if k = h.length then q else ad k) tc h ++ [(q, x)] := by
    rw [ah_w_app, hx]
    exact congrArg (fun z => ah_w (fun k => if k = h.length then q else ad k) tc h ++ [(z, x)]) e0
  refine ⟨fun k => if k = h.length then q else ad k, ag, fun k hk => by
    rw [ag k (by omega)]; exact hag k hk, e0, ?_, ?_⟩
  · rw [hw]
    exact (at_wP (Nat.le_refl _) hok.1 ag hP1).app (fun k y hk => by
      cases k with
      | zero =>
        have hk : (q, x) = y := Option.some.inj hk
        rw [← hk]
        exact hPq
      | succ k => cases hk)
  · rw [hw]
    have hD2 := at_wD (tc := tc) (Nat.le_refl _) ag hD1
    have hl2 : (ah_w (fun k => if k = h.length then q else ad k) tc h).length = h.length := by unfold ah_w; simp
    have key : ∀ (i : Nat) (y : Nat × va_E), (ah_w (fun k => if k = h.length then q else ad k) tc h ++ [(q, x)])[i]? = some y → (i < h.length ∧ ∃ y2, (ah_w ad tc h)[i]? = some y2 ∧ y2.1 = y.1) ∨ (i = h.length ∧ y = (q, x)) := by
      intro i y hi
      by_cases c : i < h.length
      · left
        rw [List.getElem?_append_left (by omega)] at hi
        obtain ⟨e1, h1, rfl⟩ := ah_w_inv hi
        refine ⟨c, _, ah_w_get h1, ?_⟩
        show ad i = if i = h.length then q else ad i
        rw [if_neg (by omega)]
      · right
        rw [List.getElem?_append_right (by omega), hl2] at hi
        cases hz : i - h.length with
        | zero =>
          rw [hz] at hi
          exact ⟨by omega, (Option.some.inj hi).symm⟩
        | succ j => rw [hz] at hi; cases hi
    have up : ∀ (i : Nat) (y : Nat × va_E), (ah_w ad tc h)[i]? = some y → (ah_w ad tc h ++ [(q, x)])[i]? = some y := fun i y hi => by
      rw [List.getElem?_append_left (List.getElem?_eq_some_iff.mp hi).1]; exact hi
    have last : (ah_w ad tc h ++ [(q, x)])[h.length]? = some (q, x) := by
      rw [List.getElem?_append_right (by omega), hlen, Nat.sub_self]; rfl
    refine ⟨fun i j y y2 hi hj e => ?_, fun k y hk => ?_⟩
    · rcases key i y hi with ⟨i1, z1, i2, i3⟩ | ⟨i1, i2⟩
      · rcases key j y2 hj with ⟨j1, z2, j2, j3⟩ | ⟨j1, j2⟩
        · exact hD.1 i j z1 z2 (up i z1 i2) (up j z2 j2) (by rw [i3, j3]; exact e)
        · rw [j1]
          exact hD.1 i h.length z1 (q, x) (up i z1 i2) last (by rw [i3, e, j2])
      · rcases key j y2 hj with ⟨j1, z2, j2, j3⟩ | ⟨j1, j2⟩
        · rw [i1]
          exact hD.1 h.length j (q, x) z2 last (up j z2 j2) (by rw [j3, ← e, i2])
        · omega
    · rcases key k y hk with ⟨i1, z1, i2, i3⟩ | ⟨i1, i2⟩
      · rw [← i3]
        exact hD.2 k z1 (up k z1 i2)
      · rw [i2]
        exact hAq
def at_room (fr lo mc : Nat) : Room := { frames := fr, cells := mc, slots := 40 * mc, locals := lo }
def at_Q (D : va_G) (tc : Nat → ClassId) (ad0 : Nat → Nat) (A : Nat → Prop) (n0 : Nat) (res : ah_R) : Array Value → State → Outcome → State → Prop := fun _ st o t => ∃ ad, at_ag n0 ad0 ad ∧ o = .returned (res.1.map (ah_v ad)) ∧ va_P D vwCl (ah_w ad tc res.2) t.heap ∧ va_D A (ah_w ad tc res.2) ∧ va_F A st t
def at_G (p : Program) (l : Launch) (e : Env) (R : Room) (s : State) (m : MethodId) (args : Array Value) (below : List Frame) (meth : Method) (c : Code) (nL : Nat) (D : va_G) (tc : Nat → ClassId) (ad0 : Nat → Nat) (A : Nat → Prop) (n0 mc : Nat) (res : ah_R) : Nat → ah_L → List Value → ah_H → Prop := fun pc lv st h =>
  ∀ (ad : Nat → Nat) (cn : Nat) (ls : Array Slot) (H : Heap) (locs : List Loc), at_ag n0 ad0 ad → lv_has ls nL (ah_lm ad lv) → va_P D vwCl (ah_w ad tc h) H → va_D A (ah_w ad tc h) → va_S A s.heap H locs → cn + n0 = h.length → W p l e R s m args below meth c H locs cn (40 * cn) (MQ below (at_Q D tc ad0 A n0 res) args s mc (40 * mc) A) (F0 m pc ls (st.map (ah_v ad)))
section ATS
variable {p : Program} {l : Launch} {e : Env} {R : Room} {s : State} {m : MethodId} {args : Array Value} {below : List Frame} {meth : Method} {c : Code} {cc : ByteArray} {nL : Nat} {own : String} {ret : Option FieldType} {s0 : State} {D : va_G} {tc : Nat → ClassId} {ad0 : Nat → Nat} {A : Nat → Prop} {n0 mc : Nat} {res : ah_R} {pc : Nat}
theorem at_lim {f : ah_S} {n : Nat} {ks : List Nat} (h : ah_Snd (at_G p l e R s m args below meth c nL D tc ad0 A n0 mc res) res pc f) : ah_Snd (at_G p l e R s m args below meth c nL D tc ad0 A n0 mc res) res pc (ah_lim n ks f) := by
  intro J hJ lv st h0 hf
  refine h _ (fun p lv st h hp => ?_) lv st h0 hf
  cases hb : Nat.beq p n with
  | true =>
    rw [hb] at hp
    have := hJ _ _ _ _ hp
    intro ad cn ls H locs ha hl hP hD hS hcn
    exact this ad cn ls H locs ha (ah_lmem (fun q hq => ah_res_mem hq) hl) hP hD hS hcn
  | false =>
    rw [hb] at hp
    exact hJ _ _ _ _ hp
theorem at_iconst (C : ah_C p s m args meth c cc nL own ret s0 D tc A) {k : Int} {v : Int32} (hd : decode cc pc = .ok (.iconst k, 1)) (hv : Int32.ofInt k = v) : ah_Snd (at_G p l e R s m args below meth c nL D tc ad0 A n0 mc res) res pc (ah_push (.int v) (pc + 1)) := by
  intro J hJ lv st h hf ad cn ls H locs ha hl hP hD hS hcn
  exact lv_iconst C.1 C.2.1 hd hv (hJ _ _ _ _ hf ad cn ls H locs ha hl hP hD hS hcn)
theorem at_bipush (C : ah_C p s m args meth c cc nL own ret s0 D tc A) {k : Int} {v : Int32} (hd : decode cc pc = .ok (.bipush k, 2)) (hv : (Int8.ofInt k).toInt32 = v) : ah_Snd (at_G p l e R s m args below meth c nL D tc ad0 A n0 mc res) res pc (ah_push (.int v) (pc + 2)) := by
  intro J hJ lv st h hf ad cn ls H locs ha hl hP hD hS hcn
  exact lv_bipush C.1 C.2.1 hd hv (hJ _ _ _ _ hf ad cn ls H locs ha hl hP hD hS hcn)
theorem at_iload_n (C : ah_C p s m args meth c cc nL own ret s0 D tc A) {k : Fin 4} {i : Nat} (hd : decode cc pc = .ok (.iload_n k, 1)) (hi : (k : Nat) = i) : ah_Snd (at_G p l e R s m args below meth c nL D tc ad0 A n0 mc res) res pc (ah_ild i (pc + 1)) := by
  intro J hJ lv st h hf ad cn ls H locs ha hl hP hD hS hcn
  replace hf := Option.bind_eq_some_iff.mp hf
  obtain ⟨x, hx, hf⟩ := hf
  exact lv_iload_n C.1 C.2.1 hd hi (ah_loc hl (ah_aI_i hx)) (hJ _ _ _ _ hf ad cn ls H locs ha hl hP hD hS hcn)
theorem at_iload (C : ah_C p s m args meth c cc nL own ret s0 D tc A) {i : Nat} (hd : decode cc pc = .ok (.iload i, 2)) : ah_Snd (at_G p l e R s m args below meth c nL D tc ad0 A n0 mc res) res pc (ah_ild i (pc + 2)) := by
  intro J hJ lv st h hf ad cn ls H locs ha hl hP hD hS hcn
  replace hf := Option.bind_eq_some_iff.mp hf
  obtain ⟨x, hx, hf⟩ := hf
  exact lv_iload C.1 C.2.1 hd (ah_loc hl (ah_aI_i hx)) (hJ _ _ _ _ hf ad cn ls H locs ha hl hP hD hS hcn)
theorem at_aload_n (C : ah_C p s m args meth c cc nL own ret s0 D tc A) {k : Fin 4} {i : Nat} (hd : decode cc pc = .ok (.aload_n k, 1)) (hi : (k : Nat) = i) : ah_Snd (at_G p l e R s m args below meth c nL D tc ad0 A n0 mc res) res pc (ah_ald i (pc + 1)) := by
  intro J hJ lv st h hf ad cn ls H locs ha hl hP hD hS hcn
  replace hf := Option.bind_eq_some_iff.mp hf
  obtain ⟨x, hx, hf⟩ := hf
  exact lv_aload_n C.1 C.2.1 hd hi (ah_loc hl (ah_aR_i hx)) (hJ _ _ _ _ hf ad cn ls H locs ha hl hP hD hS hcn)
theorem at_istore_n (C : ah_C p s m args meth c cc nL own ret s0 D tc A) {k : Fin 4} {i : Nat} (hd : decode cc pc = .ok (.istore_n k, 1)) (hi : (k : Nat) = i) (hn : i < nL) : ah_Snd (at_G p l e R s m args below meth c nL D tc ad0 A n0 mc res) res pc (ah_ist i (pc + 1)) := by
  intro J hJ lv st h hf ad cn ls H locs ha hl hP hD hS hcn
  replace hf := Option.bind_eq_some_iff.mp hf
  obtain ⟨q, hq, hf⟩ := hf
  obtain rfl := ah_p1_i hq
  exact lv_istore_n C.1 C.2.1 hd hi hl hn rfl (fun ls hl => hJ _ _ _ _ hf ad cn ls H locs ha (ah_st1 (v := .int q.1) hl) hP hD hS hcn)
theorem at_istore (C : ah_C p s m args meth c cc nL own ret s0 D tc A) {i : Nat} (hd : decode cc pc = .ok (.istore i, 2)) (hn : i < nL) : ah_Snd (at_G p l e R s m args below meth c nL D tc ad0 A n0 mc res) res pc (ah_ist i (pc + 2)) := by
  intro J hJ lv st h hf ad cn ls H locs ha hl hP hD hS hcn
  replace hf := Option.bind_eq_some_iff.mp hf
  obtain ⟨q, hq, hf⟩ := hf
  obtain rfl := ah_p1_i hq
  exact lv_istore C.1 C.2.1 hd hl hn rfl (fun ls hl => hJ _ _ _ _ hf ad cn ls H locs ha (ah_st1 (v := .int q.1) hl) hP hD hS hcn)
theorem at_iinc (C : ah_C p s m args meth c cc nL own ret s0 D tc A) {i : Nat} {k : Int} {d : Int32} (hd : decode cc pc = .ok (.iinc i k, 3)) (hv : Int32.ofInt k = d) (hn : i < nL) : ah_Snd (at_G p l e R s m args below meth c nL D tc ad0 A n0 mc res) res pc (ah_inc i d (pc + 3)) := by
  intro J hJ lv st h hf ad cn ls H locs ha hl hP hD hS hcn
  replace hf := Option.bind_eq_some_iff.mp hf
  obtain ⟨x, hx, hf⟩ := hf
  have hm : (i, Value.int x) ∈ ah_lm ad lv := List.mem_map.mpr ⟨(i, .int x), ah_get_mem (ah_aI_i hx), rfl⟩
  obtain ⟨k0, hk0⟩ := List.getElem?_of_mem hm
  exact lv_iinc (v := x + d) C.1 C.2.1 hd hl hk0 (by rw [hv]) hn rfl (fun ls hl => hJ _ _ _ _ hf ad cn ls H locs ha (ah_st1 (v := .int (x + d)) hl) hP hD hS hcn)
theorem at_iadd (C : ah_C p s m args meth c cc nL own ret s0 D tc A) (hd : decode cc pc = .ok (.iadd, 1)) : ah_Snd (at_G p l e R s m args below meth c nL D tc ad0 A n0 mc res) res pc (ah_bin (fun x y => x + y) (pc + 1)) := by
  intro J hJ lv st h hf ad cn ls H locs ha hl hP hD hS hcn
  replace hf := Option.bind_eq_some_iff.mp hf
  obtain ⟨q, hq, hf⟩ := hf
  obtain rfl := ah_p2_i hq
  exact lv_iadd C.1 C.2.1 hd (hJ _ _ _ _ hf ad cn ls H locs ha hl hP hD hS hcn)
theorem at_isub (C : ah_C p s m args meth c cc nL own ret s0 D tc A) (hd : decode cc pc = .ok (.isub, 1)) : ah_Snd (at_G p l e R s m args below meth c nL D tc ad0 A n0 mc res) res pc (ah_bin (fun x y => x - y) (pc + 1)) := by
  intro J hJ lv st h hf ad cn ls H locs ha hl hP hD hS hcn
  replace hf := Option.bind_eq_some_iff.mp hf
  obtain ⟨q, hq, hf⟩ := hf
  obtain rfl := ah_p2_i hq
  exact lv_isub C.1 C.2.1 hd (hJ _ _ _ _ hf ad cn ls H locs ha hl hP hD hS hcn)
theorem at_imul (C : ah_C p s m args meth c cc nL own ret s0 D tc A) (hd : decode cc pc = .ok (.imul, 1)) : ah_Snd (at_G p l e R s m args below meth c nL D tc ad0 A n0 mc res) res pc (ah_bin (fun x y => x * y) (pc + 1)) := by
  intro J hJ lv st h hf ad cn ls H locs ha hl hP hD hS hcn
  replace hf := Option.bind_eq_some_iff.mp hf
  obtain ⟨q, hq, hf⟩ := hf
  obtain rfl := ah_p2_i hq
  exact lv_imul C.1 C.2.1 hd (hJ _ _ _ _ hf ad cn ls H locs ha hl hP hD hS hcn)
theorem at_i2c (C : ah_C p s m args meth c cc nL own ret s0 D tc A) (hd : decode cc pc = .ok (.i2c, 1)) : ah_Snd (at_G p l e R s m args below meth c nL D tc ad0 A n0 mc res) res pc (ah_un (fun x => (x.toUInt32 % 65536).toInt32) (pc + 1)) := by
  intro J hJ lv st h hf ad cn ls H locs ha hl hP hD hS hcn
  replace hf := Option.bind_eq_some_iff.mp hf
  obtain ⟨q, hq, hf⟩ := hf
  obtain rfl := ah_p1_i hq
  exact lv_i2c C.1 C.2.1 hd rfl (hJ _ _ _ _ hf ad cn ls H locs ha hl hP hD hS hcn)
theorem at_dupR (C : ah_C p s m args meth c cc nL own ret s0 D tc A) (hd : decode cc pc = .ok (.dup, 1)) : ah_Snd (at_G p l e R s m args below meth c nL D tc ad0 A n0 mc res) res pc (ah_dupR (pc + 1)) := by
  intro J hJ lv st h hf ad cn ls H locs ha hl hP hD hS hcn
  replace hf := Option.bind_eq_some_iff.mp hf
  obtain ⟨q, hq, hf⟩ := hf
  obtain rfl := ah_q1_i hq
  exact lv_dup C.1 C.2.1 hd rfl (hJ _ _ _ _ hf ad cn ls H locs ha hl hP hD hS hcn)
theorem at_goto (C : ah_C p s m args meth c cc nL own ret s0 D tc A) {off : Int} {t : Nat} (hd : decode cc pc = .ok (.goto off, 3)) (ht : (pc : Int) + off = (t : Int)) : ah_Snd (at_G p l e R s m args below meth c nL D tc ad0 A n0 mc res) res pc (ah_goto t) := by
  intro J hJ lv st h hf ad cn ls H locs ha hl hP hD hS hcn
  exact lv_goto C.1 C.2.1 hd ht (hJ _ _ _ _ hf ad cn ls H locs ha hl hP hD hS hcn)
theorem at_icmp_ge (C : ah_C p s m args meth c cc nL own ret s0 D tc A) {off : Int} {t : Nat} (hd : decode cc pc = .ok (.if_icmp .ge off, 3)) (ht : (pc : Int) + off = (t : Int)) : ah_Snd (at_G p l e R s m args below meth c nL D tc ad0 A n0 mc res) res pc (ah_clt (pc + 3) t) := by
  intro J hJ lv st h hf ad cn ls H locs ha hl hP hD hS hcn
  replace hf := Option.bind_eq_some_iff.mp hf
  obtain ⟨q, hq, hf⟩ := hf
  obtain rfl := ah_p2_i hq
  refine lv_icmp_ge C.1 C.2.1 hd ht (fun hc => ?_) (fun hc => ?_)
  · rw [if_neg (Int32.not_lt.mpr hc)] at hf
    exact hJ _ _ _ _ hf ad cn ls H locs ha hl hP hD hS hcn
  · rw [if_pos (Int32.not_le.mp hc)] at hf
    exact hJ _ _ _ _ hf ad cn ls H locs ha hl hP hD hS hcn
theorem at_gfr (C : ah_C p s m args meth c cc nL own ret s0 D tc A) {index k : Nat} {cs : List Nat} (hd : decode cc pc = .ok (.getfield index, 3)) (hF : ah_Fg own index cs k) : ah_Snd (at_G p l e R s m args below meth c nL D tc ad0 A n0 mc res) res pc (ah_gfr cs k (pc + 3)) := by
  intro J hJ lv st h hf ad cn ls H locs ha hl hP hD hS hcn
  replace hf := Option.bind_eq_some_iff.mp hf
  obtain ⟨q, hq, hf⟩ := hf
  obtain rfl := ah_q1_i hq
  replace hf := Option.bind_eq_some_iff.mp hf
  obtain ⟨x, hx, hf⟩ := hf
  obtain ⟨ci, fs, hob, hin, hfk⟩ := ah_fv_i (ah_aR_i hx)
  obtain ⟨C2, T, N, ref, h1, h2, h3, h4, h5⟩ := hF ci (ah_in_mem hin)
  exact va_get (v := .ref (ad x)) C.1 C.2.1 C.2.2.2.2.1 h2 C.2.2.2.1 C.2.2.2.2.2.1 hP q.1 (ah_w_get hob) h1 k h3 (C.2.2.2.2.1 _ h4) (ah_same C.2.2.2.2.1 h5) (by rw [List.getElem?_map, hfk]; rfl) hd (hJ _ _ _ _ hf ad cn ls H locs ha hl hP hD hS hcn)
theorem at_gfi (C : ah_C p s m args meth c cc nL own ret s0 D tc A) {index k : Nat} {cs : List Nat} (hd : decode cc pc = .ok (.getfield index, 3)) (hF : ah_Fg own index cs k) : ah_Snd (at_G p l e R s m args below meth c nL D tc ad0 A n0 mc res) res pc (ah_gfi cs k (pc + 3)) := by
  intro J hJ lv st h hf ad cn ls H locs ha hl hP hD hS hcn
  replace hf := Option.bind_eq_some_iff.mp hf
  obtain ⟨q, hq, hf⟩ := hf
  obtain rfl := ah_q1_i hq
  replace hf := Option.bind_eq_some_iff.mp hf
  obtain ⟨x, hx, hf⟩ := hf
  obtain ⟨ci, fs, hob, hin, hfk⟩ := ah_fv_i (ah_aI_i hx)
  obtain ⟨C2, T, N, ref, h1, h2, h3, h4, h5⟩ := hF ci (ah_in_mem hin)
  exact va_get (v := .int x) C.1 C.2.1 C.2.2.2.2.1 h2 C.2.2.2.1 C.2.2.2.2.2.1 hP q.1 (ah_w_get hob) h1 k h3 (C.2.2.2.2.1 _ h4) (ah_same C.2.2.2.2.1 h5) (by rw [List.getElem?_map, hfk]; rfl) hd (hJ _ _ _ _ hf ad cn ls H locs ha hl hP hD hS hcn)
theorem at_iald (C : ah_C p s m args meth c cc nL own ret s0 D tc A) (hd : decode cc pc = .ok (.iaload, 1)) : ah_Snd (at_G p l e R s m args below meth c nL D tc ad0 A n0 mc res) res pc (ah_iald 0 (pc + 1)) := by
  intro J hJ lv st h hf ad cn ls H locs ha hl hP hD hS hcn
  replace hf := Option.bind_eq_some_iff.mp hf
  obtain ⟨q, hq, hf⟩ := hf
  obtain rfl := ah_qi_i hq
  replace hf := Option.bind_eq_some_iff.mp hf
  obtain ⟨x, hx, hf⟩ := hf
  obtain ⟨w, hw, hx⟩ := Option.bind_eq_some_iff.mp hx
  obtain ⟨hin, rfl⟩ := ah_rd_i hx
  exact va_iald C.1 C.2.1 C.2.2.2.2.2.1 hP q.1 0 (ah_w_get (ah_ai_i hw)) rfl hin hd (hJ _ _ _ _ hf ad cn ls H locs ha hl hP hD hS hcn)
theorem at_tsw (C : ah_C p s m args meth c cc nL own ret s0 D tc A) {dflt lo hi : Int} {offs : Array Int} {len d : Nat} {ks : List (Int32 × Nat)} (hd : decode cc pc = .ok (.tableswitch dflt lo hi offs, len)) (hk : ah_tck pc lo offs.toList ks = true) (hN : hi - lo + 1 = (offs.toList.length : Int)) (ht : (pc : Int) + dflt = (d : Int)) : ah_Snd (at_G p l e R s m args below meth c nL D tc ad0 A n0 mc res) res pc (ah_sw ks d) := by
  intro J hJ lv st h hf ad cn ls H locs ha hl hP hD hS hcn
  replace hf := Option.bind_eq_some_iff.mp hf
  obtain ⟨q, hq, hf⟩ := hf
  obtain rfl := ah_p1_i hq
  obtain ⟨hlen, hks⟩ := ah_tck_i hk
  rcases ah_swt_i hf with ⟨j, t, h1, h2⟩ | ⟨h1, h2⟩
  · obtain ⟨e1, o, e2, e3⟩ := hks j t q.1 h1
    have hjl : j < ks.length := (List.getElem?_eq_some_iff.mp h1).1
    refine lv_tableIn C.1 C.2.1 hd (by omega) (by omega) (off := o) ?_ e3 (hJ _ _ _ _ h2 ad cn ls H locs ha hl hP hD hS hcn)
    rw [e1, show (lo + (j : Int) - lo).toNat = j by omega, ← Array.getElem?_toList]
    exact e2
  · refine lv_tableOut C.1 C.2.1 hd ?_ ht (hJ _ _ _ _ h2 ad cn ls H locs ha hl hP hD hS hcn)
    rcases Int.lt_or_le q.1.toInt lo with z | z
    · exact Or.inl z
    · rcases Int.lt_or_le hi q.1.toInt with z2 | z2
      · exact Or.inr z2
      · exfalso
        have hjl : (q.1.toInt - lo).toNat < ks.length := by omega
        cases hj : ks[(q.1.toInt - lo).toNat]? with
        | none => rw [List.getElem?_eq_none_iff] at hj; omega
        | some kt =>
          obtain ⟨k, t⟩ := kt
          have e1 := (hks _ t k hj).1
          have e2 : k = q.1 := Int32.toInt_inj.mp (by omega)
          rw [e2] at hj
          exact h1 _ t hj
/-- a new object -/
def at_new (lim ci : Nat) (fs : List Value) (n : Nat) : ah_S := fun J lv st h => bif at_chk h lv st && Nat.ble (h.length + 1) lim then J n lv (.ref h.length :: st) (h ++ [.inr (ci, fs)]) else none
theorem at_chk_i {h : ah_H} {lv : ah_L} {st : List Value} (hk : at_chk h lv st = true) : at_okh h = true ∧ at_okl h.length lv = true ∧ st.all (at_ok h.length) = true := by
  unfold at_chk at hk
  rw [Bool.and_eq_true, Bool.and_eq_true] at hk
  exact hk
/-- behind a new cell -/
theorem at_next {J : ah_J} (hJ : ∀ p0 lv st h, J p0 lv st h = some res → at_G p l e R s m args below meth c nL D tc ad0 A n0 mc res p0 lv st h) {h : ah_H} {lv : ah_L} {st : List Value} {ad : Nat → Nat} {cn N q n : Nat} {ls : Array Slot} {H1 : Heap} {locs : List Loc} {en : ah_E} {x : va_E} (hk : at_chk h lv st = true) (hx : ∀ ad2 : Nat → Nat, ah_e ad2 tc en = x) (hN : N ≤ 40) (ha : at_ag n0 ad0 ad) (hl : lv_has ls nL (ah_lm ad lv)) (hcn : cn + n0 = h.length) (hP : va_P D vwCl (ah_w ad tc h ++ [(q, x)]) H1) (hD : va_D A (ah_w ad tc h ++ [(q, x)])) (hS : va_S A s.heap H1 locs) (hf : J n lv (.ref h.length :: st) (h ++ [en]) = some res) : W p l e R s m args below meth c H1 locs (cn + 1) (40 * cn + N) (MQ below (at_Q D tc ad0 A n0 res) args s mc (40 * mc) A) (F0 m n ls (.ref q :: st.map (ah_v ad))) := by
  obtain ⟨k1, k2, k3⟩ := at_chk_i hk
  obtain ⟨ad2, a1, a2, a3, a4, a5⟩ := at_push k1 (by omega) ha hx hP hD
  have := hJ _ _ _ _ hf ad2 (cn + 1) ls H1 locs a2 (by rw [at_ok_lm a1 k2]; exact hl) a4 a5 hS (by rw [List.length_append]; simp; omega)
  rw [List.map_cons, at_ok_st a1 k3] at this
  have e1 : ah_v ad2 (.ref h.length) = .ref q := by
    show Value.ref (ad2 h.length) = _
    rw [a3]
  rw [e1] at this
  exact W.widen (k := cn + 1) (n := 40 * (cn + 1)) (Nat.le_refl _) (by omega) this
theorem at_newo (C : ah_C p s m args meth c cc nL own ret s0 D tc A) (hA2 : ∀ q, s.heap.size ≤ q → A q) (hRc : mc ≤ R.cells ∧ 40 * mc ≤ R.slots) {lim ci index N : Nat} {Cn : String} {T : u_T} {fs : List Value} (hlim : lim = n0 + mc) (hd : decode cc pc = .ok (.new index, 3)) (hci : vwCl[ci]? = some (Cn, T, N)) (hin : ∀ w ∈ u_ws Cn T N, w ∈ ah_TT) (ty : Nat → FieldType) (hty : ∀ k, k < N → parseFieldDescriptor (T k).2.2.1 = some (ty k)) (w1 : Cond.classLink own index Cn ∈ ah_TT) (w2 : Cond.instantiable Cn N ∈ ah_TT) (w3 : Cond.initialized Cn ∈ ah_TT) (hfs : ∀ j, j < N → defaultValue (ty j) = vp_V fs j) (hnr : ∀ ad : Nat → Nat, fs.map (ah_v ad) = fs) (hN : N ≤ 40) : ah_Snd (at_G p l e R s m args below meth c nL D tc ad0 A n0 mc res) res pc (at_new lim ci fs (pc + 3)) := by
  intro J hJ lv st h hf ad cn ls H locs ha hl hP hD hS hcn
  cases hb : (at_chk h lv st && Nat.ble (h.length + 1) lim) with
  | false => unfold at_new at hf; rw [hb] at hf; cases hf
  | true =>
    unfold at_new at hf
    rw [hb] at hf
    have hf : J (pc + 3) lv (.ref h.length :: st) (h ++ [.inr (ci, fs)]) = some res := hf
    rw [Bool.and_eq_true] at hb
    have hl2 := Nat.le_of_ble_eq_true hb.2
    exact va_new C.1 C.2.1 C.2.2.2.2.1 hin ty hty C.2.2.2.1 (C.2.2.2.2.1 _ w1) (C.2.2.2.2.1 _ w2) (C.2.2.2.2.1 _ w3) C.2.2.2.2.2.1 hP hD hS hA2 hci hfs (by omega) (by omega) hd (fun q H1 hP1 hD1 hS1 => at_next hJ hb.1 (fun ad2 => by
      show (Sum.inr (ci, fs.map (ah_v ad2)) : va_E) = .inr (ci, fs)
      rw [hnr]) hN ha hl hcn hP1 hD1 hS1 hf)
/-- a new row of ints or booleans -/
def at_nwa (lim t : Nat) (n : Nat) : ah_S := fun J lv st h => (ah_p1 st).bind fun q => bif at_chk h lv q.2 && (Nat.ble (h.length + 1) lim && (decide (¬ q.1 < 0) && Nat.ble q.1.toNatClampNeg 40)) then J n lv (.ref h.length :: q.2) (h ++ [.inl (t, q.1.toNatClampNeg, .inl (fun _ => 0))]) else none
theorem at_newai (C : ah_C p s m args meth c cc nL own ret s0 D tc A) (hA2 : ∀ q, s.heap.size ≤ q → A q) (hRc : mc ≤ R.cells ∧ 40 * mc ≤ R.slots) {lim t : Nat} {atype : ArrayType} {ty : FieldType} (hlim : lim = n0 + mc) (hd : decode cc pc = .ok (.newarray atype, 2)) (hty : newarray.typeOf atype = ty) (w1 : Cond.arrayClass ty ∈ ah_TT) (htt : (ah_tys tc)[t]? = some (tc t, ty)) (hra : ∀ (cA : ClassId), va_RA s cA ty → s.vm.findClass ("[" ++ ty.toString) = some cA) (hdf : ∀ (cA : ClassId) (N : Nat), vp_cell cA (N, .inl (fun _ => 0)) = arrV cA N (fun _ => defaultValue ty)) (hcb : componentBytes ty ≤ 8) : ah_Snd (at_G p l e R s m args below meth c nL D tc ad0 A n0 mc res) res pc (at_nwa lim t (pc + 2)) := by
  intro J hJ lv st h hf ad cn ls H locs ha hl hP hD hS hcn
  replace hf := Option.bind_eq_some_iff.mp hf
  obtain ⟨q, hq, hf⟩ := hf
  obtain rfl := ah_p1_i hq
  cases hb : (at_chk h lv q.2 && (Nat.ble (h.length + 1) lim && (decide (¬ q.1 < 0) && Nat.ble q.1.toNatClampNeg 40))) with
  | false => rw [hb] at hf; cases hf
  | true =>
    rw [hb] at hf
    have hf : J (pc + 2) lv (.ref h.length :: q.2) (h ++ [.inl (t, q.1.toNatClampNeg, .inl (fun _ => 0))]) = some res := hf
    rw [Bool.and_eq_true, Bool.and_eq_true, Bool.and_eq_true] at hb
    have hl2 := Nat.le_of_ble_eq_true hb.2.1
    have hl3 := of_decide_eq_true hb.2.2.1
    have hl4 : q.1.toNatClampNeg ≤ 40 := Nat.le_of_ble_eq_true hb.2.2.2
    have hmul : q.1.toNatClampNeg * componentBytes ty ≤ 40 * 8 := Nat.mul_le_mul hl4 hcb
    refine va_newa C.1 C.2.1 (by rw [hty]; exact C.2.2.2.2.1 _ w1) hty C.2.2.2.2.2.1 hP hD hS hA2 (a0 := (q.1.toNatClampNeg, .inl (fun _ => 0))) (fun cA => hdf cA _) hl3 rfl (by omega) (by omega) (by omega) hd (fun a cA H1 hK1 hP1 hD1 hS1 => ?_)
    have hcA : cA = tc t := by
      have h1 := (hK1.2 (ah_tys tc).length (cA, ty) (by rw [List.getElem?_append_right (Nat.le_refl _), Nat.sub_self]; rfl)).2
      have h2 := (C.2.2.2.2.2.1.2 t (tc t, ty) htt).2
      exact Option.some.inj ((hra cA h1).symm.trans (hra (tc t) h2))
    subst hcA
    exact at_next hJ hb.1 (fun ad2 => rfl) hl4 ha hl hcn hP1 hD1 hS1 hf
/-- a new row of objects -/
def at_nwq (lim t : Nat) (n : Nat) : ah_S := fun J lv st h => (ah_p1 st).bind fun q => bif at_chk h lv q.2 && (Nat.ble (h.length + 1) lim && (decide (¬ q.1 < 0) && Nat.ble q.1.toNatClampNeg 40)) then J n lv (.ref h.length :: q.2) (h ++ [.inl (t, q.1.toNatClampNeg, .inr (fun _ => none))]) else none
theorem at_newaq (C : ah_C p s m args meth c cc nL own ret s0 D tc A) (hA2 : ∀ q, s.heap.size ≤ q → A q) (hRc : mc ≤ R.cells ∧ 40 * mc ≤ R.slots) {lim t index : Nat} {Cn : String} (hlim : lim = n0 + mc) (hd : decode cc pc = .ok (.anewarray index, 3)) (w1 : Cond.classLink own index Cn ∈ ah_TT) (w2 : va_AO Cn s0) (htt : (ah_tys tc)[t]? = some (tc t, .object Cn)) : ah_Snd (at_G p l e R s m args below meth c nL D tc ad0 A n0 mc res) res pc (at_nwq lim t (pc + 3)) := by
  intro J hJ lv st h hf ad cn ls H locs ha hl hP hD hS hcn
  replace hf := Option.bind_eq_some_iff.mp hf
  obtain ⟨q, hq, hf⟩ := hf
  obtain rfl := ah_p1_i hq
  cases hb : (at_chk h lv q.2 && (Nat.ble (h.length + 1) lim && (decide (¬ q.1 < 0) && Nat.ble q.1.toNatClampNeg 40))) with
  | false => rw [hb] at hf; cases hf
  | true =>
    rw [hb] at hf
    have hf : J (pc + 3) lv (.ref h.length :: q.2) (h ++ [.inl (t, q.1.toNatClampNeg, .inr (fun _ => none))]) = some res := hf
    rw [Bool.and_eq_true, Bool.and_eq_true, Bool.and_eq_true] at hb
    have hl2 := Nat.le_of_ble_eq_true hb.2.1
    have hl3 := of_decide_eq_true hb.2.2.1
    have hl4 : q.1.toNatClampNeg ≤ 40 := Nat.le_of_ble_eq_true hb.2.2.2
    refine va_newq C.1 C.2.1 C.2.2.2.1 (C.2.2.2.2.1 _ w1) (va_AO.moved C.2.2.2.2.2.2.1.1.alike w2) C.2.2.2.2.2.1 hP hD hS hA2 hl3 rfl (by omega) (by omega) (by omega) hd (fun a cA H1 hK1 hP1 hD1 hS1 => ?_)
    have hcA : cA = tc t := by
      obtain ⟨kA, comp, h1, h2, h3, h4⟩ := (hK1.2 (ah_tys tc).length (cA, .object Cn) (by rw [List.getElem?_append_right (Nat.le_refl _), Nat.sub_self]; rfl)).2
      obtain ⟨kA2, comp2, g1, g2, g3, g4⟩ := (C.2.2.2.2.2.1.2 t (tc t, .object Cn) htt).2
      exact Option.some.inj (h4.symm.trans g4)
    subst hcA
    exact at_next hJ hb.1 (fun ad2 => rfl) hl4 ha hl hcn hP1 hD1 hS1 hf
/-- Object's own beginning -/
def at_oi (n : Nat) : ah_S := fun J lv st h => (ah_q1 st).bind fun q => bif ah_rm q.2 8 then J n lv q.2 h else none
theorem at_objInit (C : ah_C p s m args meth c cc nL own ret s0 D tc A) {idx : Nat} (hd : decode cc pc = .ok (.invokespecial idx, 3)) (w1 : Cond.methodLink own idx Lib.objectInit ∈ ah_TT) (w2 : Cond.instanceMethod Lib.objectInit ∈ ah_TT) (w3 : Cond.code Lib.objectInit ⟨#[0xb1]⟩ 1 none ∈ ah_TT) (hR : 1 ≤ R.frames ∧ 20 ≤ R.locals) : ah_Snd (at_G p l e R s m args below meth c nL D tc ad0 A n0 mc res) res pc (at_oi (pc + 3)) := by
  intro J hJ lv st h hf ad cn ls H locs ha hl hP hD hS hcn
  replace hf := Option.bind_eq_some_iff.mp hf
  obtain ⟨q, hq, hf⟩ := hf
  obtain rfl := ah_q1_i hq
  cases h5 : ah_rm q.2 8 with
  | false => rw [h5] at hf; cases hf
  | true =>
    rw [h5] at hf
    have hrm := lv_room (m := m) (pc := pc) (ls := ls) (rest := Value.ref (ad q.1) :: q.2.map (ah_v ad)) (ah_rm_i ad h5)
    refine W.objInit C.1 C.2.1 C.2.2.2.1 (C.2.2.2.2.1 _ w1) (C.2.2.2.2.1 _ w2) (C.2.2.2.2.1 _ w3) rfl (by rw [C.2.2.1]; exact hl.1) rfl hd hR.1 (Nat.le_trans (Nat.add_le_add_right hrm 12) hR.2) ?_
    exact hJ _ _ _ _ hf ad cn ls H locs ha hl hP hD hS hcn
end ATS
