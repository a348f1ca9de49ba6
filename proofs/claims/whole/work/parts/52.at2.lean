/-! the machine that makes cells: fields, rows, returns, calls -/
section ATT
variable {p : Program} {l : Launch} {e : Env} {R : Room} {s : State} {m : MethodId} {args : Array Value} {below : List Frame} {meth : Method} {c : Code} {cc : ByteArray} {nL : Nat} {own : String} {ret : Option FieldType} {s0 : State} {D : va_G} {tc : Nat → ClassId} {ad0 : Nat → Nat} {A : Nat → Prop} {n0 mc : Nat} {res : ah_R} {pc : Nat}
/-- a field that a constructor writes -/
def at_Fp (own : String) (index : Nat) (cs : List Nat) (k : Nat) (ty : FieldType) : Prop := ∀ ci : Nat, ci ∈ cs → ∃ (C : String) (T : u_T) (N : Nat) (ref : String) (ty0 : Nat → FieldType), vwCl[ci]? = some (C, T, N) ∧ (∀ w ∈ u_ws C T N, w ∈ ah_TT) ∧ k < N ∧ Cond.fieldLink own index ref (T k).2.1 (T k).2.2.1 ∈ ah_TT ∧ (ref = (T k).1 ∨ Cond.sameField ref (T k).1 (T k).2.1 (T k).2.2.1 ∈ ah_TT) ∧ (∀ k, k < N → parseFieldDescriptor (T k).2.2.1 = some (ty0 k)) ∧ (∀ a, a < N → ∀ b, b < N → a ≠ b → (T a).2.1 ≠ (T b).2.1) ∧ ((T k).2.2.2 = false ∨ ((T k).2.2.2 = true ∧ (T k).1 = own)) ∧ parseFieldDescriptor (T k).2.2.1 = some ty
theorem at_put (C : ah_C p s m args meth c cc nL own ret s0 D tc A) (hin2 : meth.name = "<init>") {index k : Nat} {cs : List Nat} {ty : FieldType} {v : Value} {a cn sn : Nat} {ad : Nat → Nat} {h h2 : ah_H} {H : Heap} {locs : List Loc} {ls : Array Slot} {rest : List Value} {Q : State → Prop} (hd : decode cc pc = .ok (.putfield index, 3)) (hF : at_Fp own index cs k ty) (hn : narrow ty (ah_v ad v) = ah_v ad v) (hfit : fits ty (ah_v ad v) = true) (hv : ah_sv h a cs k v = some h2) (hP : va_P D vwCl (ah_w ad tc h) H) (hD : va_D A (ah_w ad tc h)) (hS : va_S A s.heap H locs)
    (kk : ∀ (H1 : Heap) (locs1 : List Loc), va_P D vwCl (ah_w ad tc h2) H1 → va_D A (ah_w ad tc h2) → va_S A s.heap H1 locs1 → W p l e R s m args below meth c H1 locs1 cn sn Q (F0 m (pc + 3) ls rest)) : W p l e R s m args below meth c H locs cn sn Q (F0 m pc ls (ah_v ad v :: .ref (ad a) :: rest)) := by
  obtain ⟨ci2, fs, hob, hin, hlt, rfl⟩ := ah_sv_i hv
  obtain ⟨C2, T, N, ref, ty0, h1, h2, h3, h4, h5, h6, h7, h8, h9⟩ := hF ci2 (ah_in_mem hin)
  have hset : ∀ X : va_E, X = ah_e ad tc (.inr (ci2, fs.set k v)) → (ah_w ad tc h).set a (ad a, X) = ah_w ad tc (h.set a (.inr (ci2, fs.set k v))) := fun X e => by rw [e]; exact ah_w_set
  have hX : (.inr (ci2, (fs.map (ah_v ad)).set k (ah_v ad v)) : va_E) = ah_e ad tc (.inr (ci2, fs.set k v)) := by
    show (.inr (ci2, (fs.map (ah_v ad)).set k (ah_v ad v)) : va_E) = .inr (ci2, (fs.set k v).map (ah_v ad))
    rw [List.map_set]
  have fin : ∀ (H1 : Heap) (locs1 : List Loc), va_P D vwCl ((ah_w ad tc h).set a (ad a, .inr (ci2, (fs.map (ah_v ad)).set k (ah_v ad v)))) H1 → va_D A ((ah_w ad tc h).set a (ad a, .inr (ci2, (fs.map (ah_v ad)).set k (ah_v ad v)))) → va_S A s.heap H1 locs1 → W p l e R s m args below meth c H1 locs1 cn sn Q (F0 m (pc + 3) ls rest) := fun H1 locs1 hP1 hD1 hS1 => by
    rw [hset _ hX] at hP1 hD1
    exact kk H1 locs1 hP1 hD1 hS1
  rcases h8 with h8 | ⟨h8, h10⟩
  · exact va_put C.1 C.2.1 C.2.2.2.2.1 h2 ty0 h6 h7 C.2.2.2.1 C.2.2.2.2.2.1 hP hD hS a (ah_w_get hob) h1 k h3 (C.2.2.2.2.1 _ h4) (ah_same C.2.2.2.2.1 h5) h8 h9 hn hfit (by rw [List.length_map]; exact hlt) hd fin
  · exact va_putF C.1 C.2.1 C.2.2.2.2.1 h2 ty0 h6 h7 C.2.2.2.1 C.2.2.2.2.2.1 hP hD hS a (ah_w_get hob) h1 k h3 (C.2.2.2.2.1 _ h4) (ah_same C.2.2.2.2.1 h5) h8 hin2 h10 h9 hn hfit (by rw [List.length_map]; exact hlt) hd fin
theorem ah_sv_len {h h2 : ah_H} {a k : Nat} {cs : List Nat} {v : Value} (e : ah_sv h a cs k v = some h2) : h2.length = h.length := by
  obtain ⟨ci, fs, h1, h3, h4, rfl⟩ := ah_sv_i e
  rw [List.length_set]
theorem at_pfi (C : ah_C p s m args meth c cc nL own ret s0 D tc A) (hin2 : meth.name = "<init>") {index k : Nat} {cs : List Nat} (hd : decode cc pc = .ok (.putfield index, 3)) (hF : at_Fp own index cs k .int) : ah_Snd (at_G p l e R s m args below meth c nL D tc ad0 A n0 mc res) res pc (ah_pfi cs k (pc + 3)) := by
  intro J hJ lv st h hf ad cn ls H locs ha hl hP hD hS hcn
  replace hf := Option.bind_eq_some_iff.mp hf
  obtain ⟨q, hq, hf⟩ := hf
  obtain rfl := ah_qi_i hq
  replace hf := Option.bind_eq_some_iff.mp hf
  obtain ⟨h2, hh, hf⟩ := hf
  exact at_put (v := .int q.2.1) C hin2 hd hF rfl rfl hh hP hD hS (fun H locs hP hD hS => hJ _ _ _ _ hf ad cn ls H locs ha hl hP hD hS (by rw [ah_sv_len hh]; exact hcn))
theorem at_pfz (C : ah_C p s m args meth c cc nL own ret s0 D tc A) (hin2 : meth.name = "<init>") {index k : Nat} {cs : List Nat} (hd : decode cc pc = .ok (.putfield index, 3)) (hF : at_Fp own index cs k .boolean) : ah_Snd (at_G p l e R s m args below meth c nL D tc ad0 A n0 mc res) res pc (ah_pfz cs k (pc + 3)) := by
  intro J hJ lv st h hf ad cn ls H locs ha hl hP hD hS hcn
  replace hf := Option.bind_eq_some_iff.mp hf
  obtain ⟨q, hq, hf⟩ := hf
  obtain rfl := ah_qi_i hq
  by_cases hz : q.2.1 = 0 ∨ q.2.1 = 1
  · rw [if_pos hz] at hf
    replace hf := Option.bind_eq_some_iff.mp hf
    obtain ⟨h2, hh, hf⟩ := hf
    have kk := fun (H : Heap) (locs : List Loc) (hP : va_P D vwCl (ah_w ad tc h2) H) (hD : va_D A (ah_w ad tc h2)) (hS : va_S A s.heap H locs) => hJ _ _ _ _ hf ad cn ls H locs ha hl hP hD hS (by rw [ah_sv_len hh]; exact hcn)
    obtain ⟨a, b, r⟩ := q
    rcases hz with hz | hz
    · have hz : b = 0 := hz
      subst hz
      exact at_put (v := .int 0) C hin2 hd hF rfl rfl hh hP hD hS kk
    · have hz : b = 1 := hz
      subst hz
      exact at_put (v := .int 1) C hin2 hd hF rfl rfl hh hP hD hS kk
  · rw [if_neg hz] at hf; cases hf
def at_qr : List Value → Option (Nat × Nat × List Value) := fun st => match st with
  | .ref v :: .ref a :: r => some (a, v, r)
  | _ => none
theorem at_qr_i {st : List Value} {q : Nat × Nat × List Value} (h : at_qr st = some q) : st = .ref q.2.1 :: .ref q.1 :: q.2.2 := by
  unfold at_qr at h
  split at h
  · cases h; rfl
  · cases h
def at_pr (cs : List Nat) (k n : Nat) : ah_S := fun J lv st h => (at_qr st).bind fun q => (ah_sv h q.1 cs k (.ref q.2.1)).bind fun h2 => J n lv q.2.2 h2
theorem at_pfr (C : ah_C p s m args meth c cc nL own ret s0 D tc A) (hin2 : meth.name = "<init>") {index k : Nat} {cs : List Nat} {ty : FieldType} (hd : decode cc pc = .ok (.putfield index, 3)) (hF : at_Fp own index cs k ty) (hn : ∀ x : Nat, narrow ty (.ref x) = .ref x ∧ fits ty (.ref x) = true) : ah_Snd (at_G p l e R s m args below meth c nL D tc ad0 A n0 mc res) res pc (at_pr cs k (pc + 3)) := by
  intro J hJ lv st h hf ad cn ls H locs ha hl hP hD hS hcn
  replace hf := Option.bind_eq_some_iff.mp hf
  obtain ⟨q, hq, hf⟩ := hf
  obtain rfl := at_qr_i hq
  replace hf := Option.bind_eq_some_iff.mp hf
  obtain ⟨h2, hh, hf⟩ := hf
  exact at_put (v := .ref q.2.1) C hin2 hd hF (hn _).1 (hn _).2 hh hP hD hS (fun H locs hP hD hS => hJ _ _ _ _ hf ad cn ls H locs ha hl hP hD hS (by rw [ah_sv_len hh]; exact hcn))
/-- an object into a row of its class -/
def at_qri : List Value → Option (Nat × Int32 × Nat × List Value) := fun st => match st with
  | .ref v :: .int i :: .ref a :: r => some (a, i, v, r)
  | _ => none
theorem at_qri_i {st : List Value} {q : Nat × Int32 × Nat × List Value} (h : at_qri st = some q) : st = .ref q.2.2.1 :: .int q.2.1 :: .ref q.1 :: q.2.2.2 := by
  unfold at_qri at h
  split at h
  · cases h; rfl
  · cases h
def at_ast (t ci n : Nat) : ah_S := fun J lv st h => (at_qri st).bind fun q => (ah_ar h q.1 t).bind fun w => (ah_ob h q.2.2.1).bind fun o => if o.1 = ci ∧ ¬ (q.2.1 < 0 ∨ w.1 ≤ q.2.1.toNatClampNeg) then J n lv q.2.2.2 (h.set q.1 (.inl (t, w.1, .inr (va_up w.2 q.2.1.toNatClampNeg (some q.2.2.1))))) else none
theorem at_aast (C : ah_C p s m args meth c cc nL own ret s0 D tc A) {t ci N : Nat} {Cn : String} {T : u_T} (hd : decode cc pc = .ok (.aastore, 1)) (hci : vwCl[ci]? = some (Cn, T, N)) (htt : (ah_tys tc)[t]? = some (tc t, .object Cn)) : ah_Snd (at_G p l e R s m args below meth c nL D tc ad0 A n0 mc res) res pc (at_ast t ci (pc + 1)) := by
  intro J hJ lv st h hf ad cn ls H locs ha hl hP hD hS hcn
  replace hf := Option.bind_eq_some_iff.mp hf
  obtain ⟨q, hq, hf⟩ := hf
  obtain rfl := at_qri_i hq
  replace hf := Option.bind_eq_some_iff.mp hf
  obtain ⟨w, hw, hf⟩ := hf
  replace hf := Option.bind_eq_some_iff.mp hf
  obtain ⟨o, ho, hf⟩ := hf
  by_cases hz : o.1 = ci ∧ ¬ (q.2.1 < 0 ∨ w.1 ≤ q.2.1.toNatClampNeg)
  · rw [if_pos hz] at hf
    obtain ⟨hz1, hz2⟩ := hz
    have ho2 := ah_ob_i ho
    have ho3 : h[q.2.2.1]? = some (.inr (ci, o.2)) := by rw [ho2, ← hz1]
    refine va_astq C.1 C.2.1 C.2.2.2.2.2.1 hP hD hS q.1 t q.2.2.1 ci (ah_w_get (ah_ar_i hw)) htt (ah_w_get ho3) hci hz2 hd (fun H1 locs1 hP1 hD1 hS1 => ?_)
    have e1 : (.inl (tc t, w.1, .inr (.inr (.inr (.inr (va_up (fun j => (w.2 j).map ad) q.2.1.toNatClampNeg (some (ad q.2.2.1))))))) : va_E) = ah_e ad tc (.inl (t, w.1, .inr (va_up w.2 q.2.1.toNatClampNeg (some q.2.2.1)))) := by
      show (.inl (tc t, w.1, .inr (.inr (.inr (.inr (va_up (fun j => (w.2 j).map ad) q.2.1.toNatClampNeg (some (ad q.2.2.1))))))) : va_E) = .inl (tc t, w.1, .inr (.inr (.inr (.inr (fun j => (va_up w.2 q.2.1.toNatClampNeg (some q.2.2.1) j).map ad)))))
      have : va_up (fun j => (w.2 j).map ad) q.2.1.toNatClampNeg (some (ad q.2.2.1)) = fun j => (va_up w.2 q.2.1.toNatClampNeg (some q.2.2.1) j).map ad := by
        funext j
        rw [va_l, va_l]
        split <;> rfl
      rw [this]
    have hP1 : va_P D vwCl ((ah_w ad tc h).set q.1 (ad q.1, .inl (tc t, w.1, .inr (.inr (.inr (.inr (va_up (fun j => (w.2 j).map ad) q.2.1.toNatClampNeg (some (ad q.2.2.1))))))))) H1 := hP1
    have hD1 : va_D A ((ah_w ad tc h).set q.1 (ad q.1, .inl (tc t, w.1, .inr (.inr (.inr (.inr (va_up (fun j => (w.2 j).map ad) q.2.1.toNatClampNeg (some (ad q.2.2.1))))))))) := hD1
    rw [e1, ah_w_set] at hP1 hD1
    exact hJ _ _ _ _ hf ad cn ls H1 locs1 ha hl hP1 hD1 hS1 (by rw [List.length_set]; exact hcn)
  · rw [if_neg hz] at hf; cases hf
theorem at_vret (C : ah_C p s m args meth c cc nL own ret s0 D tc A) (hmc : res.2.length ≤ n0 + mc) (hr : ret = none) (hd : decode cc pc = .ok (.return_, 1)) : ah_Snd (at_G p l e R s m args below meth c nL D tc ad0 A n0 mc res) res pc ah_vret := by
  intro J hJ lv st h hf ad cn ls H locs ha hl hP hD hS hcn
  cases st with
  | nil =>
    have e := Option.some.inj hf
    subst e
    have hmc : h.length ≤ n0 + mc := hmc
    exact W.widen (k := mc) (n := 40 * mc) (by omega) (by omega) (W.vret C.1 C.2.1 (C.2.2.2.2.2.2.2.2.2.trans hr) (fun t ht hW => ⟨ad, ha, rfl, by rw [ht]; exact hP, hD, hS.F ht⟩) hS.2.2 hd C.2.2.2.2.2.2.2.2.1)
  | cons v r => cases hf
def at_aret : ah_S := fun _ _ st h => match st with
  | [.ref v] => some (some (.ref v), h)
  | _ => none
theorem at_aretS (C : ah_C p s m args meth c cc nL own ret s0 D tc A) (hmc : res.2.length ≤ n0 + mc) {Cn : String} (hr : ret = some (.object Cn)) (hd : decode cc pc = .ok (.areturn, 1)) : ah_Snd (at_G p l e R s m args below meth c nL D tc ad0 A n0 mc res) res pc at_aret := by
  intro J hJ lv st h hf ad cn ls H locs ha hl hP hD hS hcn
  unfold at_aret at hf
  split at hf
  · rename_i v
    have e := Option.some.inj hf
    subst e
    have hmc : h.length ≤ n0 + mc := hmc
    exact W.widen (k := mc) (n := 40 * mc) (by omega) (by omega) (W.aret (v := .ref (ad v)) C.1 C.2.1 (C.2.2.2.2.2.2.2.2.2.trans hr) (Or.inl ⟨Cn, rfl⟩) (Or.inr ⟨_, rfl⟩) (fun t ht hW => ⟨ad, ha, rfl, by rw [ht]; exact hP, hD, hS.F ht⟩) hS.2.2 hd C.2.2.2.2.2.2.2.2.1)
  · cases hf
/-- a contract of a method that makes cells -/
def at_Pre (s0 : State) (D : va_G) (tc : Nat → ClassId) (ad : Nat → Nat) (A : Nat → Prop) (as : List Value) (h : ah_H) : Array Value → State → Prop := va_Pc (as.map (ah_v ad)) (fun U => va_P D vwCl (ah_w ad tc h) U.heap ∧ va_K D vwCl (ah_tys tc) U ∧ va_D A (ah_w ad tc h) ∧ ah_Ev s0 U ∧ ∀ q, U.heap.size ≤ q → A q)
def at_Met (l : Launch) (s0 : State) (D : va_G) (tc : Nat → ClassId) (A : Nat → Prop) (y : MethodName) (cc : ByteArray) (maxL : Nat) (ret : Option FieldType) (fr lo mc : Nat) (I : (Nat → Nat) → Prop) (F : ah_F) : Prop := ∀ (ad : Nat → Nat) (as : List Value) (h : ah_H) (res : ah_R), I ad → F as h = some res → Met l y (Cond.code y cc maxL ret :: ah_TT) (at_room fr lo mc) (at_Pre s0 D tc ad A as h) (at_Q D tc ad A h.length res) mc (40 * mc) A
theorem at_blind {s0 : State} {D : va_G} {tc : Nat → ClassId} {ad : Nat → Nat} {A : Nat → Prop} {as : List Value} {h : ah_H} : FrameBlind (at_Pre s0 D tc ad A as h) := fun a U g mk q => by
  obtain ⟨q0, qP, qK, qD, qE, qA⟩ := q
  exact ⟨q0, qP, va_K.moved (u := U) (U := U.calling g mk a) (Vm.Alike.refl U.vm) qK, qD, qE, qA⟩
theorem at_pre (C : ah_C p s m args meth c cc nL own ret s0 D tc A) (hA2 : ∀ q, s.heap.size ≤ q → A q) {ad : Nat → Nat} {as : List Value} {h : ah_H} {H : Heap} {locs : List Loc} (hP : va_P D vwCl (ah_w ad tc h) H) (hD : va_D A (ah_w ad tc h)) (hS : va_S A s.heap H locs) : ∀ U : State, U.heap = H → s.WarmedH U.vm → at_Pre s0 D tc ad A as h (as.map (ah_v ad)).toArray U := by
  intro U hU hW
  obtain ⟨e0, e1, e2, e3, e4⟩ := ah_pre (as := as) C hP hD hS U hU hW
  exact ⟨e0, e1, e2, e3, e4, fun q hq => hA2 q (by rw [hU] at hq; exact Nat.le_trans hS.1 hq)⟩
/-- a constructor's call -/
def at_cI (F : ah_F) (lim mc2 k : Nat) (n : Nat) : ah_S := fun J lv st h => (ah_pop k [] st).bind fun q => (ah_q1 q.1).bind fun r => bif ah_rm q.2 8 && (at_chk h lv q.2 && Nat.ble (h.length + mc2) lim) then (ah_rV (F q.1 h)).bind fun h2 => bif Nat.beq h2.length (h.length + mc2) then J n lv q.2 h2 else none else none
theorem at_after {J : ah_J} (hJ : ∀ p0 lv st h, J p0 lv st h = some res → at_G p l e R s m args below meth c nL D tc ad0 A n0 mc res p0 lv st h) {mc2 cn : Nat} {ad : Nat → Nat} {lv : ah_L} {st0 rest : List Value} {h h2 : ah_H} {H : Heap} {locs : List Loc} {ls : Array Slot} {a : Array Value} (hk : at_chk h lv rest = true) (hlen : h2.length = h.length + mc2) (hcn : cn + n0 = h.length) (ha : at_ag n0 ad0 ad) (hl : lv_has ls nL (ah_lm ad lv)) (hr : va_Run p l e R s m args below meth c H locs cn (40 * cn) mc2 (40 * mc2) (F0 m pc ls st0) (rest.map (ah_v ad)) (at_Q D tc ad A h.length (none, h2) a) A) (hS : va_S A s.heap H locs) (hf : J (pc + 3) lv rest h2 = some res) : W p l e R s m args below meth c H locs cn (40 * cn) (MQ below (at_Q D tc ad0 A n0 res) args s mc (40 * mc) A) (F0 m pc ls st0) := by
  intro T hT X
  obtain ⟨v, st₀, t, T', L, h0, X', hL, e1, e2, ⟨ad2, ag, hv, hp, hd, hz, hkk⟩, st⟩ := hr T hT X
  injection hv with hv
  subst hv
  rw [h0] at hz hkk
  obtain ⟨k1, k2, k3⟩ := at_chk_i hk
  have go := hJ _ _ _ _ hf ad2 (cn + mc2) ls T'.heap (locs ++ L) (fun k hk => by rw [ag k (by omega)]; exact ha k hk) (by rw [at_ok_lm ag k2]; exact hl) (by rw [e1]; exact hp) hd
    ⟨Nat.le_trans hS.1 (by rw [e1]; exact hz), fun q h1 h2 => by rw [e1, hkk q (Nat.lt_of_lt_of_le h1 hS.1) h2]; exact hS.2.1 q h1 h2, fun q hq => by
      rcases List.mem_append.mp hq with h | h
      · exact hS.2.2 q h
      · exact hL q h⟩ (by omega)
  rw [at_ok_st ag k3] at go
  obtain ⟨t2, a1, b1⟩ := go T' rfl (by rw [Nat.mul_add]; exact X')
  exact ⟨t2, st t2 a1, b1⟩
theorem at_ctorG (C : ah_C p s m args meth c cc nL own ret s0 D tc A) (hA2 : ∀ q, s.heap.size ≤ q → A q) (hRc : mc ≤ R.cells ∧ 40 * mc ≤ R.slots) {lim mc2 k : Nat} {F : ah_F} (hlim : lim = n0 + mc)
    (run : ∀ (ad : Nat → Nat) (b : Nat) (As rest : List Value) (h h2 : ah_H) (H : Heap) (locs : List Loc) (ls : Array Slot) (cn : Nat), F (.ref b :: As) h = some (none, h2) → As.length + 1 = k → ls.size = nL → (rest.map fun v => v.category).sum ≤ 8 → va_P D vwCl (ah_w ad tc h) H → va_D A (ah_w ad tc h) → va_S A s.heap H locs → cn + mc2 ≤ R.cells ∧ 40 * cn + 40 * mc2 ≤ R.slots → va_Run p l e R s m args below meth c H locs cn (40 * cn) mc2 (40 * mc2) (F0 m pc ls ((As.map (ah_v ad)).reverse ++ .ref (ad b) :: rest)) rest (at_Q D tc ad A h.length (none, h2) (Value.ref (ad b) :: As.map (ah_v ad)).toArray) A) : ah_Snd (at_G p l e R s m args below meth c nL D tc ad0 A n0 mc res) res pc (at_cI F lim mc2 k (pc + 3)) := by
  intro J hJ lv st h hf ad cn ls H locs ha hl hP hD hS hcn
  replace hf := Option.bind_eq_some_iff.mp hf
  obtain ⟨q, h1, hf⟩ := hf
  replace hf := Option.bind_eq_some_iff.mp hf
  obtain ⟨r, h2, hf⟩ := hf
  cases hb : (ah_rm q.2 8 && (at_chk h lv q.2 && Nat.ble (h.length + mc2) lim)) with
  | false => rw [hb] at hf; cases hf
  | true =>
    rw [hb] at hf
    rw [Bool.and_eq_true, Bool.and_eq_true] at hb
    replace hf := Option.bind_eq_some_iff.mp hf
    obtain ⟨h3, h6, hf⟩ := hf
    cases h7 : Nat.beq h3.length (h.length + mc2) with
    | false => rw [h7] at hf; cases hf
    | true =>
      rw [h7] at hf
      have hf : J (pc + 3) lv q.2 h3 = some res := hf
      have h8 : h3.length = h.length + mc2 := Nat.eq_of_beq_eq_true h7
      have h9 := Nat.le_of_ble_eq_true hb.2.2
      obtain ⟨pre, e1, e2, e3⟩ := ah_pop_i h1
      rw [List.append_nil] at e3
      have e4 := ah_q1_i h2
      have hpre : pre = r.2.reverse ++ [.ref r.1] := by
        have : pre.reverse = .ref r.1 :: r.2 := by rw [← e3]; exact e4
        have := congrArg List.reverse this
        rw [List.reverse_reverse] at this
        rw [this]; simp
      have hst : st.map (ah_v ad) = (r.2.map (ah_v ad)).reverse ++ .ref (ad r.1) :: q.2.map (ah_v ad) := by
        rw [e2, hpre]
        simp [ah_v]
      rw [hst]
      have hk : r.2.length + 1 = k := by rw [← e1, hpre]; simp
      exact at_after hJ hb.2.1 h8 hcn ha hl (run ad r.1 r.2 (q.2.map (ah_v ad)) h h3 H locs ls cn (by rw [← e4]; exact ah_rV_i h6) hk hl.1 (ah_rm_i ad hb.1) hP hD hS (by omega)) hS hf
theorem at_ctor (C : ah_C p s m args meth c cc nL own ret s0 D tc A) (hA2 : ∀ q, s.heap.size ≤ q → A q) (hRc : mc ≤ R.cells ∧ 40 * mc ≤ R.slots) {lim mc2 : Nat} {F : ah_F} (hlim : lim = n0 + mc) {y : MethodName} {cc2 : ByteArray} {maxL fr lo idx n : Nat} (hM : at_Met l s0 D tc A y cc2 maxL none fr lo mc2 (fun _ => True) F) (hd : decode cc pc = .ok (.invokespecial idx, 3)) (w1 : Cond.methodLink own idx y ∈ ah_TT) (w2 : Cond.instanceMethod y ∈ ah_TT) (w4 : Cond.initialized y.cls ∈ ah_TT) (w5 : Cond.code y cc2 maxL none ∈ ah_TT) (hy : y.name = "<init>") (hdd : y.cls ≠ "java/lang/invoke/MethodHandle" ∧ y.cls ≠ "java/lang/invoke/VarHandle" ∧ (parseMethodDescriptor y.desc).map (fun d => d.parameters.length) = some n) (hR : fr + 1 ≤ R.frames ∧ 8 + (maxL + 11) + lo ≤ R.locals) : ah_Snd (at_G p l e R s m args below meth c nL D tc ad0 A n0 mc res) res pc (at_cI F lim mc2 (n + 1) (pc + 3)) := by
  refine at_ctorG C hA2 hRc hlim (fun ad b As rest h h2 H locs ls cn hF hk hls hrm hP hD hS hroom => ?_)
  have hG : GoodIn ah_TT (Cond.code y cc2 maxL none :: ah_TT) := by
    intro w hw
    have hw2 : w ∈ ah_TT := by
      rcases List.mem_cons.mp hw with rfl | hw
      · exact w5
      · exact hw
    exact ⟨hw2, ah_TT_good hw2⟩
  exact va_runI (Ts := ah_TT) (As := As.map (ah_v ad)) (rest := rest) ⟨C.1, C.2.1, C.2.2.1, C.2.2.2.1, C.2.2.2.2.1⟩ (hM ad _ _ _ trivial hF) (cwI n C.2.2.2.2.1 hG rfl rfl rfl (C.2.2.2.2.1 _ w4) (C.2.2.2.2.1 _ w1) (C.2.2.2.2.1 _ w2) hy hdd hR) ⟨at_blind, at_pre C hA2 (as := .ref b :: As) hP hD hS⟩ rfl (by rw [List.length_map]; omega) hls rfl (lv_room hrm) hd hroom
theorem at_ctorN (C : ah_C p s m args meth c cc nL own ret s0 D tc A) (hA2 : ∀ q, s.heap.size ≤ q → A q) (hRc : mc ≤ R.cells ∧ 40 * mc ≤ R.slots) {lim mc2 : Nat} {F : ah_F} (hlim : lim = n0 + mc) {y : MethodName} {cc2 : ByteArray} {maxL fr lo idx n : Nat} {host : String} (hM : at_Met l s0 D tc A y cc2 maxL none fr lo mc2 (fun _ => True) F) (hd : decode cc pc = .ok (.invokespecial idx, 3)) (w1 : va_Nw (.methodLinkNest own idx y host) s0) (w2 : Cond.instanceMethod y ∈ ah_TT) (w4 : Cond.initialized y.cls ∈ ah_TT) (w5 : Cond.code y cc2 maxL none ∈ ah_TT) (hy : y.name = "<init>") (hdd : y.cls ≠ "java/lang/invoke/MethodHandle" ∧ y.cls ≠ "java/lang/invoke/VarHandle" ∧ (parseMethodDescriptor y.desc).map (fun d => d.parameters.length) = some n) (hR : fr + 1 ≤ R.frames ∧ 8 + (maxL + 11) + lo ≤ R.locals) : ah_Snd (at_G p l e R s m args below meth c nL D tc ad0 A n0 mc res) res pc (at_cI F lim mc2 (n + 1) (pc + 3)) := by
  refine at_ctorG C hA2 hRc hlim (fun ad b As rest h h2 H locs ls cn hF hk hls hrm hP hD hS hroom => ?_)
  have hG : GoodIn ah_TT (Cond.code y cc2 maxL none :: ah_TT) := by
    intro w hw
    have hw2 : w ∈ ah_TT := by
      rcases List.mem_cons.mp hw with rfl | hw
      · exact w5
      · exact hw
    exact ⟨hw2, ah_TT_good hw2⟩
  exact va_runIN (Ts := ah_TT) (As := As.map (ah_v ad)) (rest := rest) ⟨C.1, C.2.1, C.2.2.1, C.2.2.2.1, C.2.2.2.2.1⟩ (hM ad _ _ _ trivial hF) ⟨va_cnB n C.2.2.2.2.1 hG rfl rfl rfl (va_Nw.warmM C.2.2.2.2.2.2.1.1 w1) (C.2.2.2.2.1 _ w4) hdd hR, hy, C.2.2.2.2.1 _ w2⟩ ⟨at_blind, at_pre C hA2 (as := .ref b :: As) hP hD hS⟩ rfl (by rw [List.length_map]; omega) hls rfl (lv_room hrm) hd hroom
end ATT
/-- a method whose table is sound keeps its contract -/
theorem at_met {l : Launch} {s0 : State} {D : va_G} {tc : Nat → ClassId} {A : Nat → Prop} {y : MethodName} {cc : ByteArray} {nL : Nat} {ret : Option FieldType} {fr lo mc : Nat} {code : Nat → List (Nat × ah_S)} {f : Nat} {I : (Nat → Nat) → Prop} (hA : ∀ q, A q → s0.heap.size ≤ q) (hy : plainName y.cls = true)
    (hc : ∀ (p : Program) (e : Env) (s : State) (m : MethodId) (args : Array Value) (below : List Frame) (meth : Method) (c : Code) (res : ah_R) (ad0 : Nat → Nat) (n0 : Nat), I ad0 → ah_C p s m args meth c cc nL y.cls ret s0 D tc A → (∀ q, s.heap.size ≤ q → A q) → meth.name = y.name → res.2.length ≤ n0 + mc → ah_All (at_G p l e (at_room fr lo mc) s m args below meth c nL D tc ad0 A n0 mc res) res (code (n0 + mc))) : at_Met l s0 D tc A y cc nL ret fr lo mc I (fun as h => (ah_fun (code (h.length + mc)) nL f as h).bind fun r => bif Nat.ble r.2.length (h.length + mc) then some r else none) := by
  intro ad as h res hI hF
  obtain ⟨r, hF2, hb⟩ := Option.bind_eq_some_iff.mp hF
  clear hF
  have hF := hF2
  clear hF2
  cases hb2 : Nat.ble r.2.length (h.length + mc) with
  | false => rw [hb2] at hb; cases hb
  | true =>
    rw [hb2] at hb
    have hb : r = res := Option.some.inj hb
    subst hb
    have hle := Nat.le_of_ble_eq_true hb2
    unfold ah_fun at hF
    cases h5 : ah_rm as nL with
    | false => rw [h5] at hF; cases hF
    | true =>
      rw [h5] at hF
      refine Met.ofW (cc := cc) (maxL := nL) (ret := ret) hy rfl ?_
      intro p e s m args below meth c s₁ B hml hv
      obtain ⟨rfl, hP, hK, hD, hE, hA2⟩ := hv
      have hts := atoms_spec (ws := Cond.code y cc nL ret :: ah_TT) B.pre
      have hown : s.vm.findClass y.cls = some m.cls := findClass_of_methodNamed B.named
      have hnm : meth.name = y.name := (name_of_methodNamed B.named B.method).1
      have C : ah_C p s m (as.map (ah_v ad)).toArray meth c cc nL y.cls ret s0 D tc A := ⟨B.exec, B.bytes, hml, hown, fun w hw => hts w (List.mem_cons_of_mem _ hw), hK, hE, hA, B.notSynchronized, B.returns⟩
      have hg := ah_run_ok (hc p e s m _ below meth c r ad h.length hI C hA2 hnm hle) f 0 (ah_ent 0 as) [] h hF
      have hl := lv_entry (as.map (ah_v ad)) (n := nL) (by rw [ah_sl]; exact ah_rm_sl h5)
      rw [lg_entry_eq]
      generalize (lg_sl (as.map (ah_v ad)) ++ List.replicate (nL - (lg_sl (as.map (ah_v ad))).length) Slot.unset).toArray = ls at hl ⊢
      rw [← ah_ent_i] at hl
      exact hg ad 0 ls s.heap [] (fun _ _ => rfl) hl hP hD va_S.rf (by omega)
