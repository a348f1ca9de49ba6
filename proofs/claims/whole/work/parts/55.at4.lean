/-! the machine that makes cells: what a drawer wants -/
section ATU
variable {p : Program} {l : Launch} {e : Env} {R : Room} {s : State} {m : MethodId} {args : Array Value} {below : List Frame} {meth : Method} {c : Code} {cc : ByteArray} {nL : Nat} {own : String} {ret : Option FieldType} {s0 : State} {D : va_G} {tc : Nat → ClassId} {ad0 : Nat → Nat} {A : Nat → Prop} {n0 mc : Nat} {res : ah_R} {pc : Nat}
theorem at_W0 {ad : Nat → Nat} (ha : at_ag n0 ad0 ad) (hW : ah_W0 s0 ad0 A) : ah_W0 s0 ad A := by
  obtain ⟨h1, h2, av, h3, h4, h5⟩ := hW
  have e1 : ad 1000 = ad0 1000 := ha 1000 (Or.inr (Nat.le_refl _))
  refine ⟨h1, h2, av, by rw [e1]; exact h3, ?_, h5⟩
  rw [e1]
  exact h4
theorem at_str (C : ah_C p s m args meth c cc nL RX4 ret s0 D tc A) (hW : ah_W0 s0 ad0 A) (hd : decode cc pc = .ok (.ldc 27, 2)) : ah_Snd (at_G p l e R s m args below meth c nL D tc ad0 A n0 mc res) res pc (ah_push (.ref 1000) (pc + 2)) := by
  intro J hJ lv st h hf ad cn ls H locs ha hl hP hD hS hcn
  obtain ⟨av, hR, hS0, hZ⟩ := (at_W0 ha hW).2.2
  exact va_ldcS C.1 C.2.1 C.2.2.2.1 (hR.warm C.2.2.2.2.2.2.1.1) hd (hJ _ _ _ _ hf ad cn ls H locs ha hl hP hD hS hcn)
def at_ixs (lim n : Nat) : ah_S := fun J lv st h => (ah_qi st).bind fun q => bif (Nat.beq q.1 1000 && ah_rm q.2.2 8) && Nat.ble h.length lim then J n lv (.int (ah_ix q.2.1) :: q.2.2) h else none
theorem at_idx (C : ah_C p s m args meth c cc nL own ret s0 D tc A) (hW : ah_W0 s0 ad0 A) (hRc : mc ≤ R.cells ∧ 40 * mc ≤ R.slots) {lim idx : Nat} (hlim : lim = n0 + mc) (hd : decode cc pc = .ok (.invokevirtual idx, 3)) (w1 : Cond.methodLink own idx yJ0_indexOf_0f7a4 ∈ ah_TT) (hR : 8 ≤ R.frames ∧ 400 ≤ R.locals) : ah_Snd (at_G p l e R s m args below meth c nL D tc ad0 A n0 mc res) res pc (at_ixs lim (pc + 3)) := by
  intro J hJ lv st h hf ad cn ls H locs ha hl hP hD hS hcn
  replace hf := Option.bind_eq_some_iff.mp hf
  obtain ⟨q, hq, hf⟩ := hf
  obtain rfl := ah_qi_i hq
  cases hb : ((Nat.beq q.1 1000 && ah_rm q.2.2 8) && Nat.ble h.length lim) with
  | false => rw [hb] at hf; cases hf
  | true =>
    rw [hb] at hf
    rw [Bool.and_eq_true, Bool.and_eq_true] at hb
    have er : q.1 = 1000 := Nat.eq_of_beq_eq_true hb.1.1
    have hl2 := Nat.le_of_ble_eq_true hb.2
    have := ix_call (l := l) (e := e) (R := R) (below := below) (x := q.2.1) (rest := q.2.2.map (ah_v ad)) (cells := cn) (slots := 40 * cn) C (at_W0 ha hW) hd w1 hR hl.1 (ah_rm_i ad hb.1.2) hS ⟨by omega, by omega⟩ (fun H1 locs1 hz hk hS1 => hJ _ _ _ _ hf ad cn ls H1 locs1 ha hl (hP.kept (fun k y hy => hk y.1 ((hP k y hy).lt))) hD hS1 hcn)
    rw [List.map_cons, List.map_cons, er]
    exact this
theorem at_if_ne (C : ah_C p s m args meth c cc nL own ret s0 D tc A) {off : Int} {t : Nat} (hd : decode cc pc = .ok (.ifCond .ne off, 3)) (ht : (pc : Int) + off = (t : Int)) : ah_Snd (at_G p l e R s m args below meth c nL D tc ad0 A n0 mc res) res pc (ah_zeq (pc + 3) t) := by
  intro J hJ lv st h hf ad cn ls H locs ha hl hP hD hS hcn
  replace hf := Option.bind_eq_some_iff.mp hf
  obtain ⟨q, hq, hf⟩ := hf
  obtain rfl := ah_p1_i hq
  refine lv_if_ne C.1 C.2.1 hd ht (fun hc => ?_) (fun hc => ?_)
  · rw [if_neg hc] at hf
    exact hJ _ _ _ _ hf ad cn ls H locs ha hl hP hD hS hcn
  · rw [if_pos hc] at hf
    exact hJ _ _ _ _ hf ad cn ls H locs ha hl hP hD hS hcn
def at_mn (lim n : Nat) : ah_S := fun J lv st h => (ah_p2 st).bind fun q => bif ah_rm q.2.2 8 && Nat.ble h.length lim then J n lv (.int (if q.2.1 < q.1 then q.2.1 else q.1) :: q.2.2) h else none
theorem at_min (C : ah_C p s m args meth c cc nL own ret s0 D tc A) (hRc : mc ≤ R.cells ∧ 40 * mc ≤ R.slots) {lim idx : Nat} (hlim : lim = n0 + mc) (hd : decode cc pc = .ok (.invokestatic idx, 3)) (w1 : Cond.methodLink own idx Lib.Math.min.name ∈ ah_TT) (w2 : Cond.static Lib.Math.min.name ∈ ah_TT) (w3 : Cond.initialized "java/lang/Math" ∈ ah_TT) (w4 : Cond.code Lib.Math.min.name Lib.Math.min.code 2 (some .int) ∈ ah_TT) (hR : 1 ≤ R.frames ∧ 21 ≤ R.locals) : ah_Snd (at_G p l e R s m args below meth c nL D tc ad0 A n0 mc res) res pc (at_mn lim (pc + 3)) := by
  intro J hJ lv st h hf ad cn ls H locs ha hl hP hD hS hcn
  replace hf := Option.bind_eq_some_iff.mp hf
  obtain ⟨q, hq, hf⟩ := hf
  obtain rfl := ah_p2_i hq
  cases h5 : (ah_rm q.2.2 8 && Nat.ble h.length lim) with
  | false => rw [h5] at hf; cases hf
  | true =>
    rw [h5] at hf
    rw [Bool.and_eq_true] at h5
    have hl2 := Nat.le_of_ble_eq_true h5.2
    have hr := ah_rm_i ad h5.1
    exact va_mmin C.1 C.2.1 (C.2.2.1.trans hl.1.symm) C.2.2.2.1 (C.2.2.2.2.1 _ w1) (C.2.2.2.2.1 _ w2) (C.2.2.2.2.1 _ w3) (C.2.2.2.2.1 _ w4) hR.1 (by omega) (by omega) (by omega) hd (hJ _ _ _ _ hf ad cn ls H locs ha hl hP hD hS hcn)
theorem at_iret (C : ah_C p s m args meth c cc nL own ret s0 D tc A) (hmc : res.2.length ≤ n0 + mc) (hr : ret = some .int) (hd : decode cc pc = .ok (.ireturn, 1)) : ah_Snd (at_G p l e R s m args below meth c nL D tc ad0 A n0 mc res) res pc ah_iret := by
  intro J hJ lv st h hf ad cn ls H locs ha hl hP hD hS hcn
  replace hf := Option.bind_eq_some_iff.mp hf
  obtain ⟨q, hq, hf⟩ := hf
  obtain rfl := ah_p1_i hq
  obtain ⟨x, r⟩ := q
  cases r with
  | nil =>
    have e := Option.some.inj hf
    subst e
    have hmc : h.length ≤ n0 + mc := hmc
    exact W.widen (k := mc) (n := 40 * mc) (by omega) (by omega) (W.iret (v := x) C.1 C.2.1 (C.2.2.2.2.2.2.2.2.2.trans hr) (fun t ht hW => ⟨ad, ha, rfl, by rw [ht]; exact hP, hD, hS.F ht⟩) hS.2.2 hd C.2.2.2.2.2.2.2.2.1)
  | cons v r => cases hf
/-- putfield outside a constructor -/
theorem at_put0 (C : ah_C p s m args meth c cc nL own ret s0 D tc A) {index k : Nat} {cs : List Nat} {ty : FieldType} {v : Value} {a cn sn : Nat} {ad : Nat → Nat} {h h2 : ah_H} {H : Heap} {locs : List Loc} {ls : Array Slot} {rest : List Value} {Q : State → Prop} (hd : decode cc pc = .ok (.putfield index, 3)) (hF : ah_Fp own index cs k ty) (hn : narrow ty (ah_v ad v) = ah_v ad v) (hfit : fits ty (ah_v ad v) = true) (hv : ah_sv h a cs k v = some h2) (hP : va_P D vwCl (ah_w ad tc h) H) (hD : va_D A (ah_w ad tc h)) (hS : va_S A s.heap H locs)
    (kk : ∀ (H1 : Heap) (locs1 : List Loc), va_P D vwCl (ah_w ad tc h2) H1 → va_D A (ah_w ad tc h2) → va_S A s.heap H1 locs1 → W p l e R s m args below meth c H1 locs1 cn sn Q (F0 m (pc + 3) ls rest)) : W p l e R s m args below meth c H locs cn sn Q (F0 m pc ls (ah_v ad v :: .ref (ad a) :: rest)) := by
  obtain ⟨ci, fs, hob, hin, hlt, rfl⟩ := ah_sv_i hv
  obtain ⟨C2, T, N, ref, ty0, h1, h2, h3, h4, h5, h6, h7, h8, h9⟩ := hF ci (ah_in_mem hin)
  have hset : ∀ X : va_E, X = ah_e ad tc (.inr (ci, fs.set k v)) → (ah_w ad tc h).set a (ad a, X) = ah_w ad tc (h.set a (.inr (ci, fs.set k v))) := fun X e => by rw [e]; exact ah_w_set
  have hX : (.inr (ci, (fs.map (ah_v ad)).set k (ah_v ad v)) : va_E) = ah_e ad tc (.inr (ci, fs.set k v)) := by
    show (.inr (ci, (fs.map (ah_v ad)).set k (ah_v ad v)) : va_E) = .inr (ci, (fs.set k v).map (ah_v ad))
    rw [List.map_set]
  refine va_put C.1 C.2.1 C.2.2.2.2.1 h2 ty0 h6 h7 C.2.2.2.1 C.2.2.2.2.2.1 hP hD hS a (ah_w_get hob) h1 k h3 (C.2.2.2.2.1 _ h4) (ah_same C.2.2.2.2.1 h5) h8 h9 hn hfit (by rw [List.length_map]; exact hlt) hd (fun H1 locs1 hP1 hD1 hS1 => ?_)
  have hP1 : va_P D vwCl ((ah_w ad tc h).set a (ad a, .inr (ci, (fs.map (ah_v ad)).set k (ah_v ad v)))) H1 := hP1
  have hD1 : va_D A ((ah_w ad tc h).set a (ad a, .inr (ci, (fs.map (ah_v ad)).set k (ah_v ad v)))) := hD1
  rw [hset _ hX] at hP1 hD1
  exact kk H1 locs1 hP1 hD1 hS1
theorem at_pfi0 (C : ah_C p s m args meth c cc nL own ret s0 D tc A) {index k : Nat} {cs : List Nat} (hd : decode cc pc = .ok (.putfield index, 3)) (hF : ah_Fp own index cs k .int) : ah_Snd (at_G p l e R s m args below meth c nL D tc ad0 A n0 mc res) res pc (ah_pfi cs k (pc + 3)) := by
  intro J hJ lv st h hf ad cn ls H locs ha hl hP hD hS hcn
  replace hf := Option.bind_eq_some_iff.mp hf
  obtain ⟨q, hq, hf⟩ := hf
  obtain rfl := ah_qi_i hq
  replace hf := Option.bind_eq_some_iff.mp hf
  obtain ⟨h2, hh, hf⟩ := hf
  exact at_put0 (v := .int q.2.1) C hd hF rfl rfl hh hP hD hS (fun H locs hP hD hS => hJ _ _ _ _ hf ad cn ls H locs ha hl hP hD hS (by rw [ah_sv_len hh]; exact hcn))
theorem at_pfz0 (C : ah_C p s m args meth c cc nL own ret s0 D tc A) {index k : Nat} {cs : List Nat} (hd : decode cc pc = .ok (.putfield index, 3)) (hF : ah_Fp own index cs k .boolean) : ah_Snd (at_G p l e R s m args below meth c nL D tc ad0 A n0 mc res) res pc (ah_pfz cs k (pc + 3)) := by
  intro J hJ lv st h hf ad cn ls H locs ha hl hP hD hS hcn
  replace hf := Option.bind_eq_some_iff.mp hf
  obtain ⟨q, hq, hf⟩ := hf
  obtain rfl := ah_qi_i hq
  by_cases hz : q.2.1 = 0 ∨ q.2.1 = 1
  · rw [if_pos hz] at hf
    replace hf := Option.bind_eq_some_iff.mp hf
    obtain ⟨h2, hh, hf⟩ := hf
    have kk := fun (H : Heap) (locs : List Loc) (hP : va_P D vwCl (ah_w ad tc h2) H) (hD : va_D A (ah_w ad tc h2)) (hS : va_S A s.heap H locs) => hJ _ _ _ _ hf ad cn ls H locs ha hl hP hD hS (by rw [ah_sv_len hh]; exact hcn)
    obtain ⟨a, b, r⟩ := q
    rcases hz with hz | hz
    · have hz : b = 0 := hz
      subst hz
      exact at_put0 (v := .int 0) C hd hF rfl rfl hh hP hD hS kk
    · have hz : b = 1 := hz
      subst hz
      exact at_put0 (v := .int 1) C hd hF rfl rfl hh hP hD hS kk
  · rw [if_neg hz] at hf; cases hf
/-- behind a call that may make d cells -/
theorem at_after2 {J : ah_J} (hJ : ∀ p0 lv st h, J p0 lv st h = some res → at_G p l e R s m args below meth c nL D tc ad0 A n0 mc res p0 lv st h) {d cn : Nat} {ad : Nat → Nat} {lv : ah_L} {st0 rest : List Value} {h : ah_H} {w : ah_R} {H : Heap} {locs : List Loc} {ls : Array Slot} {a : Array Value} (hk : at_chk h lv rest = true) (hlen : w.2.length = h.length + d) (hcn : cn + n0 = h.length) (ha : at_ag n0 ad0 ad) (hl : lv_has ls nL (ah_lm ad lv)) (hr : va_Run p l e R s m args below meth c H locs cn (40 * cn) d (40 * d) (F0 m pc ls st0) (rest.map (ah_v ad)) (at_Q D tc ad A h.length w a) A) (hS : va_S A s.heap H locs) (hf : J (pc + 3) lv (w.1.toList ++ rest) w.2 = some res) : W p l e R s m args below meth c H locs cn (40 * cn) (MQ below (at_Q D tc ad0 A n0 res) args s mc (40 * mc) A) (F0 m pc ls st0) := by
  intro T hT X
  obtain ⟨v, st₀, t, T', L, h0, X', hL, e1, e2, ⟨ad2, ag, hv, hp, hd, hz, hkk⟩, st⟩ := hr T hT X
  injection hv with hv
  subst hv
  rw [h0] at hz hkk
  obtain ⟨k1, k2, k3⟩ := at_chk_i hk
  have go := hJ _ _ _ _ hf ad2 (cn + d) ls T'.heap (locs ++ L) (fun k hk => by rw [ag k (by omega)]; exact ha k hk) (by rw [at_ok_lm ag k2]; exact hl) (by rw [e1]; exact hp) hd
    ⟨Nat.le_trans hS.1 (by rw [e1]; exact hz), fun q h1 h2 => by rw [e1, hkk q (Nat.lt_of_lt_of_le h1 hS.1) h2]; exact hS.2.1 q h1 h2, fun q hq => by
      rcases List.mem_append.mp hq with h | h
      · exact hS.2.2 q h
      · exact hL q h⟩ (by omega)
  have ev : (w.1.toList ++ rest).map (ah_v ad2) = (w.1.map (ah_v ad2)).toList ++ rest.map (ah_v ad) := by
    rw [List.map_append, at_ok_st ag k3]
    cases w.1 <;> rfl
  rw [ev] at go
  obtain ⟨t2, a1, b1⟩ := go T' rfl (by rw [Nat.mul_add]; exact X')
  exact ⟨t2, st t2 a1, b1⟩
/-- a virtual call on an object of class ci -/
def at_nA (ci : Nat) (F : ah_F) (lim d k n : Nat) : ah_S := fun J lv st h => (ah_pop k [] st).bind fun q => (ah_q1 q.1).bind fun r => (ah_ob h r.1).bind fun o => bif (Nat.beq o.1 ci && ah_rm q.2 8) && (at_chk h lv q.2 && Nat.ble (h.length + d) lim) then (F q.1 h).bind fun w => bif Nat.beq w.2.length (h.length + d) then J n lv (w.1.toList ++ q.2) w.2 else none else none
theorem at_nAG (C : ah_C p s m args meth c cc nL own ret s0 D tc A) (hRc : mc ≤ R.cells ∧ 40 * mc ≤ R.slots) {lim d k ci : Nat} {F : ah_F} (hlim : lim = n0 + mc)
    (run : ∀ (ad : Nat → Nat) (b : Nat) (fs As rest : List Value) (h : ah_H) (w : ah_R) (H : Heap) (locs : List Loc) (ls : Array Slot) (cn : Nat), at_ag n0 ad0 ad → h[b]? = some (.inr (ci, fs)) → F (.ref b :: As) h = some w → As.length + 1 = k → ls.size = nL → (rest.map fun v => v.category).sum ≤ 8 → va_P D vwCl (ah_w ad tc h) H → va_D A (ah_w ad tc h) → va_S A s.heap H locs → cn + d ≤ R.cells ∧ 40 * cn + 40 * d ≤ R.slots → va_Run p l e R s m args below meth c H locs cn (40 * cn) d (40 * d) (F0 m pc ls ((As.map (ah_v ad)).reverse ++ .ref (ad b) :: rest)) rest (at_Q D tc ad A h.length w (Value.ref (ad b) :: As.map (ah_v ad)).toArray) A) : ah_Snd (at_G p l e R s m args below meth c nL D tc ad0 A n0 mc res) res pc (at_nA ci F lim d k (pc + 3)) := by
  intro J hJ lv st h hf ad cn ls H locs ha hl hP hD hS hcn
  replace hf := Option.bind_eq_some_iff.mp hf
  obtain ⟨q, h1, hf⟩ := hf
  replace hf := Option.bind_eq_some_iff.mp hf
  obtain ⟨r, h2, hf⟩ := hf
  replace hf := Option.bind_eq_some_iff.mp hf
  obtain ⟨o, ho, hf⟩ := hf
  cases hb : ((Nat.beq o.1 ci && ah_rm q.2 8) && (at_chk h lv q.2 && Nat.ble (h.length + d) lim)) with
  | false => rw [hb] at hf; cases hf
  | true =>
    rw [hb] at hf
    rw [Bool.and_eq_true, Bool.and_eq_true, Bool.and_eq_true] at hb
    replace hf := Option.bind_eq_some_iff.mp hf
    obtain ⟨w, h6, hf⟩ := hf
    cases h7 : Nat.beq w.2.length (h.length + d) with
    | false => rw [h7] at hf; cases hf
    | true =>
      rw [h7] at hf
      have hf : J (pc + 3) lv (w.1.toList ++ q.2) w.2 = some res := hf
      have h8 : w.2.length = h.length + d := Nat.eq_of_beq_eq_true h7
      have h9 := Nat.le_of_ble_eq_true hb.2.2
      have hci : o.1 = ci := Nat.eq_of_beq_eq_true hb.1.1
      obtain ⟨pre, e1, e2, e3⟩ := ah_pop_i h1
      rw [List.append_nil] at e3
      have e4 := ah_q1_i h2
      have hpre : pre = r.2.reverse ++ [.ref r.1] := by
        have : pre.reverse = .ref r.1 :: r.2 := by rw [← e3]; exact e4
        have := congrArg List.reverse this
        rw [List.reverse_reverse] at this
        rw [this]; simp
      have hst : st.map (ah_v ad) = (r.2.map (ah_v ad)).reverse ++ .ref (ad r.1) :: q.2.map (ah_v ad) := by
        rw [e2, hpre]
        simp [ah_v]
      rw [hst]
      have hk : r.2.length + 1 = k := by rw [← e1, hpre]; simp
      exact at_after2 hJ hb.2.1 h8 hcn ha hl (run ad r.1 o.2 r.2 (q.2.map (ah_v ad)) h w H locs ls cn ha (by rw [ah_ob_i ho, ← hci]) (by rw [← e4]; exact h6) hk hl.1 (ah_rm_i ad hb.1.2) hP hD hS (by omega)) hS hf
theorem at_goodV {idx maxL : Nat} {y : MethodName} {Cn : String} {cc2 : ByteArray} {ret2 : Option FieldType} (w1 : Cond.methodLink own idx y ∈ ah_TT) (w2 : Cond.instanceMethod y ∈ ah_TT) (w3 : Cond.selects Cn y y ∈ ah_TT) (w4 : Cond.initialized Cn ∈ ah_TT) (w5 : Cond.code y cc2 maxL ret2 ∈ ah_TT) : GoodIn ah_TT (wsV own idx Cn y (Cond.code y cc2 maxL ret2 :: ah_TT)) := by
  intro w hw
  have hw2 : w ∈ ah_TT := by
    unfold wsV at hw
    rcases List.mem_append.mp hw with hw | hw
    · rcases List.mem_cons.mp hw with rfl | hw
      · exact w1
      rcases List.mem_cons.mp hw with rfl | hw
      · exact w2
      rcases List.mem_cons.mp hw with rfl | hw
      · exact w3
      rcases List.mem_cons.mp hw with rfl | hw
      · exact w4
      cases hw
    · rcases List.mem_cons.mp hw with rfl | hw
      · exact w5
      · exact hw
  exact ⟨hw2, ah_TT_good hw2⟩
/-- a call that makes nothing -/
theorem at_vN (C : ah_C p s m args meth c cc nL own ret s0 D tc A) (hRc : mc ≤ R.cells ∧ 40 * mc ≤ R.slots) {lim n ci N : Nat} {F : ah_F} (hlim : lim = n0 + mc) {y : MethodName} {cc2 : ByteArray} {maxL fr lo idx : Nat} {ret2 : Option FieldType} {Cn : String} {T : u_T} (hM : ∀ ad, at_ag n0 ad0 ad → ah_Met l s0 D tc ad A y cc2 maxL ret2 fr lo F) (hd : decode cc pc = .ok (.invokevirtual idx, 3)) (hci : vwCl[ci]? = some (Cn, T, N)) (w1 : Cond.methodLink own idx y ∈ ah_TT) (w2 : Cond.instanceMethod y ∈ ah_TT) (w3 : Cond.selects Cn y y ∈ ah_TT) (w4 : Cond.initialized Cn ∈ ah_TT) (w5 : Cond.code y cc2 maxL ret2 ∈ ah_TT) (hdd : y.cls = Cn ∧ y.cls ≠ "java/lang/invoke/MethodHandle" ∧ y.cls ≠ "java/lang/invoke/VarHandle" ∧ (parseMethodDescriptor y.desc).map (fun d => d.parameters.length) = some n) (hR : fr + 1 ≤ R.frames ∧ 8 + (maxL + 11) + lo ≤ R.locals) : ah_Snd (at_G p l e R s m args below meth c nL D tc ad0 A n0 mc res) res pc (at_nA ci F lim 0 (n + 1) (pc + 3)) := by
  refine at_nAG C hRc hlim (fun ad b fs As rest h w H locs ls cn ha hb hF hk hls hrm hP hD hS hroom => ?_)
  have hrun := va_runV (e := e) (below := below) (meth := meth) (locs := locs) (cells := cn) (slots := 40 * cn) (g := F0 m pc ls ((As.map (ah_v ad)).reverse ++ .ref (ad b) :: rest)) (Ts := ah_TT) (As := As.map (ah_v ad)) (rest := rest) ⟨C.1, C.2.1, C.2.2.1, C.2.2.2.1, C.2.2.2.2.1⟩ (hM ad ha _ _ _ hF) (cwV n C.2.2.2.2.1 (at_goodV w1 w2 w3 w4 w5) rfl rfl rfl hdd hR) ⟨ah_blind, va_recv C.2.2.2.2.2.1 hP hci (ah_w_get hb), ah_pre C (as := .ref b :: As) hP hD hS⟩ rfl (by rw [List.length_map]; omega) hls rfl (lv_room hrm) hd hroom
  intro T hT X
  obtain ⟨v, st₀, t, T', L, h0, X', hL, e1, e2, ⟨hv, hp, hdd, hz⟩, st⟩ := hrun T hT X
  exact ⟨v, st₀, t, T', L, h0, X', hL, e1, e2, ⟨ad, fun _ _ => rfl, hv, hp, hdd, hz⟩, st⟩
/-- a call that makes d cells -/
theorem at_vA (C : ah_C p s m args meth c cc nL own ret s0 D tc A) (hA2 : ∀ q, s.heap.size ≤ q → A q) (hRc : mc ≤ R.cells ∧ 40 * mc ≤ R.slots) {lim d n ci N : Nat} {F : ah_F} (hlim : lim = n0 + mc) {y : MethodName} {cc2 : ByteArray} {maxL fr lo idx : Nat} {ret2 : Option FieldType} {Cn : String} {T : u_T} {I : (Nat → Nat) → Prop} (hM : at_Met l s0 D tc A y cc2 maxL ret2 fr lo d I F) (hI : ∀ ad, at_ag n0 ad0 ad → I ad) (hd : decode cc pc = .ok (.invokevirtual idx, 3)) (hci : vwCl[ci]? = some (Cn, T, N)) (w1 : Cond.methodLink own idx y ∈ ah_TT) (w2 : Cond.instanceMethod y ∈ ah_TT) (w3 : Cond.selects Cn y y ∈ ah_TT) (w4 : Cond.initialized Cn ∈ ah_TT) (w5 : Cond.code y cc2 maxL ret2 ∈ ah_TT) (hdd : y.cls = Cn ∧ y.cls ≠ "java/lang/invoke/MethodHandle" ∧ y.cls ≠ "java/lang/invoke/VarHandle" ∧ (parseMethodDescriptor y.desc).map (fun d => d.parameters.length) = some n) (hR : fr + 1 ≤ R.frames ∧ 8 + (maxL + 11) + lo ≤ R.locals) : ah_Snd (at_G p l e R s m args below meth c nL D tc ad0 A n0 mc res) res pc (at_nA ci F lim d (n + 1) (pc + 3)) := by
  refine at_nAG C hRc hlim (fun ad b fs As rest h w H locs ls cn ha hb hF hk hls hrm hP hD hS hroom => ?_)
  exact va_runV (e := e) (below := below) (meth := meth) (locs := locs) (cells := cn) (slots := 40 * cn) (g := F0 m pc ls ((As.map (ah_v ad)).reverse ++ .ref (ad b) :: rest)) (Ts := ah_TT) (As := As.map (ah_v ad)) (rest := rest) ⟨C.1, C.2.1, C.2.2.1, C.2.2.2.1, C.2.2.2.2.1⟩ (hM ad _ _ _ (hI ad ha) hF) (cwV n C.2.2.2.2.1 (at_goodV w1 w2 w3 w4 w5) rfl rfl rfl hdd hR) ⟨at_blind, va_recv C.2.2.2.2.2.1 hP hci (ah_w_get hb), at_pre C hA2 (as := .ref b :: As) hP hD hS⟩ rfl (by rw [List.length_map]; omega) hls rfl (lv_room hrm) hd hroom
/-- an object of a kind into the row of singles -/
def at_N1 (s0 : State) : Prop := va_Nw (.castable RX1 RX8) s0 ∧ va_Nw (.castable RX3 RX8) s0 ∧ va_Nw (.castable RX5 RX8) s0 ∧ va_Nw (.castable RX9 RX8) s0
def at_ast2 (n : Nat) : ah_S := fun J lv st h => (at_qri st).bind fun q => (ah_ar h q.1 2).bind fun w => (ah_ob h q.2.2.1).bind fun o => if ah_in o.1 [1, 3, 5, 8, 9] = true ∧ ¬ (q.2.1 < 0 ∨ w.1 ≤ q.2.1.toNatClampNeg) then J n lv q.2.2.2 (h.set q.1 (.inl (2, w.1, .inr (va_up w.2 q.2.1.toNatClampNeg (some q.2.2.1))))) else none
theorem at_aast2 (C : ah_C p s m args meth c cc nL own ret s0 D tc A) (hN : at_N1 s0) (hd : decode cc pc = .ok (.aastore, 1)) : ah_Snd (at_G p l e R s m args below meth c nL D tc ad0 A n0 mc res) res pc (at_ast2 (pc + 1)) := by
  intro J hJ lv st h hf ad cn ls H locs ha hl hP hD hS hcn
  replace hf := Option.bind_eq_some_iff.mp hf
  obtain ⟨q, hq, hf⟩ := hf
  obtain rfl := at_qri_i hq
  replace hf := Option.bind_eq_some_iff.mp hf
  obtain ⟨w, hw, hf⟩ := hf
  replace hf := Option.bind_eq_some_iff.mp hf
  obtain ⟨o, ho, hf⟩ := hf
  by_cases hz : ah_in o.1 [1, 3, 5, 8, 9] = true ∧ ¬ (q.2.1 < 0 ∨ w.1 ≤ q.2.1.toNatClampNeg)
  · rw [if_pos hz] at hf
    obtain ⟨hz1, hz2⟩ := hz
    have ho2 := ah_ob_i ho
    have fin : ∀ (H1 : Heap) (locs1 : List Loc), va_P D vwCl ((ah_w ad tc h).set q.1 (ad q.1, .inl (tc 2, w.1, .inr (.inr (.inr (.inr (va_up (fun j => (w.2 j).map ad) q.2.1.toNatClampNeg (some (ad q.2.2.1))))))))) H1 → va_D A ((ah_w ad tc h).set q.1 (ad q.1, .inl (tc 2, w.1, .inr (.inr (.inr (.inr (va_up (fun j => (w.2 j).map ad) q.2.1.toNatClampNeg (some (ad q.2.2.1))))))))) → va_S A s.heap H1 locs1 → W p l e R s m args below meth c H1 locs1 cn (40 * cn) (MQ below (at_Q D tc ad0 A n0 res) args s mc (40 * mc) A) (F0 m (pc + 1) ls (q.2.2.2.map (ah_v ad))) := fun H1 locs1 hP1 hD1 hS1 => by
      have e1 : (.inl (tc 2, w.1, .inr (.inr (.inr (.inr (va_up (fun j => (w.2 j).map ad) q.2.1.toNatClampNeg (some (ad q.2.2.1))))))) : va_E) = ah_e ad tc (.inl (2, w.1, .inr (va_up w.2 q.2.1.toNatClampNeg (some q.2.2.1)))) := by
        show (.inl (tc 2, w.1, .inr (.inr (.inr (.inr (va_up (fun j => (w.2 j).map ad) q.2.1.toNatClampNeg (some (ad q.2.2.1))))))) : va_E) = .inl (tc 2, w.1, .inr (.inr (.inr (.inr (fun j => (va_up w.2 q.2.1.toNatClampNeg (some q.2.2.1) j).map ad)))))
        have : va_up (fun j => (w.2 j).map ad) q.2.1.toNatClampNeg (some (ad q.2.2.1)) = fun j => (va_up w.2 q.2.1.toNatClampNeg (some q.2.2.1) j).map ad := by
          funext j
          rw [va_l, va_l]
          split <;> rfl
        rw [this]
      rw [e1, ah_w_set] at hP1 hD1
      exact hJ _ _ _ _ hf ad cn ls H1 locs1 ha hl hP1 hD1 hS1 (by rw [List.length_set]; exact hcn)
    have hwm := C.2.2.2.2.2.2.1.1
    have hmem := ah_in_mem hz1
    simp only [List.mem_cons, List.not_mem_nil, or_false] at hmem
    rcases hmem with e1 | e1 | e1 | e1 | e1
    · exact va_astqO (r := (RX1, TX1, 4)) (E := RX8) C.1 C.2.1 C.2.2.2.2.2.1 hP hD hS q.1 2 q.2.2.1 1 (ah_w_get (ah_ar_i hw)) rfl (va_Nw.warmC hwm hN.1) (ah_w_get (show h[q.2.2.1]? = some (.inr (1, o.2)) by rw [ho2, ← e1])) rfl hz2 hd fin
    · exact va_astqO (r := (RX3, TX3, 4)) (E := RX8) C.1 C.2.1 C.2.2.2.2.2.1 hP hD hS q.1 2 q.2.2.1 3 (ah_w_get (ah_ar_i hw)) rfl (va_Nw.warmC hwm hN.2.1) (ah_w_get (show h[q.2.2.1]? = some (.inr (3, o.2)) by rw [ho2, ← e1])) rfl hz2 hd fin
    · exact va_astqO (r := (RX5, TX5, 4)) (E := RX8) C.1 C.2.1 C.2.2.2.2.2.1 hP hD hS q.1 2 q.2.2.1 5 (ah_w_get (ah_ar_i hw)) rfl (va_Nw.warmC hwm hN.2.2.1) (ah_w_get (show h[q.2.2.1]? = some (.inr (5, o.2)) by rw [ho2, ← e1])) rfl hz2 hd fin
    · exact va_astq (r := (RX8, TX8, 4)) C.1 C.2.1 C.2.2.2.2.2.1 hP hD hS q.1 2 q.2.2.1 8 (ah_w_get (ah_ar_i hw)) rfl (ah_w_get (show h[q.2.2.1]? = some (.inr (8, o.2)) by rw [ho2, ← e1])) rfl hz2 hd fin
    · exact va_astqO (r := (RX9, TX9, 4)) (E := RX8) C.1 C.2.1 C.2.2.2.2.2.1 hP hD hS q.1 2 q.2.2.1 9 (ah_w_get (ah_ar_i hw)) rfl (va_Nw.warmC hwm hN.2.2.2) (ah_w_get (show h[q.2.2.1]? = some (.inr (9, o.2)) by rw [ho2, ← e1])) rfl hz2 hd fin
  · rw [if_neg hz] at hf; cases hf
def at_rR : Option ah_R → Option (Nat × ah_H) := fun o => match o with
  | some (some (.ref x), h) => some (x, h)
  | _ => none
theorem at_rR_i {o : Option ah_R} {q : Nat × ah_H} (h : at_rR o = some q) : o = some (some (.ref q.1), q.2) := by
  unfold at_rR at h
  split at h
  · cases h; rfl
  · cases h
def at_nI (ci : Nat) (F : ah_F) (lim d k n : Nat) : ah_S := fun J lv st h => (ah_pop k [] st).bind fun q => (ah_q1 q.1).bind fun r => (ah_ob h r.1).bind fun o => bif (Nat.beq o.1 ci && ah_rm q.2 8) && (at_chk h lv q.2 && Nat.ble (h.length + d) lim) then (ah_rI (F q.1 h)).bind fun w => bif Nat.beq w.2.length (h.length + d) then J n lv (.int w.1 :: q.2) w.2 else none else none
def at_nV (ci : Nat) (F : ah_F) (lim d k n : Nat) : ah_S := fun J lv st h => (ah_pop k [] st).bind fun q => (ah_q1 q.1).bind fun r => (ah_ob h r.1).bind fun o => bif (Nat.beq o.1 ci && ah_rm q.2 8) && (at_chk h lv q.2 && Nat.ble (h.length + d) lim) then (ah_rV (F q.1 h)).bind fun w => bif Nat.beq w.length (h.length + d) then J n lv q.2 w else none else none
def at_nR (ci : Nat) (F : ah_F) (lim d k n : Nat) : ah_S := fun J lv st h => (ah_pop k [] st).bind fun q => (ah_q1 q.1).bind fun r => (ah_ob h r.1).bind fun o => bif (Nat.beq o.1 ci && ah_rm q.2 8) && (at_chk h lv q.2 && Nat.ble (h.length + d) lim) then (at_rR (F q.1 h)).bind fun w => bif Nat.beq w.2.length (h.length + d) then J n lv (.ref w.1 :: q.2) w.2 else none else none
theorem at_of {G : Nat → ah_L → List Value → ah_H → Prop} {f1 f2 : ah_S} (hh : ∀ J lv st h, f1 J lv st h = some res → f2 J lv st h = some res) (hs : ah_Snd G res pc f2) : ah_Snd G res pc f1 := fun J hJ lv st h hf => hs J hJ lv st h (hh J lv st h hf)
theorem at_ofI {G : Nat → ah_L → List Value → ah_H → Prop} {ci lim d k n : Nat} {F : ah_F} (hs : ah_Snd G res pc (at_nA ci F lim d k n)) : ah_Snd G res pc (at_nI ci F lim d k n) := at_of (fun J lv st h hf => by
  obtain ⟨q, h1, hf⟩ := Option.bind_eq_some_iff.mp hf
  obtain ⟨r, h2, hf⟩ := Option.bind_eq_some_iff.mp hf
  obtain ⟨o, h3, hf⟩ := Option.bind_eq_some_iff.mp hf
  unfold at_nA
  rw [h1, Option.bind_some, h2, Option.bind_some, h3, Option.bind_some]
  cases hb : ((Nat.beq o.1 ci && ah_rm q.2 8) && (at_chk h lv q.2 && Nat.ble (h.length + d) lim)) with
  | false => rw [hb] at hf; cases hf
  | true =>
    rw [hb] at hf
    obtain ⟨w, h4, hf⟩ := Option.bind_eq_some_iff.mp hf
    rw [cond_true, ah_rI_i h4, Option.bind_some]
    exact hf) hs
theorem at_ofV {G : Nat → ah_L → List Value → ah_H → Prop} {ci lim d k n : Nat} {F : ah_F} (hs : ah_Snd G res pc (at_nA ci F lim d k n)) : ah_Snd G res pc (at_nV ci F lim d k n) := at_of (fun J lv st h hf => by
  obtain ⟨q, h1, hf⟩ := Option.bind_eq_some_iff.mp hf
  obtain ⟨r, h2, hf⟩ := Option.bind_eq_some_iff.mp hf
  obtain ⟨o, h3, hf⟩ := Option.bind_eq_some_iff.mp hf
  unfold at_nA
  rw [h1, Option.bind_some, h2, Option.bind_some, h3, Option.bind_some]
  cases hb : ((Nat.beq o.1 ci && ah_rm q.2 8) && (at_chk h lv q.2 && Nat.ble (h.length + d) lim)) with
  | false => rw [hb] at hf; cases hf
  | true =>
    rw [hb] at hf
    obtain ⟨w, h4, hf⟩ := Option.bind_eq_some_iff.mp hf
    rw [cond_true, ah_rV_i h4, Option.bind_some]
    exact hf) hs
theorem at_ofR {G : Nat → ah_L → List Value → ah_H → Prop} {ci lim d k n : Nat} {F : ah_F} (hs : ah_Snd G res pc (at_nA ci F lim d k n)) : ah_Snd G res pc (at_nR ci F lim d k n) := at_of (fun J lv st h hf => by
  obtain ⟨q, h1, hf⟩ := Option.bind_eq_some_iff.mp hf
  obtain ⟨r, h2, hf⟩ := Option.bind_eq_some_iff.mp hf
  obtain ⟨o, h3, hf⟩ := Option.bind_eq_some_iff.mp hf
  unfold at_nA
  rw [h1, Option.bind_some, h2, Option.bind_some, h3, Option.bind_some]
  cases hb : ((Nat.beq o.1 ci && ah_rm q.2 8) && (at_chk h lv q.2 && Nat.ble (h.length + d) lim)) with
  | false => rw [hb] at hf; cases hf
  | true =>
    rw [hb] at hf
    obtain ⟨w, h4, hf⟩ := Option.bind_eq_some_iff.mp hf
    rw [cond_true, at_rR_i h4, Option.bind_some]
    exact hf) hs
end ATU
