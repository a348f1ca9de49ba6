/-! the heap's steps, returns, switches, calls -/
theorem ah_fv_i {h : ah_H} {a k : Nat} {cs : List Nat} {v : Value} (e : ah_fv h a cs k = some v) : ∃ (ci : Nat) (fs : List Value), h[a]? = some (.inr (ci, fs)) ∧ ah_in ci cs = true ∧ fs[k]? = some v := by
  obtain ⟨q, hq, e⟩ := Option.bind_eq_some_iff.mp e
  cases hb : ah_in q.1 cs with
  | true => rw [hb] at e; exact ⟨q.1, q.2, ah_ob_i hq, hb, e⟩
  | false => rw [hb] at e; cases e
theorem ah_sv_i {h h2 : ah_H} {a k : Nat} {cs : List Nat} {v : Value} (e : ah_sv h a cs k v = some h2) : ∃ (ci : Nat) (fs : List Value), h[a]? = some (.inr (ci, fs)) ∧ ah_in ci cs = true ∧ k < fs.length ∧ h2 = h.set a (.inr (ci, fs.set k v)) := by
  obtain ⟨q, hq, e⟩ := Option.bind_eq_some_iff.mp e
  cases hb : (ah_in q.1 cs && Nat.blt k q.2.length) with
  | true =>
    rw [hb] at e
    rw [Bool.and_eq_true] at hb
    exact ⟨q.1, q.2, ah_ob_i hq, hb.1, Nat.le_of_ble_eq_true hb.2, (Option.some.inj e).symm⟩
  | false => rw [hb] at e; cases e
theorem ah_rd_i {f : Nat → Int32} {n : Nat} {i x : Int32} (e : ah_rd f n i = some x) : vp_in i n ∧ x = f i.toNatClampNeg := by
  unfold ah_rd at e
  by_cases hc : i < 0 ∨ n ≤ i.toNatClampNeg
  · rw [if_pos hc] at e; cases e
  · rw [if_neg hc] at e; exact ⟨hc, (Option.some.inj e).symm⟩
theorem ah_wr_i {f g : Nat → Int32} {n : Nat} {i x : Int32} (e : ah_wr f n i x = some g) : vp_in i n ∧ g = upd f i.toNatClampNeg x := by
  unfold ah_wr at e
  by_cases hc : i < 0 ∨ n ≤ i.toNatClampNeg
  · rw [if_pos hc] at e; cases e
  · rw [if_neg hc] at e; exact ⟨hc, (Option.some.inj e).symm⟩
theorem ah_rr_i {f : Nat → Option Nat} {n : Nat} {i : Int32} {x : Nat} (e : ah_rr f n i = some x) : vp_in i n ∧ f i.toNatClampNeg = some x := by
  unfold ah_rr at e
  by_cases hc : i < 0 ∨ n ≤ i.toNatClampNeg
  · rw [if_pos hc] at e; cases e
  · rw [if_neg hc] at e; exact ⟨hc, e⟩
/-- a field that the classes cs have in slot k, as the entry 'index' of the pool of 'own' names it -/
def ah_Fg (own : String) (index : Nat) (cs : List Nat) (k : Nat) : Prop := ∀ ci : Nat, ci ∈ cs → ∃ (C : String) (T : u_T) (N : Nat) (ref : String), vwCl[ci]? = some (C, T, N) ∧ (∀ w ∈ u_ws C T N, w ∈ ah_TT) ∧ k < N ∧ Cond.fieldLink own index ref (T k).2.1 (T k).2.2.1 ∈ ah_TT ∧ (ref = (T k).1 ∨ Cond.sameField ref (T k).1 (T k).2.1 (T k).2.2.1 ∈ ah_TT)
def ah_Fp (own : String) (index : Nat) (cs : List Nat) (k : Nat) (ty : FieldType) : Prop := ∀ ci : Nat, ci ∈ cs → ∃ (C : String) (T : u_T) (N : Nat) (ref : String) (ty0 : Nat → FieldType), vwCl[ci]? = some (C, T, N) ∧ (∀ w ∈ u_ws C T N, w ∈ ah_TT) ∧ k < N ∧ Cond.fieldLink own index ref (T k).2.1 (T k).2.2.1 ∈ ah_TT ∧ (ref = (T k).1 ∨ Cond.sameField ref (T k).1 (T k).2.1 (T k).2.2.1 ∈ ah_TT) ∧ (∀ k, k < N → parseFieldDescriptor (T k).2.2.1 = some (ty0 k)) ∧ (∀ a, a < N → ∀ b, b < N → a ≠ b → (T a).2.1 ≠ (T b).2.1) ∧ (T k).2.2.2 = false ∧ parseFieldDescriptor (T k).2.2.1 = some ty
theorem ah_same {ref own n d : String} {args : Array Value} {s : State} (hts : ∀ w ∈ ah_TT, w.before args s = true) (h : ref = own ∨ Cond.sameField ref own n d ∈ ah_TT) : ∀ x, s.fieldFound? own n d = some x → s.fieldFound? ref n d = some x := by
  intro x hx
  rcases h with rfl | h
  · exact hx
  · exact u_same (hts _ h) x hx
section AHT
variable {p : Program} {l : Launch} {e : Env} {R : Room} {s : State} {m : MethodId} {args : Array Value} {below : List Frame} {meth : Method} {c : Code} {cc : ByteArray} {nL : Nat} {own : String} {ret : Option FieldType} {s0 : State} {D : va_G} {tc : Nat → ClassId} {ad : Nat → Nat} {A : Nat → Prop} {res : ah_R} {pc : Nat}
theorem as_gfi (C : ah_C p s m args meth c cc nL own ret s0 D tc A) {index k : Nat} {cs : List Nat} (hd : decode cc pc = .ok (.getfield index, 3)) (hF : ah_Fg own index cs k) : ah_Snd (ah_G p l e R s m args below meth c nL D tc ad A res) res pc (ah_gfi cs k (pc + 3)) := by
  intro J hJ lv st h hf ls H locs hl hP hD hS
  replace hf := Option.bind_eq_some_iff.mp hf
  obtain ⟨q, hq, hf⟩ := hf
  obtain rfl := ah_q1_i hq
  replace hf := Option.bind_eq_some_iff.mp hf
  obtain ⟨x, hx, hf⟩ := hf
  obtain ⟨ci, fs, hob, hin, hfk⟩ := ah_fv_i (ah_aI_i hx)
  obtain ⟨C2, T, N, ref, h1, h2, h3, h4, h5⟩ := hF ci (ah_in_mem hin)
  exact va_get (v := .int x) C.1 C.2.1 C.2.2.2.2.1 h2 C.2.2.2.1 C.2.2.2.2.2.1 hP q.1 (ah_w_get hob) h1 k h3 (C.2.2.2.2.1 _ h4) (ah_same C.2.2.2.2.1 h5) (by rw [List.getElem?_map, hfk]; rfl) hd (hJ _ _ _ _ hf ls H locs hl hP hD hS)
theorem as_gfl (C : ah_C p s m args meth c cc nL own ret s0 D tc A) {index k : Nat} {cs : List Nat} (hd : decode cc pc = .ok (.getfield index, 3)) (hF : ah_Fg own index cs k) : ah_Snd (ah_G p l e R s m args below meth c nL D tc ad A res) res pc (ah_gfl cs k (pc + 3)) := by
  intro J hJ lv st h hf ls H locs hl hP hD hS
  replace hf := Option.bind_eq_some_iff.mp hf
  obtain ⟨q, hq, hf⟩ := hf
  obtain rfl := ah_q1_i hq
  replace hf := Option.bind_eq_some_iff.mp hf
  obtain ⟨x, hx, hf⟩ := hf
  obtain ⟨ci, fs, hob, hin, hfk⟩ := ah_fv_i (ah_aL_i hx)
  obtain ⟨C2, T, N, ref, h1, h2, h3, h4, h5⟩ := hF ci (ah_in_mem hin)
  exact va_get (v := .long x) C.1 C.2.1 C.2.2.2.2.1 h2 C.2.2.2.1 C.2.2.2.2.2.1 hP q.1 (ah_w_get hob) h1 k h3 (C.2.2.2.2.1 _ h4) (ah_same C.2.2.2.2.1 h5) (by rw [List.getElem?_map, hfk]; rfl) hd (hJ _ _ _ _ hf ls H locs hl hP hD hS)
theorem as_gfr (C : ah_C p s m args meth c cc nL own ret s0 D tc A) {index k : Nat} {cs : List Nat} (hd : decode cc pc = .ok (.getfield index, 3)) (hF : ah_Fg own index cs k) : ah_Snd (ah_G p l e R s m args below meth c nL D tc ad A res) res pc (ah_gfr cs k (pc + 3)) := by
  intro J hJ lv st h hf ls H locs hl hP hD hS
  replace hf := Option.bind_eq_some_iff.mp hf
  obtain ⟨q, hq, hf⟩ := hf
  obtain rfl := ah_q1_i hq
  replace hf := Option.bind_eq_some_iff.mp hf
  obtain ⟨x, hx, hf⟩ := hf
  obtain ⟨ci, fs, hob, hin, hfk⟩ := ah_fv_i (ah_aR_i hx)
  obtain ⟨C2, T, N, ref, h1, h2, h3, h4, h5⟩ := hF ci (ah_in_mem hin)
  exact va_get (v := .ref (ad x)) C.1 C.2.1 C.2.2.2.2.1 h2 C.2.2.2.1 C.2.2.2.2.2.1 hP q.1 (ah_w_get hob) h1 k h3 (C.2.2.2.2.1 _ h4) (ah_same C.2.2.2.2.1 h5) (by rw [List.getElem?_map, hfk]; rfl) hd (hJ _ _ _ _ hf ls H locs hl hP hD hS)
theorem ah_put (C : ah_C p s m args meth c cc nL own ret s0 D tc A) {index k : Nat} {cs : List Nat} {ty : FieldType} {v : Value} {a : Nat} {h h2 : ah_H} {H : Heap} {locs : List Loc} {ls : Array Slot} {rest : List Value} {Q : State → Prop} (hd : decode cc pc = .ok (.putfield index, 3)) (hF : ah_Fp own index cs k ty) (hn : narrow ty (ah_v ad v) = ah_v ad v) (hfit : fits ty (ah_v ad v) = true) (hv : ah_sv h a cs k v = some h2) (hP : va_P D vwCl (ah_w ad tc h) H) (hD : va_D A (ah_w ad tc h)) (hS : va_S A s.heap H locs)
    (kk : ∀ (H1 : Heap) (locs1 : List Loc), va_P D vwCl (ah_w ad tc h2) H1 → va_D A (ah_w ad tc h2) → va_S A s.heap H1 locs1 → W p l e R s m args below meth c H1 locs1 0 0 Q (F0 m (pc + 3) ls rest)) : W p l e R s m args below meth c H locs 0 0 Q (F0 m pc ls (ah_v ad v :: .ref (ad a) :: rest)) := by
  obtain ⟨ci, fs, hob, hin, hlt, rfl⟩ := ah_sv_i hv
  obtain ⟨C2, T, N, ref, ty0, h1, h2, h3, h4, h5, h6, h7, h8, h9⟩ := hF ci (ah_in_mem hin)
  have hset : ∀ X : va_E, X = ah_e ad tc (.inr (ci, fs.set k v)) → (ah_w ad tc h).set a (ad a, X) = ah_w ad tc (h.set a (.inr (ci, fs.set k v))) := fun X e => by rw [e]; exact ah_w_set
  have hX : (.inr (ci, (fs.map (ah_v ad)).set k (ah_v ad v)) : va_E) = ah_e ad tc (.inr (ci, fs.set k v)) := by
    show (.inr (ci, (fs.map (ah_v ad)).set k (ah_v ad v)) : va_E) = .inr (ci, (fs.set k v).map (ah_v ad))
    rw [List.map_set]
  refine va_put C.1 C.2.1 C.2.2.2.2.1 h2 ty0 h6 h7 C.2.2.2.1 C.2.2.2.2.2.1 hP hD hS a (ah_w_get hob) h1 k h3 (C.2.2.2.2.1 _ h4) (ah_same C.2.2.2.2.1 h5) h8 h9 hn hfit (by rw [List.length_map]; exact hlt) hd (fun H1 locs1 hP1 hD1 hS1 => ?_)
  have hP1 : va_P D vwCl ((ah_w ad tc h).set a (ad a, .inr (ci, (fs.map (ah_v ad)).set k (ah_v ad v)))) H1 := hP1
  have hD1 : va_D A ((ah_w ad tc h).set a (ad a, .inr (ci, (fs.map (ah_v ad)).set k (ah_v ad v)))) := hD1
  rw [hset _ hX] at hP1 hD1
  exact kk H1 locs1 hP1 hD1 hS1
theorem as_pfi (C : ah_C p s m args meth c cc nL own ret s0 D tc A) {index k : Nat} {cs : List Nat} (hd : decode cc pc = .ok (.putfield index, 3)) (hF : ah_Fp own index cs k .int) : ah_Snd (ah_G p l e R s m args below meth c nL D tc ad A res) res pc (ah_pfi cs k (pc + 3)) := by
  intro J hJ lv st h hf ls H locs hl hP hD hS
  replace hf := Option.bind_eq_some_iff.mp hf
  obtain ⟨q, hq, hf⟩ := hf
  obtain rfl := ah_qi_i hq
  replace hf := Option.bind_eq_some_iff.mp hf
  obtain ⟨h2, hh, hf⟩ := hf
  exact ah_put (v := .int q.2.1) C hd hF rfl rfl hh hP hD hS (fun H locs hP hD hS => hJ _ _ _ _ hf ls H locs hl hP hD hS)
theorem as_pfz (C : ah_C p s m args meth c cc nL own ret s0 D tc A) {index k : Nat} {cs : List Nat} (hd : decode cc pc = .ok (.putfield index, 3)) (hF : ah_Fp own index cs k .boolean) : ah_Snd (ah_G p l e R s m args below meth c nL D tc ad A res) res pc (ah_pfz cs k (pc + 3)) := by
  intro J hJ lv st h hf ls H locs hl hP hD hS
  replace hf := Option.bind_eq_some_iff.mp hf
  obtain ⟨q, hq, hf⟩ := hf
  obtain rfl := ah_qi_i hq
  by_cases hz : q.2.1 = 0 ∨ q.2.1 = 1
  · rw [if_pos hz] at hf
    replace hf := Option.bind_eq_some_iff.mp hf
    obtain ⟨h2, hh, hf⟩ := hf
    exact ah_put (v := .int q.2.1) C hd hF (by rcases hz with z | z <;> rw [z] <;> rfl) (by rcases hz with z | z <;> rw [z] <;> rfl) hh hP hD hS (fun H locs hP hD hS => hJ _ _ _ _ hf ls H locs hl hP hD hS)
  · rw [if_neg hz] at hf; cases hf
theorem as_pfl (C : ah_C p s m args meth c cc nL own ret s0 D tc A) {index k : Nat} {cs : List Nat} (hd : decode cc pc = .ok (.putfield index, 3)) (hF : ah_Fp own index cs k .long) : ah_Snd (ah_G p l e R s m args below meth c nL D tc ad A res) res pc (ah_pfl cs k (pc + 3)) := by
  intro J hJ lv st h hf ls H locs hl hP hD hS
  replace hf := Option.bind_eq_some_iff.mp hf
  obtain ⟨q, hq, hf⟩ := hf
  obtain rfl := ah_ql_i hq
  replace hf := Option.bind_eq_some_iff.mp hf
  obtain ⟨h2, hh, hf⟩ := hf
  exact ah_put (v := .long q.2.1) C hd hF rfl rfl hh hP hD hS (fun H locs hP hD hS => hJ _ _ _ _ hf ls H locs hl hP hD hS)
theorem as_iald (C : ah_C p s m args meth c cc nL own ret s0 D tc A) (hd : decode cc pc = .ok (.iaload, 1)) : ah_Snd (ah_G p l e R s m args below meth c nL D tc ad A res) res pc (ah_iald 0 (pc + 1)) := by
  intro J hJ lv st h hf ls H locs hl hP hD hS
  replace hf := Option.bind_eq_some_iff.mp hf
  obtain ⟨q, hq, hf⟩ := hf
  obtain rfl := ah_qi_i hq
  replace hf := Option.bind_eq_some_iff.mp hf
  obtain ⟨x, hx, hf⟩ := hf
  obtain ⟨w, hw, hx⟩ := Option.bind_eq_some_iff.mp hx
  obtain ⟨hin, rfl⟩ := ah_rd_i hx
  exact va_iald C.1 C.2.1 C.2.2.2.2.2.1 hP q.1 0 (ah_w_get (ah_ai_i hw)) rfl hin hd (hJ _ _ _ _ hf ls H locs hl hP hD hS)
theorem as_zald (C : ah_C p s m args meth c cc nL own ret s0 D tc A) (hd : decode cc pc = .ok (.baload, 1)) : ah_Snd (ah_G p l e R s m args below meth c nL D tc ad A res) res pc (ah_iald 1 (pc + 1)) := by
  intro J hJ lv st h hf ls H locs hl hP hD hS
  replace hf := Option.bind_eq_some_iff.mp hf
  obtain ⟨q, hq, hf⟩ := hf
  obtain rfl := ah_qi_i hq
  replace hf := Option.bind_eq_some_iff.mp hf
  obtain ⟨x, hx, hf⟩ := hf
  obtain ⟨w, hw, hx⟩ := Option.bind_eq_some_iff.mp hx
  obtain ⟨hin, rfl⟩ := ah_rd_i hx
  exact va_zald C.1 C.2.1 C.2.2.2.2.2.1 hP q.1 1 (ah_w_get (ah_ai_i hw)) rfl hin hd (hJ _ _ _ _ hf ls H locs hl hP hD hS)
theorem as_iast (C : ah_C p s m args meth c cc nL own ret s0 D tc A) (hd : decode cc pc = .ok (.iastore, 1)) : ah_Snd (ah_G p l e R s m args below meth c nL D tc ad A res) res pc (ah_iast (pc + 1)) := by
  intro J hJ lv st h hf ls H locs hl hP hD hS
  replace hf := Option.bind_eq_some_iff.mp hf
  obtain ⟨q, hq, hf⟩ := hf
  obtain rfl := ah_qii_i hq
  replace hf := Option.bind_eq_some_iff.mp hf
  obtain ⟨h2, hh, hf⟩ := hf
  obtain ⟨w, hw, hh⟩ := Option.bind_eq_some_iff.mp hh
  obtain ⟨f2, hx, hh⟩ := Option.bind_eq_some_iff.mp hh
  obtain rfl := Option.some.inj hh
  obtain ⟨hin, rfl⟩ := ah_wr_i hx
  refine va_iast C.1 C.2.1 C.2.2.2.2.2.1 hP hD hS q.1 0 (ah_w_get (ah_ai_i hw)) rfl hin hd (fun H1 locs1 hP1 hD1 hS1 => ?_)
  have hs : (ah_w ad tc h).set q.1 (ad q.1, .inl (tc 0, w.1, .inl (upd w.2 q.2.1.toNatClampNeg q.2.2.1))) = ah_w ad tc (h.set q.1 (.inl (0, w.1, .inl (upd w.2 q.2.1.toNatClampNeg q.2.2.1)))) := ah_w_set (e := .inl (0, w.1, .inl (upd w.2 q.2.1.toNatClampNeg q.2.2.1)))
  rw [hs] at hP1 hD1
  exact hJ _ _ _ _ hf ls H1 locs1 hl hP1 hD1 hS1
theorem as_zast (C : ah_C p s m args meth c cc nL own ret s0 D tc A) (hd : decode cc pc = .ok (.bastore, 1)) : ah_Snd (ah_G p l e R s m args below meth c nL D tc ad A res) res pc (ah_zast (pc + 1)) := by
  intro J hJ lv st h hf ls H locs hl hP hD hS
  replace hf := Option.bind_eq_some_iff.mp hf
  obtain ⟨q, hq, hf⟩ := hf
  obtain rfl := ah_qii_i hq
  by_cases hz : q.2.2.1 = 0 ∨ q.2.2.1 = 1
  · rw [if_pos hz] at hf
    replace hf := Option.bind_eq_some_iff.mp hf
    obtain ⟨h2, hh, hf⟩ := hf
    obtain ⟨w, hw, hh⟩ := Option.bind_eq_some_iff.mp hh
    obtain ⟨f2, hx, hh⟩ := Option.bind_eq_some_iff.mp hh
    obtain rfl := Option.some.inj hh
    obtain ⟨hin, rfl⟩ := ah_wr_i hx
    refine va_zast C.1 C.2.1 C.2.2.2.2.2.1 hP hD hS q.1 1 (ah_w_get (ah_ai_i hw)) rfl hin hd (fun H1 locs1 hP1 hD1 hS1 => ?_)
    have hn : vp_nar .boolean q.2.2.1 = q.2.2.1 := by rcases hz with z | z <;> rw [z] <;> rfl
    rw [hn] at hP1 hD1
    have hs : (ah_w ad tc h).set q.1 (ad q.1, .inl (tc 1, w.1, .inl (upd w.2 q.2.1.toNatClampNeg q.2.2.1))) = ah_w ad tc (h.set q.1 (.inl (1, w.1, .inl (upd w.2 q.2.1.toNatClampNeg q.2.2.1)))) := ah_w_set (e := .inl (1, w.1, .inl (upd w.2 q.2.1.toNatClampNeg q.2.2.1)))
    rw [hs] at hP1 hD1
    exact hJ _ _ _ _ hf ls H1 locs1 hl hP1 hD1 hS1
  · rw [if_neg hz] at hf; cases hf
theorem as_aald (C : ah_C p s m args meth c cc nL own ret s0 D tc A) {t : Nat} {ty : FieldType} (hd : decode cc pc = .ok (.aaload, 1)) (ht : (ah_tys tc)[t]? = some (tc t, ty)) (hr : ty.isReference = true) : ah_Snd (ah_G p l e R s m args below meth c nL D tc ad A res) res pc (ah_aald t (pc + 1)) := by
  intro J hJ lv st h hf ls H locs hl hP hD hS
  replace hf := Option.bind_eq_some_iff.mp hf
  obtain ⟨q, hq, hf⟩ := hf
  obtain rfl := ah_qi_i hq
  replace hf := Option.bind_eq_some_iff.mp hf
  obtain ⟨x, hx, hf⟩ := hf
  obtain ⟨w, hw, hx⟩ := Option.bind_eq_some_iff.mp hx
  obtain ⟨hin, hg⟩ := ah_rr_i hx
  have hlt : q.2.1.toNatClampNeg < w.1 := Nat.not_le.mp fun z => hin (Or.inr z)
  refine W.aald (v := .ref (ad x)) (ty := ty) C.1 C.2.1 (hP q.1 _ (ah_w_get (ah_ar_i hw))) ((C.2.2.2.2.2.1.2 t _ ht).1 w.1 (fun j => va_rf ((w.2 j).map ad))) hr (fun z => by cases z) (by show ¬ (q.2.1 < 0 ∨ (arrV _ _ _).slots.size ≤ _); rw [arrV_size]; exact hin) (by show (arrV _ _ _).slots[_]? = _; rw [arrV_read _ _ hlt]; show some (va_rf ((w.2 q.2.1.toNatClampNeg).map ad)) = _; rw [hg]; rfl) rfl rfl hd (hJ _ _ _ _ hf ls H locs hl hP hD hS)
theorem as_alen (C : ah_C p s m args meth c cc nL own ret s0 D tc A) (hd : decode cc pc = .ok (.arraylength, 1)) : ah_Snd (ah_G p l e R s m args below meth c nL D tc ad A res) res pc (ah_alen (pc + 1)) := by
  intro J hJ lv st h hf ls H locs hl hP hD hS
  replace hf := Option.bind_eq_some_iff.mp hf
  obtain ⟨q, hq, hf⟩ := hf
  obtain rfl := ah_q1_i hq
  replace hf := Option.bind_eq_some_iff.mp hf
  obtain ⟨w, hw, hf⟩ := hf
  exact va_alen C.1 C.2.1 C.2.2.2.2.2.1 hP q.1 0 (ah_w_get (ah_ai_i hw)) (ty := .int) rfl rfl hd (hJ _ _ _ _ hf ls H locs hl hP hD hS)
/-- objects of the classes ys are of the class nm, those of the classes ns aren't -/
def ah_In (own : String) (index : Nat) (nm : String) (ys ns : List Nat) (s0 : State) : Prop := Cond.classLink own index nm ∈ ah_TT ∧ (∀ ci ∈ ys, ∃ (C : String) (T : u_T) (N : Nat), vwCl[ci]? = some (C, T, N) ∧ (C = nm ∨ va_Nw (.castable C nm) s0)) ∧ (∀ ci ∈ ns, ∃ (C : String) (T : u_T) (N : Nat), vwCl[ci]? = some (C, T, N) ∧ va_Nc C nm s0)
theorem as_inst (C : ah_C p s m args meth c cc nL own ret s0 D tc A) {index : Nat} {nm : String} {ys ns : List Nat} (hd : decode cc pc = .ok (.instanceof index, 3)) (hI : ah_In own index nm ys ns s0) : ah_Snd (ah_G p l e R s m args below meth c nL D tc ad A res) res pc (ah_inst ys ns (pc + 3)) := by
  intro J hJ lv st h hf ls H locs hl hP hD hS
  replace hf := Option.bind_eq_some_iff.mp hf
  obtain ⟨q, hq, hf⟩ := hf
  obtain rfl := ah_q1_i hq
  obtain ⟨hcl, hy, hn⟩ := hI
  cases hb : ah_is h q.1 ys with
  | true =>
    rw [hb] at hf
    obtain ⟨o, ho, hin⟩ := ah_is_i hb
    obtain ⟨C2, T, N, h1, h2⟩ := hy o.1 (ah_in_mem hin)
    have hrec := va_recv C.2.2.2.2.2.1 hP h1 (ah_w_get (ah_ob_i ho))
    rcases h2 with rfl | h2
    · have hK := C.2.2.2.2.2.1.1 o.1 _ h1
      exact va_instS C.1 C.2.1 C.2.2.2.1 (C.2.2.2.2.1 _ hcl) hK.2 hrec hd (hJ _ _ _ _ hf ls H locs hl hP hD hS)
    · exact va_instY C.1 C.2.1 C.2.2.2.1 (C.2.2.2.2.1 _ hcl) (va_Nw.warmC C.2.2.2.2.2.2.1.1 h2) hrec hd (hJ _ _ _ _ hf ls H locs hl hP hD hS)
  | false =>
    rw [hb] at hf
    cases hb2 : ah_is h q.1 ns with
    | true =>
      rw [hb2] at hf
      obtain ⟨o, ho, hin⟩ := ah_is_i hb2
      obtain ⟨C2, T, N, h1, h2⟩ := hn o.1 (ah_in_mem hin)
      have hrec := va_recv C.2.2.2.2.2.1 hP h1 (ah_w_get (ah_ob_i ho))
      exact va_instNo C.1 C.2.1 C.2.2.2.1 (C.2.2.2.2.1 _ hcl) (h2.moved C.2.2.2.2.2.2.1.1.alike) hrec hd (hJ _ _ _ _ hf ls H locs hl hP hD hS)
    | false => rw [hb2] at hf; cases hf
theorem as_iret (C : ah_C p s m args meth c cc nL own ret s0 D tc A) (hr : ret = some .int) (hd : decode cc pc = .ok (.ireturn, 1)) : ah_Snd (ah_G p l e R s m args below meth c nL D tc ad A res) res pc ah_iret := by
  intro J hJ lv st h hf ls H locs hl hP hD hS
  replace hf := Option.bind_eq_some_iff.mp hf
  obtain ⟨q, hq, hf⟩ := hf
  obtain rfl := ah_p1_i hq
  obtain ⟨x, r⟩ := q
  cases r with
  | nil =>
    have e := Option.some.inj hf
    subst e
    exact W.iret (v := x) C.1 C.2.1 (C.2.2.2.2.2.2.2.2.2.trans hr) (fun t ht hW => ⟨rfl, by rw [ht]; exact hP, hD, hS.F ht⟩) hS.2.2 hd C.2.2.2.2.2.2.2.2.1
  | cons v r => cases hf
theorem as_zret (C : ah_C p s m args meth c cc nL own ret s0 D tc A) (hr : ret = some .boolean) (hd : decode cc pc = .ok (.ireturn, 1)) : ah_Snd (ah_G p l e R s m args below meth c nL D tc ad A res) res pc ah_zret := by
  intro J hJ lv st h hf ls H locs hl hP hD hS
  replace hf := Option.bind_eq_some_iff.mp hf
  obtain ⟨q, hq, hf⟩ := hf
  obtain rfl := ah_p1_i hq
  obtain ⟨x, r⟩ := q
  cases r with
  | nil =>
    by_cases hz : x = 0 ∨ x = 1
    · have hf : (if x = 0 ∨ x = 1 then some (some (Value.int x), h) else none) = some res := hf
      rw [if_pos hz] at hf
      have e := Option.some.inj hf
      subst e
      exact W.zret (v := x) (ty := .boolean) C.1 C.2.1 (C.2.2.2.2.2.2.2.2.2.trans hr) (by rcases hz with z | z <;> rw [z] <;> rfl) (fun t ht hW => ⟨rfl, by rw [ht]; exact hP, hD, hS.F ht⟩) hS.2.2 hd C.2.2.2.2.2.2.2.2.1
    · have hf : (if x = 0 ∨ x = 1 then some (some (Value.int x), h) else none) = some res := hf
      rw [if_neg hz] at hf; cases hf
  | cons v r => cases hf
theorem as_lret (C : ah_C p s m args meth c cc nL own ret s0 D tc A) (hr : ret = some .long) (hd : decode cc pc = .ok (.lreturn, 1)) : ah_Snd (ah_G p l e R s m args below meth c nL D tc ad A res) res pc ah_lret := by
  intro J hJ lv st h hf ls H locs hl hP hD hS
  replace hf := Option.bind_eq_some_iff.mp hf
  obtain ⟨q, hq, hf⟩ := hf
  obtain rfl := ah_g1_i hq
  obtain ⟨x, r⟩ := q
  cases r with
  | nil =>
    have e := Option.some.inj hf
    subst e
    exact W.lret (v := x) C.1 C.2.1 (C.2.2.2.2.2.2.2.2.2.trans hr) (fun t ht hW => ⟨rfl, by rw [ht]; exact hP, hD, hS.F ht⟩) hS.2.2 hd C.2.2.2.2.2.2.2.2.1
  | cons v r => cases hf
theorem as_vret (C : ah_C p s m args meth c cc nL own ret s0 D tc A) (hr : ret = none) (hd : decode cc pc = .ok (.return_, 1)) : ah_Snd (ah_G p l e R s m args below meth c nL D tc ad A res) res pc ah_vret := by
  intro J hJ lv st h hf ls H locs hl hP hD hS
  cases st with
  | nil =>
    have e := Option.some.inj hf
    subst e
    exact W.vret C.1 C.2.1 (C.2.2.2.2.2.2.2.2.2.trans hr) (fun t ht hW => ⟨rfl, by rw [ht]; exact hP, hD, hS.F ht⟩) hS.2.2 hd C.2.2.2.2.2.2.2.2.1
  | cons v r => cases hf
theorem ah_swt_i {J : ah_J} {lv : ah_L} {r : List Value} {h : ah_H} {x : Int32} {d : Nat} : ∀ {ks : List (Int32 × Nat)}, ah_swt J lv r h x d ks = some res → (∃ (j t : Nat), ks[j]? = some (x, t) ∧ J t lv r h = some res) ∨ ((∀ (j t : Nat), ¬ ks[j]? = some (x, t)) ∧ J d lv r h = some res)
  | [], hf => Or.inr ⟨fun j t hj => (by cases hj), hf⟩
  | (k, t) :: ks, hf => by
    unfold ah_swt at hf
    by_cases hx : x = k
    · rw [if_pos hx] at hf
      exact Or.inl ⟨0, t, by rw [hx]; rfl, hf⟩
    · rw [if_neg hx] at hf
      rcases ah_swt_i hf with ⟨j, t2, h1, h2⟩ | ⟨h1, h2⟩
      · exact Or.inl ⟨j + 1, t2, h1, h2⟩
      · refine Or.inr ⟨fun j t2 hj => ?_, h2⟩
        cases j with
        | zero =>
          have hj : some (k, t) = some (x, t2) := hj
          injection hj with hj
          injection hj with e1 e2
          exact hx e1.symm
        | succ j => exact h1 j t2 hj
def ah_tck (pc : Nat) (lo : Int) (offs : List Int) (ks : List (Int32 × Nat)) : Bool := ks.length == offs.length && (List.range ks.length).all (fun j => match ks[j]?, offs[j]? with
  | some (k, t), some o => k.toInt == lo + (j : Int) && (pc : Int) + o == (t : Int)
  | _, _ => false)
theorem ah_tck_i {lo : Int} {offs : List Int} {ks : List (Int32 × Nat)} (h : ah_tck pc lo offs ks = true) : ks.length = offs.length ∧ ∀ (j t : Nat) (k : Int32), ks[j]? = some (k, t) → k.toInt = lo + j ∧ ∃ o, offs[j]? = some o ∧ (pc : Int) + o = t := by
  unfold ah_tck at h
  rw [Bool.and_eq_true] at h
  refine ⟨by simpa using h.1, fun j t k hj => ?_⟩
  have hjl : j < ks.length := (List.getElem?_eq_some_iff.mp hj).1
  have h2 := List.all_eq_true.mp h.2 j (List.mem_range.mpr hjl)
  rw [hj] at h2
  cases ho : offs[j]? with
  | none => rw [ho] at h2; cases h2
  | some o =>
    rw [ho] at h2
    have h2 : (k.toInt == lo + (j : Int) && (pc : Int) + o == (t : Int)) = true := h2
    simp only [Bool.and_eq_true, beq_iff_eq] at h2
    exact ⟨h2.1, o, rfl, h2.2⟩
theorem as_tsw (C : ah_C p s m args meth c cc nL own ret s0 D tc A) {dflt lo hi : Int} {offs : Array Int} {len d : Nat} {ks : List (Int32 × Nat)} (hd : decode cc pc = .ok (.tableswitch dflt lo hi offs, len)) (hk : ah_tck pc lo offs.toList ks = true) (hN : hi - lo + 1 = (offs.toList.length : Int)) (ht : (pc : Int) + dflt = (d : Int)) : ah_Snd (ah_G p l e R s m args below meth c nL D tc ad A res) res pc (ah_sw ks d) := by
  intro J hJ lv st h hf ls H locs hl hP hD hS
  replace hf := Option.bind_eq_some_iff.mp hf
  obtain ⟨q, hq, hf⟩ := hf
  obtain rfl := ah_p1_i hq
  obtain ⟨hlen, hks⟩ := ah_tck_i hk
  rcases ah_swt_i hf with ⟨j, t, h1, h2⟩ | ⟨h1, h2⟩
  · obtain ⟨e1, o, e2, e3⟩ := hks j t q.1 h1
    have hjl : j < ks.length := (List.getElem?_eq_some_iff.mp h1).1
    refine lv_tableIn C.1 C.2.1 hd (by omega) (by omega) (off := o) ?_ e3 (hJ _ _ _ _ h2 ls H locs hl hP hD hS)
    rw [e1, show (lo + (j : Int) - lo).toNat = j by omega, ← Array.getElem?_toList]
    exact e2
  · refine lv_tableOut C.1 C.2.1 hd ?_ ht (hJ _ _ _ _ h2 ls H locs hl hP hD hS)
    rcases Int.lt_or_le q.1.toInt lo with z | z
    · exact Or.inl z
    · rcases Int.lt_or_le hi q.1.toInt with z2 | z2
      · exact Or.inr z2
      · exfalso
        have hjl : (q.1.toInt - lo).toNat < ks.length := by omega
        cases hj : ks[(q.1.toInt - lo).toNat]? with
        | none => rw [List.getElem?_eq_none_iff] at hj; omega
        | some kt =>
          obtain ⟨k, t⟩ := kt
          have e1 := (hks _ t k hj).1
          have e2 : k = q.1 := Int32.toInt_inj.mp (by omega)
          rw [e2] at hj
          exact h1 _ t hj
def ah_lck (pc : Nat) : List (Int × Int) → List (Int32 × Nat) → Bool
  | [], [] => true
  | (a, o) :: ps, (k, t) :: ks => k.toInt == a && (pc : Int) + o == (t : Int) && ah_lck pc ps ks
  | _, _ => false
theorem ah_lck_i {dflt : Int} {d : Nat} (ht : (pc : Int) + dflt = (d : Int)) {J : ah_J} {lv : ah_L} {r : List Value} {h : ah_H} {x : Int32} : ∀ {ps : List (Int × Int)} {ks : List (Int32 × Nat)}, ah_lck pc ps ks = true → ah_swt J lv r h x d ks = some res → ∃ (off : Int) (t : Nat), Op.lookupswitch.offset ps dflt x.toInt = off ∧ (pc : Int) + off = t ∧ J t lv r h = some res
  | [], [], _, hf => ⟨dflt, d, rfl, ht, hf⟩
  | (a, o) :: ps, (k, t) :: ks, hk, hf => by
    unfold ah_lck at hk
    simp only [Bool.and_eq_true, beq_iff_eq] at hk
    unfold ah_swt at hf
    by_cases hx : x = k
    · rw [if_pos hx] at hf
      refine ⟨o, t, ?_, hk.1.2, hf⟩
      rw [Op.lookupswitch.offset_cons, if_pos]
      rw [hx]; exact hk.1.1.symm
    · rw [if_neg hx] at hf
      obtain ⟨off, t2, h1, h2⟩ := ah_lck_i ht hk.2 hf
      exact ⟨off, t2, by rw [lv_osw hx hk.1.1]; exact h1, h2⟩
  | [], (_, _) :: _, hk, _ => by cases hk
  | (_, _) :: _, [], hk, _ => by cases hk
theorem as_lsw (C : ah_C p s m args meth c cc nL own ret s0 D tc A) {dflt : Int} {ps : Array (Int × Int)} {len d : Nat} {ks : List (Int32 × Nat)} (hd : decode cc pc = .ok (.lookupswitch dflt ps, len)) (hp : (ps.toList.zip (ps.toList.drop 1)).all (fun (a, next) => a.1 < next.1) = true) (hk : ah_lck pc ps.toList ks = true) (ht : (pc : Int) + dflt = (d : Int)) : ah_Snd (ah_G p l e R s m args below meth c nL D tc ad A res) res pc (ah_sw ks d) := by
  intro J hJ lv st h hf ls H locs hl hP hD hS
  replace hf := Option.bind_eq_some_iff.mp hf
  obtain ⟨q, hq, hf⟩ := hf
  obtain rfl := ah_p1_i hq
  obtain ⟨off, t, h1, h2, h3⟩ := ah_lck_i ht hk hf
  exact lv_lookup C.1 C.2.1 hd hp h1 h2 (hJ _ _ _ _ h3 ls H locs hl hP hD hS)
end AHT
