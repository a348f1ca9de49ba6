/-! THE MACHINE IS SOUND: what the abstract steps answer, the Java machine answers -/
def ah_tys (tc : Nat → ClassId) : List (ClassId × FieldType) := [(tc 0, .int), (tc 1, .boolean), (tc 2, .object "GloveSaint$Single"), (tc 3, .array .int)]
def ah_TT : List Cond := lw_tbl.filter goodWord
theorem ah_TT_in {w : Cond} (h : w ∈ lw_tbl) (g : goodWord w = true) : w ∈ ah_TT := List.mem_filter.mpr ⟨h, g⟩
theorem ah_TT_good {w : Cond} (h : w ∈ ah_TT) : (w.onTables && w.keeps) = true ∨ ∃ ty, w = .arrayClass ty := good_of_word (List.mem_filter.mp h).2
def ah_Ev (s0 U : State) : Prop := s0.WarmedH U.vm ∧ s0.heap.size ≤ U.heap.size ∧ ∀ q : Nat, q < s0.heap.size → U.heap[q]? = s0.heap[q]?
def ah_Pre (s0 : State) (D : va_G) (tc : Nat → ClassId) (ad : Nat → Nat) (A : Nat → Prop) (as : List Value) (h : ah_H) : Array Value → State → Prop := va_Pc (as.map (ah_v ad)) (fun U => va_P D vwCl (ah_w ad tc h) U.heap ∧ va_K D vwCl (ah_tys tc) U ∧ va_D A (ah_w ad tc h) ∧ ah_Ev s0 U)
def ah_Q (D : va_G) (tc : Nat → ClassId) (ad : Nat → Nat) (A : Nat → Prop) (res : ah_R) : Array Value → State → Outcome → State → Prop := fun _ st o t => o = .returned (res.1.map (ah_v ad)) ∧ va_P D vwCl (ah_w ad tc res.2) t.heap ∧ va_D A (ah_w ad tc res.2) ∧ va_F A st t
def ah_C (p : Program) (s : State) (m : MethodId) (args : Array Value) (meth : Method) (c : Code) (cc : ByteArray) (nL : Nat) (own : String) (ret : Option FieldType) (s0 : State) (D : va_G) (tc : Nat → ClassId) (A : Nat → Prop) : Prop :=
  p.tables.exec = Jvm.exec ∧ c.code = cc ∧ c.maxLocals = nL ∧ s.vm.findClass own = some m.cls ∧ (∀ w ∈ ah_TT, w.before args s = true) ∧ va_K D vwCl (ah_tys tc) s ∧ ah_Ev s0 s ∧ (∀ q, A q → s0.heap.size ≤ q) ∧ meth.locks = false ∧ meth.sig.returnType = ret
def ah_G (p : Program) (l : Launch) (e : Env) (R : Room) (s : State) (m : MethodId) (args : Array Value) (below : List Frame) (meth : Method) (c : Code) (nL : Nat) (D : va_G) (tc : Nat → ClassId) (ad : Nat → Nat) (A : Nat → Prop) (res : ah_R) : Nat → ah_L → List Value → ah_H → Prop := fun pc lv st h =>
  ∀ (ls : Array Slot) (H : Heap) (locs : List Loc), lv_has ls nL (ah_lm ad lv) → va_P D vwCl (ah_w ad tc h) H → va_D A (ah_w ad tc h) → va_S A s.heap H locs → W p l e R s m args below meth c H locs 0 0 (MQ below (ah_Q D tc ad A res) args s 0 0 A) (F0 m pc ls (st.map (ah_v ad)))
section AHS
variable {p : Program} {l : Launch} {e : Env} {R : Room} {s : State} {m : MethodId} {args : Array Value} {below : List Frame} {meth : Method} {c : Code} {cc : ByteArray} {nL : Nat} {own : String} {ret : Option FieldType} {s0 : State} {D : va_G} {tc : Nat → ClassId} {ad : Nat → Nat} {A : Nat → Prop} {res : ah_R} {pc : Nat}
theorem as_lim {f : ah_S} {n : Nat} {ks : List Nat} (h : ah_Snd (ah_G p l e R s m args below meth c nL D tc ad A res) res pc f) : ah_Snd (ah_G p l e R s m args below meth c nL D tc ad A res) res pc (ah_lim n ks f) := by
  intro J hJ lv st h0 hf
  refine h _ (fun p lv st h hp => ?_) lv st h0 hf
  cases hb : Nat.beq p n with
  | true =>
    rw [hb] at hp
    have := hJ _ _ _ _ hp
    intro ls H locs hl hP hD hS
    exact this ls H locs (ah_lmem (fun q hq => ah_res_mem hq) hl) hP hD hS
  | false =>
    rw [hb] at hp
    exact hJ _ _ _ _ hp
theorem as_iconst (C : ah_C p s m args meth c cc nL own ret s0 D tc A) {k : Int} {v : Int32} (hd : decode cc pc = .ok (.iconst k, 1)) (hv : Int32.ofInt k = v) : ah_Snd (ah_G p l e R s m args below meth c nL D tc ad A res) res pc (ah_push (.int v) (pc + 1)) := by
  intro J hJ lv st h hf ls H locs hl hP hD hS
  exact lv_iconst C.1 C.2.1 hd hv (hJ _ _ _ _ hf ls H locs hl hP hD hS)
theorem as_bipush (C : ah_C p s m args meth c cc nL own ret s0 D tc A) {k : Int} {v : Int32} (hd : decode cc pc = .ok (.bipush k, 2)) (hv : (Int8.ofInt k).toInt32 = v) : ah_Snd (ah_G p l e R s m args below meth c nL D tc ad A res) res pc (ah_push (.int v) (pc + 2)) := by
  intro J hJ lv st h hf ls H locs hl hP hD hS
  exact lv_bipush C.1 C.2.1 hd hv (hJ _ _ _ _ hf ls H locs hl hP hD hS)
theorem as_sipush (C : ah_C p s m args meth c cc nL own ret s0 D tc A) {k : Int} {v : Int32} (hd : decode cc pc = .ok (.sipush k, 3)) (hv : (Int16.ofInt k).toInt32 = v) : ah_Snd (ah_G p l e R s m args below meth c nL D tc ad A res) res pc (ah_push (.int v) (pc + 3)) := by
  intro J hJ lv st h hf ls H locs hl hP hD hS
  exact lv_sipush C.1 C.2.1 hd hv (hJ _ _ _ _ hf ls H locs hl hP hD hS)
theorem as_lconst (C : ah_C p s m args meth c cc nL own ret s0 D tc A) {k : Fin 2} {v : Int64} (hd : decode cc pc = .ok (.lconst k, 1)) (hv : Int64.ofNat (k : Nat) = v) : ah_Snd (ah_G p l e R s m args below meth c nL D tc ad A res) res pc (ah_push (.long v) (pc + 1)) := by
  intro J hJ lv st h hf ls H locs hl hP hD hS
  exact lv_lconst C.1 C.2.1 hd hv (hJ _ _ _ _ hf ls H locs hl hP hD hS)
theorem as_ldc (C : ah_C p s m args meth c cc nL own ret s0 D tc A) {k : Nat} {v : Int32} (hd : decode cc pc = .ok (.ldc k, 2)) (hw : Cond.constant own k v ∈ ah_TT) : ah_Snd (ah_G p l e R s m args below meth c nL D tc ad A res) res pc (ah_push (.int v) (pc + 2)) := by
  intro J hJ lv st h hf ls H locs hl hP hD hS
  exact lv_ldc C.1 C.2.1 C.2.2.2.1 (C.2.2.2.2.1 _ hw) hd (hJ _ _ _ _ hf ls H locs hl hP hD hS)
theorem as_ldcw (C : ah_C p s m args meth c cc nL own ret s0 D tc A) {k : Nat} {v : Int32} (hd : decode cc pc = .ok (.ldc_w k, 3)) (hw : Cond.constant own k v ∈ ah_TT) : ah_Snd (ah_G p l e R s m args below meth c nL D tc ad A res) res pc (ah_push (.int v) (pc + 3)) := by
  intro J hJ lv st h hf ls H locs hl hP hD hS
  exact lv_ldcw C.1 C.2.1 C.2.2.2.1 (C.2.2.2.2.1 _ hw) hd (hJ _ _ _ _ hf ls H locs hl hP hD hS)
theorem as_ldc2 (C : ah_C p s m args meth c cc nL own ret s0 D tc A) {k : Nat} {v : Int64} (hd : decode cc pc = .ok (.ldc2_w k, 3)) (hw : Cond.constantLong own k v ∈ ah_TT) : ah_Snd (ah_G p l e R s m args below meth c nL D tc ad A res) res pc (ah_push (.long v) (pc + 3)) := by
  intro J hJ lv st h hf ls H locs hl hP hD hS
  exact lv_ldc2 C.1 C.2.1 C.2.2.2.1 (C.2.2.2.2.1 _ hw) hd (hJ _ _ _ _ hf ls H locs hl hP hD hS)
theorem as_iload (C : ah_C p s m args meth c cc nL own ret s0 D tc A) {i : Nat} (hd : decode cc pc = .ok (.iload i, 2)) : ah_Snd (ah_G p l e R s m args below meth c nL D tc ad A res) res pc (ah_ild i (pc + 2)) := by
  intro J hJ lv st h hf ls H locs hl hP hD hS
  replace hf := Option.bind_eq_some_iff.mp hf
  obtain ⟨x, hx, hf⟩ := hf
  exact lv_iload C.1 C.2.1 hd (ah_loc hl (ah_aI_i hx)) (hJ _ _ _ _ hf ls H locs hl hP hD hS)
theorem as_iload_n (C : ah_C p s m args meth c cc nL own ret s0 D tc A) {k : Fin 4} {i : Nat} (hd : decode cc pc = .ok (.iload_n k, 1)) (hi : (k : Nat) = i) : ah_Snd (ah_G p l e R s m args below meth c nL D tc ad A res) res pc (ah_ild i (pc + 1)) := by
  intro J hJ lv st h hf ls H locs hl hP hD hS
  replace hf := Option.bind_eq_some_iff.mp hf
  obtain ⟨x, hx, hf⟩ := hf
  exact lv_iload_n C.1 C.2.1 hd hi (ah_loc hl (ah_aI_i hx)) (hJ _ _ _ _ hf ls H locs hl hP hD hS)
theorem as_lload (C : ah_C p s m args meth c cc nL own ret s0 D tc A) {i : Nat} (hd : decode cc pc = .ok (.lload i, 2)) : ah_Snd (ah_G p l e R s m args below meth c nL D tc ad A res) res pc (ah_lld i (pc + 2)) := by
  intro J hJ lv st h hf ls H locs hl hP hD hS
  replace hf := Option.bind_eq_some_iff.mp hf
  obtain ⟨x, hx, hf⟩ := hf
  exact lv_lload C.1 C.2.1 hd (ah_loc hl (ah_aL_i hx)) (hJ _ _ _ _ hf ls H locs hl hP hD hS)
theorem as_lload_n (C : ah_C p s m args meth c cc nL own ret s0 D tc A) {k : Fin 4} {i : Nat} (hd : decode cc pc = .ok (.lload_n k, 1)) (hi : (k : Nat) = i) : ah_Snd (ah_G p l e R s m args below meth c nL D tc ad A res) res pc (ah_lld i (pc + 1)) := by
  intro J hJ lv st h hf ls H locs hl hP hD hS
  replace hf := Option.bind_eq_some_iff.mp hf
  obtain ⟨x, hx, hf⟩ := hf
  exact lv_lload_n C.1 C.2.1 hd hi (ah_loc hl (ah_aL_i hx)) (hJ _ _ _ _ hf ls H locs hl hP hD hS)
theorem as_aload (C : ah_C p s m args meth c cc nL own ret s0 D tc A) {i : Nat} (hd : decode cc pc = .ok (.aload i, 2)) : ah_Snd (ah_G p l e R s m args below meth c nL D tc ad A res) res pc (ah_ald i (pc + 2)) := by
  intro J hJ lv st h hf ls H locs hl hP hD hS
  replace hf := Option.bind_eq_some_iff.mp hf
  obtain ⟨x, hx, hf⟩ := hf
  exact lv_aload C.1 C.2.1 hd (ah_loc hl (ah_aR_i hx)) (hJ _ _ _ _ hf ls H locs hl hP hD hS)
theorem as_aload_n (C : ah_C p s m args meth c cc nL own ret s0 D tc A) {k : Fin 4} {i : Nat} (hd : decode cc pc = .ok (.aload_n k, 1)) (hi : (k : Nat) = i) : ah_Snd (ah_G p l e R s m args below meth c nL D tc ad A res) res pc (ah_ald i (pc + 1)) := by
  intro J hJ lv st h hf ls H locs hl hP hD hS
  replace hf := Option.bind_eq_some_iff.mp hf
  obtain ⟨x, hx, hf⟩ := hf
  exact lv_aload_n C.1 C.2.1 hd hi (ah_loc hl (ah_aR_i hx)) (hJ _ _ _ _ hf ls H locs hl hP hD hS)
theorem as_istore (C : ah_C p s m args meth c cc nL own ret s0 D tc A) {i : Nat} (hd : decode cc pc = .ok (.istore i, 2)) (hn : i < nL) : ah_Snd (ah_G p l e R s m args below meth c nL D tc ad A res) res pc (ah_ist i (pc + 2)) := by
  intro J hJ lv st h hf ls H locs hl hP hD hS
  replace hf := Option.bind_eq_some_iff.mp hf
  obtain ⟨q, hq, hf⟩ := hf
  obtain rfl := ah_p1_i hq
  exact lv_istore C.1 C.2.1 hd hl hn rfl (fun ls hl => hJ _ _ _ _ hf ls H locs (ah_st1 (v := .int q.1) hl) hP hD hS)
theorem as_istore_n (C : ah_C p s m args meth c cc nL own ret s0 D tc A) {k : Fin 4} {i : Nat} (hd : decode cc pc = .ok (.istore_n k, 1)) (hi : (k : Nat) = i) (hn : i < nL) : ah_Snd (ah_G p l e R s m args below meth c nL D tc ad A res) res pc (ah_ist i (pc + 1)) := by
  intro J hJ lv st h hf ls H locs hl hP hD hS
  replace hf := Option.bind_eq_some_iff.mp hf
  obtain ⟨q, hq, hf⟩ := hf
  obtain rfl := ah_p1_i hq
  exact lv_istore_n C.1 C.2.1 hd hi hl hn rfl (fun ls hl => hJ _ _ _ _ hf ls H locs (ah_st1 (v := .int q.1) hl) hP hD hS)
theorem as_lstore (C : ah_C p s m args meth c cc nL own ret s0 D tc A) {i : Nat} (hd : decode cc pc = .ok (.lstore i, 2)) (hn : i + 1 < nL) : ah_Snd (ah_G p l e R s m args below meth c nL D tc ad A res) res pc (ah_lst i (pc + 2)) := by
  intro J hJ lv st h hf ls H locs hl hP hD hS
  replace hf := Option.bind_eq_some_iff.mp hf
  obtain ⟨q, hq, hf⟩ := hf
  obtain rfl := ah_g1_i hq
  exact lv_lstore C.1 C.2.1 hd hl hn rfl (fun ls hl => hJ _ _ _ _ hf ls H locs (ah_st2 (v := .long q.1) hl) hP hD hS)
theorem as_lstore_n (C : ah_C p s m args meth c cc nL own ret s0 D tc A) {k : Fin 4} {i : Nat} (hd : decode cc pc = .ok (.lstore_n k, 1)) (hi : (k : Nat) = i) (hn : i + 1 < nL) : ah_Snd (ah_G p l e R s m args below meth c nL D tc ad A res) res pc (ah_lst i (pc + 1)) := by
  intro J hJ lv st h hf ls H locs hl hP hD hS
  replace hf := Option.bind_eq_some_iff.mp hf
  obtain ⟨q, hq, hf⟩ := hf
  obtain rfl := ah_g1_i hq
  exact lv_lstore_n C.1 C.2.1 hd hi hl hn rfl (fun ls hl => hJ _ _ _ _ hf ls H locs (ah_st2 (v := .long q.1) hl) hP hD hS)
theorem as_astore (C : ah_C p s m args meth c cc nL own ret s0 D tc A) {i : Nat} (hd : decode cc pc = .ok (.astore i, 2)) (hn : i < nL) : ah_Snd (ah_G p l e R s m args below meth c nL D tc ad A res) res pc (ah_rst i (pc + 2)) := by
  intro J hJ lv st h hf ls H locs hl hP hD hS
  replace hf := Option.bind_eq_some_iff.mp hf
  obtain ⟨q, hq, hf⟩ := hf
  obtain rfl := ah_q1_i hq
  exact lv_astore C.1 C.2.1 hd hl hn rfl (fun ls hl => hJ _ _ _ _ hf ls H locs (ah_st1 (v := .ref q.1) hl) hP hD hS)
theorem as_astore_n (C : ah_C p s m args meth c cc nL own ret s0 D tc A) {k : Fin 4} {i : Nat} (hd : decode cc pc = .ok (.astore_n k, 1)) (hi : (k : Nat) = i) (hn : i < nL) : ah_Snd (ah_G p l e R s m args below meth c nL D tc ad A res) res pc (ah_rst i (pc + 1)) := by
  intro J hJ lv st h hf ls H locs hl hP hD hS
  replace hf := Option.bind_eq_some_iff.mp hf
  obtain ⟨q, hq, hf⟩ := hf
  obtain rfl := ah_q1_i hq
  exact lv_astore_n C.1 C.2.1 hd hi hl hn rfl (fun ls hl => hJ _ _ _ _ hf ls H locs (ah_st1 (v := .ref q.1) hl) hP hD hS)
theorem as_iinc (C : ah_C p s m args meth c cc nL own ret s0 D tc A) {i : Nat} {k : Int} {d : Int32} (hd : decode cc pc = .ok (.iinc i k, 3)) (hv : Int32.ofInt k = d) (hn : i < nL) : ah_Snd (ah_G p l e R s m args below meth c nL D tc ad A res) res pc (ah_inc i d (pc + 3)) := by
  intro J hJ lv st h hf ls H locs hl hP hD hS
  replace hf := Option.bind_eq_some_iff.mp hf
  obtain ⟨x, hx, hf⟩ := hf
  have hm : (i, Value.int x) ∈ ah_lm ad lv := List.mem_map.mpr ⟨(i, .int x), ah_get_mem (ah_aI_i hx), rfl⟩
  obtain ⟨k0, hk0⟩ := List.getElem?_of_mem hm
  exact lv_iinc (v := x + d) C.1 C.2.1 hd hl hk0 (by rw [hv]) hn rfl (fun ls hl => hJ _ _ _ _ hf ls H locs (ah_st1 (v := .int (x + d)) hl) hP hD hS)
theorem as_iadd (C : ah_C p s m args meth c cc nL own ret s0 D tc A) (hd : decode cc pc = .ok (.iadd, 1)) : ah_Snd (ah_G p l e R s m args below meth c nL D tc ad A res) res pc (ah_bin (fun x y => x + y) (pc + 1)) := by
  intro J hJ lv st h hf ls H locs hl hP hD hS
  replace hf := Option.bind_eq_some_iff.mp hf
  obtain ⟨q, hq, hf⟩ := hf
  obtain rfl := ah_p2_i hq
  exact lv_iadd C.1 C.2.1 hd (hJ _ _ _ _ hf ls H locs hl hP hD hS)
theorem as_isub (C : ah_C p s m args meth c cc nL own ret s0 D tc A) (hd : decode cc pc = .ok (.isub, 1)) : ah_Snd (ah_G p l e R s m args below meth c nL D tc ad A res) res pc (ah_bin (fun x y => x - y) (pc + 1)) := by
  intro J hJ lv st h hf ls H locs hl hP hD hS
  replace hf := Option.bind_eq_some_iff.mp hf
  obtain ⟨q, hq, hf⟩ := hf
  obtain rfl := ah_p2_i hq
  exact lv_isub C.1 C.2.1 hd (hJ _ _ _ _ hf ls H locs hl hP hD hS)
theorem as_imul (C : ah_C p s m args meth c cc nL own ret s0 D tc A) (hd : decode cc pc = .ok (.imul, 1)) : ah_Snd (ah_G p l e R s m args below meth c nL D tc ad A res) res pc (ah_bin (fun x y => x * y) (pc + 1)) := by
  intro J hJ lv st h hf ls H locs hl hP hD hS
  replace hf := Option.bind_eq_some_iff.mp hf
  obtain ⟨q, hq, hf⟩ := hf
  obtain rfl := ah_p2_i hq
  exact lv_imul C.1 C.2.1 hd (hJ _ _ _ _ hf ls H locs hl hP hD hS)
theorem as_iand (C : ah_C p s m args meth c cc nL own ret s0 D tc A) (hd : decode cc pc = .ok (.iand, 1)) : ah_Snd (ah_G p l e R s m args below meth c nL D tc ad A res) res pc (ah_bin (fun x y => x &&& y) (pc + 1)) := by
  intro J hJ lv st h hf ls H locs hl hP hD hS
  replace hf := Option.bind_eq_some_iff.mp hf
  obtain ⟨q, hq, hf⟩ := hf
  obtain rfl := ah_p2_i hq
  exact lv_iand C.1 C.2.1 hd (hJ _ _ _ _ hf ls H locs hl hP hD hS)
theorem as_ior (C : ah_C p s m args meth c cc nL own ret s0 D tc A) (hd : decode cc pc = .ok (.ior, 1)) : ah_Snd (ah_G p l e R s m args below meth c nL D tc ad A res) res pc (ah_bin (fun x y => x ||| y) (pc + 1)) := by
  intro J hJ lv st h hf ls H locs hl hP hD hS
  replace hf := Option.bind_eq_some_iff.mp hf
  obtain ⟨q, hq, hf⟩ := hf
  obtain rfl := ah_p2_i hq
  exact lv_ior C.1 C.2.1 hd (hJ _ _ _ _ hf ls H locs hl hP hD hS)
theorem as_ixor (C : ah_C p s m args meth c cc nL own ret s0 D tc A) (hd : decode cc pc = .ok (.ixor, 1)) : ah_Snd (ah_G p l e R s m args below meth c nL D tc ad A res) res pc (ah_bin (fun x y => x ^^^ y) (pc + 1)) := by
  intro J hJ lv st h hf ls H locs hl hP hD hS
  replace hf := Option.bind_eq_some_iff.mp hf
  obtain ⟨q, hq, hf⟩ := hf
  obtain rfl := ah_p2_i hq
  exact lv_ixor C.1 C.2.1 hd (hJ _ _ _ _ hf ls H locs hl hP hD hS)
theorem as_ishl (C : ah_C p s m args meth c cc nL own ret s0 D tc A) (hd : decode cc pc = .ok (.ishl, 1)) : ah_Snd (ah_G p l e R s m args below meth c nL D tc ad A res) res pc (ah_bin (fun x y => x <<< (y &&& 31)) (pc + 1)) := by
  intro J hJ lv st h hf ls H locs hl hP hD hS
  replace hf := Option.bind_eq_some_iff.mp hf
  obtain ⟨q, hq, hf⟩ := hf
  obtain rfl := ah_p2_i hq
  exact lv_ishl C.1 C.2.1 hd (hJ _ _ _ _ hf ls H locs hl hP hD hS)
theorem as_ishr (C : ah_C p s m args meth c cc nL own ret s0 D tc A) (hd : decode cc pc = .ok (.ishr, 1)) : ah_Snd (ah_G p l e R s m args below meth c nL D tc ad A res) res pc (ah_bin (fun x y => x >>> (y &&& 31)) (pc + 1)) := by
  intro J hJ lv st h hf ls H locs hl hP hD hS
  replace hf := Option.bind_eq_some_iff.mp hf
  obtain ⟨q, hq, hf⟩ := hf
  obtain rfl := ah_p2_i hq
  exact lv_ishr C.1 C.2.1 hd (hJ _ _ _ _ hf ls H locs hl hP hD hS)
theorem as_ladd (C : ah_C p s m args meth c cc nL own ret s0 D tc A) (hd : decode cc pc = .ok (.ladd, 1)) : ah_Snd (ah_G p l e R s m args below meth c nL D tc ad A res) res pc (ah_lbin (fun x y => x + y) (pc + 1)) := by
  intro J hJ lv st h hf ls H locs hl hP hD hS
  replace hf := Option.bind_eq_some_iff.mp hf
  obtain ⟨q, hq, hf⟩ := hf
  obtain rfl := ah_g2_i hq
  exact lv_ladd C.1 C.2.1 hd (hJ _ _ _ _ hf ls H locs hl hP hD hS)
theorem as_lsub (C : ah_C p s m args meth c cc nL own ret s0 D tc A) (hd : decode cc pc = .ok (.lsub, 1)) : ah_Snd (ah_G p l e R s m args below meth c nL D tc ad A res) res pc (ah_lbin (fun x y => x - y) (pc + 1)) := by
  intro J hJ lv st h hf ls H locs hl hP hD hS
  replace hf := Option.bind_eq_some_iff.mp hf
  obtain ⟨q, hq, hf⟩ := hf
  obtain rfl := ah_g2_i hq
  exact lv_lsub C.1 C.2.1 hd (hJ _ _ _ _ hf ls H locs hl hP hD hS)
theorem as_lmul (C : ah_C p s m args meth c cc nL own ret s0 D tc A) (hd : decode cc pc = .ok (.lmul, 1)) : ah_Snd (ah_G p l e R s m args below meth c nL D tc ad A res) res pc (ah_lbin (fun x y => x * y) (pc + 1)) := by
  intro J hJ lv st h hf ls H locs hl hP hD hS
  replace hf := Option.bind_eq_some_iff.mp hf
  obtain ⟨q, hq, hf⟩ := hf
  obtain rfl := ah_g2_i hq
  exact lv_lmul C.1 C.2.1 hd (hJ _ _ _ _ hf ls H locs hl hP hD hS)
theorem as_land (C : ah_C p s m args meth c cc nL own ret s0 D tc A) (hd : decode cc pc = .ok (.land, 1)) : ah_Snd (ah_G p l e R s m args below meth c nL D tc ad A res) res pc (ah_lbin (fun x y => x &&& y) (pc + 1)) := by
  intro J hJ lv st h hf ls H locs hl hP hD hS
  replace hf := Option.bind_eq_some_iff.mp hf
  obtain ⟨q, hq, hf⟩ := hf
  obtain rfl := ah_g2_i hq
  exact lv_land C.1 C.2.1 hd (hJ _ _ _ _ hf ls H locs hl hP hD hS)
theorem as_idiv (C : ah_C p s m args meth c cc nL own ret s0 D tc A) (hd : decode cc pc = .ok (.idiv, 1)) : ah_Snd (ah_G p l e R s m args below meth c nL D tc ad A res) res pc (ah_div (pc + 1)) := by
  intro J hJ lv st h hf ls H locs hl hP hD hS
  replace hf := Option.bind_eq_some_iff.mp hf
  obtain ⟨q, hq, hf⟩ := hf
  obtain rfl := ah_p2_i hq
  by_cases hz : q.2.1 = 0
  · rw [if_pos hz] at hf; cases hf
  · rw [if_neg hz] at hf
    exact lv_idiv C.1 C.2.1 hd hz (hJ _ _ _ _ hf ls H locs hl hP hD hS)
theorem as_irem (C : ah_C p s m args meth c cc nL own ret s0 D tc A) (hd : decode cc pc = .ok (.irem, 1)) : ah_Snd (ah_G p l e R s m args below meth c nL D tc ad A res) res pc (ah_rem (pc + 1)) := by
  intro J hJ lv st h hf ls H locs hl hP hD hS
  replace hf := Option.bind_eq_some_iff.mp hf
  obtain ⟨q, hq, hf⟩ := hf
  obtain rfl := ah_p2_i hq
  by_cases hz : q.2.1 = 0
  · rw [if_pos hz] at hf; cases hf
  · rw [if_neg hz] at hf
    exact lv_irem C.1 C.2.1 hd hz (hJ _ _ _ _ hf ls H locs hl hP hD hS)
theorem as_ldiv (C : ah_C p s m args meth c cc nL own ret s0 D tc A) (hd : decode cc pc = .ok (.ldiv, 1)) : ah_Snd (ah_G p l e R s m args below meth c nL D tc ad A res) res pc (ah_ldiv (pc + 1)) := by
  intro J hJ lv st h hf ls H locs hl hP hD hS
  replace hf := Option.bind_eq_some_iff.mp hf
  obtain ⟨q, hq, hf⟩ := hf
  obtain rfl := ah_g2_i hq
  by_cases hz : q.2.1 = 0
  · rw [if_pos hz] at hf; cases hf
  · rw [if_neg hz] at hf
    exact lv_ldiv C.1 C.2.1 hd hz (hJ _ _ _ _ hf ls H locs hl hP hD hS)
theorem as_lrem (C : ah_C p s m args meth c cc nL own ret s0 D tc A) (hd : decode cc pc = .ok (.lrem, 1)) : ah_Snd (ah_G p l e R s m args below meth c nL D tc ad A res) res pc (ah_lrem (pc + 1)) := by
  intro J hJ lv st h hf ls H locs hl hP hD hS
  replace hf := Option.bind_eq_some_iff.mp hf
  obtain ⟨q, hq, hf⟩ := hf
  obtain rfl := ah_g2_i hq
  by_cases hz : q.2.1 = 0
  · rw [if_pos hz] at hf; cases hf
  · rw [if_neg hz] at hf
    exact lv_lrem C.1 C.2.1 hd hz (hJ _ _ _ _ hf ls H locs hl hP hD hS)
theorem as_ineg (C : ah_C p s m args meth c cc nL own ret s0 D tc A) (hd : decode cc pc = .ok (.ineg, 1)) : ah_Snd (ah_G p l e R s m args below meth c nL D tc ad A res) res pc (ah_un (fun x => 0 - x) (pc + 1)) := by
  intro J hJ lv st h hf ls H locs hl hP hD hS
  replace hf := Option.bind_eq_some_iff.mp hf
  obtain ⟨q, hq, hf⟩ := hf
  obtain rfl := ah_p1_i hq
  exact lv_ineg C.1 C.2.1 hd (hJ _ _ _ _ hf ls H locs hl hP hD hS)
theorem as_i2c (C : ah_C p s m args meth c cc nL own ret s0 D tc A) (hd : decode cc pc = .ok (.i2c, 1)) : ah_Snd (ah_G p l e R s m args below meth c nL D tc ad A res) res pc (ah_un (fun x => (x.toUInt32 % 65536).toInt32) (pc + 1)) := by
  intro J hJ lv st h hf ls H locs hl hP hD hS
  replace hf := Option.bind_eq_some_iff.mp hf
  obtain ⟨q, hq, hf⟩ := hf
  obtain rfl := ah_p1_i hq
  exact lv_i2c C.1 C.2.1 hd rfl (hJ _ _ _ _ hf ls H locs hl hP hD hS)
theorem as_iushr (C : ah_C p s m args meth c cc nL own ret s0 D tc A) (hd : decode cc pc = .ok (.iushr, 1)) : ah_Snd (ah_G p l e R s m args below meth c nL D tc ad A res) res pc (ah_bin (fun x y => (x.toUInt32 >>> (y.toUInt32 &&& Int32.toUInt32 31)).toInt32) (pc + 1)) := by
  intro J hJ lv st h hf ls H locs hl hP hD hS
  replace hf := Option.bind_eq_some_iff.mp hf
  obtain ⟨q, hq, hf⟩ := hf
  obtain rfl := ah_p2_i hq
  exact lv_iushr C.1 C.2.1 hd rfl (hJ _ _ _ _ hf ls H locs hl hP hD hS)
theorem as_i2l (C : ah_C p s m args meth c cc nL own ret s0 D tc A) (hd : decode cc pc = .ok (.i2l, 1)) : ah_Snd (ah_G p l e R s m args below meth c nL D tc ad A res) res pc (ah_i2l (pc + 1)) := by
  intro J hJ lv st h hf ls H locs hl hP hD hS
  replace hf := Option.bind_eq_some_iff.mp hf
  obtain ⟨q, hq, hf⟩ := hf
  obtain rfl := ah_p1_i hq
  exact lv_i2l C.1 C.2.1 hd rfl (hJ _ _ _ _ hf ls H locs hl hP hD hS)
theorem as_l2i (C : ah_C p s m args meth c cc nL own ret s0 D tc A) (hd : decode cc pc = .ok (.l2i, 1)) : ah_Snd (ah_G p l e R s m args below meth c nL D tc ad A res) res pc (ah_l2i (pc + 1)) := by
  intro J hJ lv st h hf ls H locs hl hP hD hS
  replace hf := Option.bind_eq_some_iff.mp hf
  obtain ⟨q, hq, hf⟩ := hf
  obtain rfl := ah_g1_i hq
  exact lv_l2i C.1 C.2.1 hd rfl (hJ _ _ _ _ hf ls H locs hl hP hD hS)
theorem as_lcmp (C : ah_C p s m args meth c cc nL own ret s0 D tc A) (hd : decode cc pc = .ok (.lcmp, 1)) : ah_Snd (ah_G p l e R s m args below meth c nL D tc ad A res) res pc (ah_lcmp (pc + 1)) := by
  intro J hJ lv st h hf ls H locs hl hP hD hS
  replace hf := Option.bind_eq_some_iff.mp hf
  obtain ⟨q, hq, hf⟩ := hf
  obtain rfl := ah_g2_i hq
  exact W.lcmp C.1 C.2.1 hd (hJ _ _ _ _ hf ls H locs hl hP hD hS)
theorem as_dupR (C : ah_C p s m args meth c cc nL own ret s0 D tc A) (hd : decode cc pc = .ok (.dup, 1)) : ah_Snd (ah_G p l e R s m args below meth c nL D tc ad A res) res pc (ah_dupR (pc + 1)) := by
  intro J hJ lv st h hf ls H locs hl hP hD hS
  replace hf := Option.bind_eq_some_iff.mp hf
  obtain ⟨q, hq, hf⟩ := hf
  obtain rfl := ah_q1_i hq
  exact lv_dup C.1 C.2.1 hd rfl (hJ _ _ _ _ hf ls H locs hl hP hD hS)
theorem as_dup2 (C : ah_C p s m args meth c cc nL own ret s0 D tc A) (hd : decode cc pc = .ok (.dup2, 1)) : ah_Snd (ah_G p l e R s m args below meth c nL D tc ad A res) res pc (ah_dup2 (pc + 1)) := by
  intro J hJ lv st h hf ls H locs hl hP hD hS
  replace hf := Option.bind_eq_some_iff.mp hf
  obtain ⟨q, hq, hf⟩ := hf
  obtain rfl := ah_qi_i hq
  exact lv_dup2_11 C.1 C.2.1 hd rfl rfl (hJ _ _ _ _ hf ls H locs hl hP hD hS)
theorem as_goto (C : ah_C p s m args meth c cc nL own ret s0 D tc A) {off : Int} {t : Nat} (hd : decode cc pc = .ok (.goto off, 3)) (ht : (pc : Int) + off = (t : Int)) : ah_Snd (ah_G p l e R s m args below meth c nL D tc ad A res) res pc (ah_goto t) := by
  intro J hJ lv st h hf ls H locs hl hP hD hS
  exact lv_goto C.1 C.2.1 hd ht (hJ _ _ _ _ hf ls H locs hl hP hD hS)
theorem as_icmp_eq (C : ah_C p s m args meth c cc nL own ret s0 D tc A) {off : Int} {t : Nat} (hd : decode cc pc = .ok (.if_icmp .eq off, 3)) (ht : (pc : Int) + off = (t : Int)) : ah_Snd (ah_G p l e R s m args below meth c nL D tc ad A res) res pc (ah_ceq t (pc + 3)) := by
  intro J hJ lv st h hf ls H locs hl hP hD hS
  replace hf := Option.bind_eq_some_iff.mp hf
  obtain ⟨q, hq, hf⟩ := hf
  obtain rfl := ah_p2_i hq
  refine lv_icmp_eq C.1 C.2.1 hd ht (fun hc => ?_) (fun hc => ?_)
  · rw [if_pos hc] at hf
    exact hJ _ _ _ _ hf ls H locs hl hP hD hS
  · rw [if_neg hc] at hf
    exact hJ _ _ _ _ hf ls H locs hl hP hD hS
theorem as_icmp_ne (C : ah_C p s m args meth c cc nL own ret s0 D tc A) {off : Int} {t : Nat} (hd : decode cc pc = .ok (.if_icmp .ne off, 3)) (ht : (pc : Int) + off = (t : Int)) : ah_Snd (ah_G p l e R s m args below meth c nL D tc ad A res) res pc (ah_ceq (pc + 3) t) := by
  intro J hJ lv st h hf ls H locs hl hP hD hS
  replace hf := Option.bind_eq_some_iff.mp hf
  obtain ⟨q, hq, hf⟩ := hf
  obtain rfl := ah_p2_i hq
  refine lv_icmp_ne C.1 C.2.1 hd ht (fun hc => ?_) (fun hc => ?_)
  · rw [if_neg hc] at hf
    exact hJ _ _ _ _ hf ls H locs hl hP hD hS
  · rw [if_pos hc] at hf
    exact hJ _ _ _ _ hf ls H locs hl hP hD hS
theorem as_icmp_lt (C : ah_C p s m args meth c cc nL own ret s0 D tc A) {off : Int} {t : Nat} (hd : decode cc pc = .ok (.if_icmp .lt off, 3)) (ht : (pc : Int) + off = (t : Int)) : ah_Snd (ah_G p l e R s m args below meth c nL D tc ad A res) res pc (ah_clt t (pc + 3)) := by
  intro J hJ lv st h hf ls H locs hl hP hD hS
  replace hf := Option.bind_eq_some_iff.mp hf
  obtain ⟨q, hq, hf⟩ := hf
  obtain rfl := ah_p2_i hq
  refine lv_icmp_lt C.1 C.2.1 hd ht (fun hc => ?_) (fun hc => ?_)
  · rw [if_pos hc] at hf
    exact hJ _ _ _ _ hf ls H locs hl hP hD hS
  · rw [if_neg hc] at hf
    exact hJ _ _ _ _ hf ls H locs hl hP hD hS
theorem as_icmp_ge (C : ah_C p s m args meth c cc nL own ret s0 D tc A) {off : Int} {t : Nat} (hd : decode cc pc = .ok (.if_icmp .ge off, 3)) (ht : (pc : Int) + off = (t : Int)) : ah_Snd (ah_G p l e R s m args below meth c nL D tc ad A res) res pc (ah_clt (pc + 3) t) := by
  intro J hJ lv st h hf ls H locs hl hP hD hS
  replace hf := Option.bind_eq_some_iff.mp hf
  obtain ⟨q, hq, hf⟩ := hf
  obtain rfl := ah_p2_i hq
  refine lv_icmp_ge C.1 C.2.1 hd ht (fun hc => ?_) (fun hc => ?_)
  · rw [if_neg (Int32.not_lt.mpr hc)] at hf
    exact hJ _ _ _ _ hf ls H locs hl hP hD hS
  · rw [if_pos (Int32.not_le.mp hc)] at hf
    exact hJ _ _ _ _ hf ls H locs hl hP hD hS
theorem as_icmp_gt (C : ah_C p s m args meth c cc nL own ret s0 D tc A) {off : Int} {t : Nat} (hd : decode cc pc = .ok (.if_icmp .gt off, 3)) (ht : (pc : Int) + off = (t : Int)) : ah_Snd (ah_G p l e R s m args below meth c nL D tc ad A res) res pc (ah_cgt t (pc + 3)) := by
  intro J hJ lv st h hf ls H locs hl hP hD hS
  replace hf := Option.bind_eq_some_iff.mp hf
  obtain ⟨q, hq, hf⟩ := hf
  obtain rfl := ah_p2_i hq
  refine lv_icmp_gt C.1 C.2.1 hd ht (fun hc => ?_) (fun hc => ?_)
  · rw [if_pos hc] at hf
    exact hJ _ _ _ _ hf ls H locs hl hP hD hS
  · rw [if_neg hc] at hf
    exact hJ _ _ _ _ hf ls H locs hl hP hD hS
theorem as_icmp_le (C : ah_C p s m args meth c cc nL own ret s0 D tc A) {off : Int} {t : Nat} (hd : decode cc pc = .ok (.if_icmp .le off, 3)) (ht : (pc : Int) + off = (t : Int)) : ah_Snd (ah_G p l e R s m args below meth c nL D tc ad A res) res pc (ah_cgt (pc + 3) t) := by
  intro J hJ lv st h hf ls H locs hl hP hD hS
  replace hf := Option.bind_eq_some_iff.mp hf
  obtain ⟨q, hq, hf⟩ := hf
  obtain rfl := ah_p2_i hq
  refine lv_icmp_le C.1 C.2.1 hd ht (fun hc => ?_) (fun hc => ?_)
  · rw [if_neg (Int32.not_lt.mpr hc)] at hf
    exact hJ _ _ _ _ hf ls H locs hl hP hD hS
  · rw [if_pos (Int32.not_le.mp hc)] at hf
    exact hJ _ _ _ _ hf ls H locs hl hP hD hS
theorem as_if_eq (C : ah_C p s m args meth c cc nL own ret s0 D tc A) {off : Int} {t : Nat} (hd : decode cc pc = .ok (.ifCond .eq off, 3)) (ht : (pc : Int) + off = (t : Int)) : ah_Snd (ah_G p l e R s m args below meth c nL D tc ad A res) res pc (ah_zeq t (pc + 3)) := by
  intro J hJ lv st h hf ls H locs hl hP hD hS
  replace hf := Option.bind_eq_some_iff.mp hf
  obtain ⟨q, hq, hf⟩ := hf
  obtain rfl := ah_p1_i hq
  refine lv_if_eq C.1 C.2.1 hd ht (fun hc => ?_) (fun hc => ?_)
  · rw [if_pos hc] at hf
    exact hJ _ _ _ _ hf ls H locs hl hP hD hS
  · rw [if_neg hc] at hf
    exact hJ _ _ _ _ hf ls H locs hl hP hD hS
theorem as_if_ne (C : ah_C p s m args meth c cc nL own ret s0 D tc A) {off : Int} {t : Nat} (hd : decode cc pc = .ok (.ifCond .ne off, 3)) (ht : (pc : Int) + off = (t : Int)) : ah_Snd (ah_G p l e R s m args below meth c nL D tc ad A res) res pc (ah_zeq (pc + 3) t) := by
  intro J hJ lv st h hf ls H locs hl hP hD hS
  replace hf := Option.bind_eq_some_iff.mp hf
  obtain ⟨q, hq, hf⟩ := hf
  obtain rfl := ah_p1_i hq
  refine lv_if_ne C.1 C.2.1 hd ht (fun hc => ?_) (fun hc => ?_)
  · rw [if_neg hc] at hf
    exact hJ _ _ _ _ hf ls H locs hl hP hD hS
  · rw [if_pos hc] at hf
    exact hJ _ _ _ _ hf ls H locs hl hP hD hS
theorem as_if_lt (C : ah_C p s m args meth c cc nL own ret s0 D tc A) {off : Int} {t : Nat} (hd : decode cc pc = .ok (.ifCond .lt off, 3)) (ht : (pc : Int) + off = (t : Int)) : ah_Snd (ah_G p l e R s m args below meth c nL D tc ad A res) res pc (ah_zlt t (pc + 3)) := by
  intro J hJ lv st h hf ls H locs hl hP hD hS
  replace hf := Option.bind_eq_some_iff.mp hf
  obtain ⟨q, hq, hf⟩ := hf
  obtain rfl := ah_p1_i hq
  refine lv_if_lt C.1 C.2.1 hd ht (fun hc => ?_) (fun hc => ?_)
  · rw [if_pos hc] at hf
    exact hJ _ _ _ _ hf ls H locs hl hP hD hS
  · rw [if_neg hc] at hf
    exact hJ _ _ _ _ hf ls H locs hl hP hD hS
theorem as_if_ge (C : ah_C p s m args meth c cc nL own ret s0 D tc A) {off : Int} {t : Nat} (hd : decode cc pc = .ok (.ifCond .ge off, 3)) (ht : (pc : Int) + off = (t : Int)) : ah_Snd (ah_G p l e R s m args below meth c nL D tc ad A res) res pc (ah_zlt (pc + 3) t) := by
  intro J hJ lv st h hf ls H locs hl hP hD hS
  replace hf := Option.bind_eq_some_iff.mp hf
  obtain ⟨q, hq, hf⟩ := hf
  obtain rfl := ah_p1_i hq
  refine lv_if_ge C.1 C.2.1 hd ht (fun hc => ?_) (fun hc => ?_)
  · rw [if_neg (Int32.not_lt.mpr hc)] at hf
    exact hJ _ _ _ _ hf ls H locs hl hP hD hS
  · rw [if_pos (Int32.not_le.mp hc)] at hf
    exact hJ _ _ _ _ hf ls H locs hl hP hD hS
theorem as_if_gt (C : ah_C p s m args meth c cc nL own ret s0 D tc A) {off : Int} {t : Nat} (hd : decode cc pc = .ok (.ifCond .gt off, 3)) (ht : (pc : Int) + off = (t : Int)) : ah_Snd (ah_G p l e R s m args below meth c nL D tc ad A res) res pc (ah_zgt t (pc + 3)) := by
  intro J hJ lv st h hf ls H locs hl hP hD hS
  replace hf := Option.bind_eq_some_iff.mp hf
  obtain ⟨q, hq, hf⟩ := hf
  obtain rfl := ah_p1_i hq
  refine lv_if_gt C.1 C.2.1 hd ht (fun hc => ?_) (fun hc => ?_)
  · rw [if_pos hc] at hf
    exact hJ _ _ _ _ hf ls H locs hl hP hD hS
  · rw [if_neg hc] at hf
    exact hJ _ _ _ _ hf ls H locs hl hP hD hS
theorem as_if_le (C : ah_C p s m args meth c cc nL own ret s0 D tc A) {off : Int} {t : Nat} (hd : decode cc pc = .ok (.ifCond .le off, 3)) (ht : (pc : Int) + off = (t : Int)) : ah_Snd (ah_G p l e R s m args below meth c nL D tc ad A res) res pc (ah_zgt (pc + 3) t) := by
  intro J hJ lv st h hf ls H locs hl hP hD hS
  replace hf := Option.bind_eq_some_iff.mp hf
  obtain ⟨q, hq, hf⟩ := hf
  obtain rfl := ah_p1_i hq
  refine lv_if_le C.1 C.2.1 hd ht (fun hc => ?_) (fun hc => ?_)
  · rw [if_neg (Int32.not_lt.mpr hc)] at hf
    exact hJ _ _ _ _ hf ls H locs hl hP hD hS
  · rw [if_pos (Int32.not_le.mp hc)] at hf
    exact hJ _ _ _ _ hf ls H locs hl hP hD hS
end AHS
