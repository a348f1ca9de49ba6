/-! the law's calls -/
def lw_A0 (s : State) : Nat → Prop := fun q => s.heap.size ≤ q
section LW1
variable {p : Program} {l : Launch} {e : Env} {R : Room} {s : State} {m : MethodId} {args : Array Value} {below : List Frame} {meth : Method} {c : Code} {cc : ByteArray} {nL : Nat} {own : String} {D : va_G} {tc : Nat → ClassId} {ad : Nat → Nat} {A : Nat → Prop} {pc : Nat} {cells slots : Nat}
/-- what the law's calls ask of the law's own start -/
def lw_C (p : Program) (s : State) (m : MethodId) (args : Array Value) (c : Code) (cc : ByteArray) (nL : Nat) (own : String) (D : va_G) (tc : Nat → ClassId) : Prop := p.tables.exec = Jvm.exec ∧ c.code = cc ∧ c.maxLocals = nL ∧ s.vm.findClass own = some m.cls ∧ (∀ w ∈ ah_TT, w.before args s = true) ∧ va_K D vwCl (ah_tys tc) s
theorem lw_pre (C : lw_C p s m args c cc nL own D tc) {as : List Value} {h : ah_H} {H : Heap} {locs : List Loc} (hP : va_P D vwCl (ah_w ad tc h) H) (hD : va_D A (ah_w ad tc h)) (hS : va_S (lw_A0 s) s.heap H locs) : ∀ U : State, U.heap = H → s.WarmedH U.vm → ah_Pre s D tc ad A as h (as.map (ah_v ad)).toArray U := by
  intro U hU hW
  refine ⟨rfl, by rw [hU]; exact hP, va_K.moved hW.alike C.2.2.2.2.2, hD, hW, by rw [hU]; exact hS.1, fun q hq => ?_⟩
  rw [hU]
  exact hS.2.1 q hq (fun z => Nat.not_lt.mpr z hq)
theorem lw_preD (C : lw_C p s m args c cc nL own D tc) {as : List Value} {h : ah_H} {H : Heap} {locs : List Loc} (hP : va_P D vwCl (ah_w ad tc h) H) (hD : va_D A (ah_w ad tc h)) (hS : va_S (lw_A0 s) s.heap H locs) (hA2 : ∀ q, H.size ≤ q → A q) : ∀ U : State, U.heap = H → s.WarmedH U.vm → at_Pre s D tc ad A as h (as.map (ah_v ad)).toArray U := by
  intro U hU hW
  refine ⟨rfl, by rw [hU]; exact hP, va_K.moved hW.alike C.2.2.2.2.2, hD, ⟨hW, by rw [hU]; exact hS.1, fun q hq => ?_⟩, by rw [hU]; exact hA2⟩
  rw [hU]
  exact hS.2.1 q hq (fun z => Nat.not_lt.mpr z hq)
theorem lw_go {res2 : ah_R} {a : Array Value} {H : Heap} {locs : List Loc} {ls : Array Slot} {st0 rest : List Value} {Q : State → Prop} (hr : va_Run p l e R s m args below meth c H locs cells slots 0 0 (F0 m pc ls st0) rest (ah_Q D tc ad A res2 a) A) (hAA : ∀ q, A q → s.heap.size ≤ q) (hS : va_S (lw_A0 s) s.heap H locs)
    (kk : ∀ (H1 : Heap) (locs1 : List Loc), va_P D vwCl (ah_w ad tc res2.2) H1 → va_D A (ah_w ad tc res2.2) → va_S (lw_A0 s) s.heap H1 locs1 → H.size ≤ H1.size → (∀ q : Nat, q < H.size → ¬ A q → H1[q]? = H[q]?) → W p l e R s m args below meth c H1 locs1 cells slots Q (F0 m (pc + 3) ls ((res2.1.map (ah_v ad)).toList ++ rest))) : W p l e R s m args below meth c H locs cells slots Q (F0 m pc ls st0) := by
  intro T hT X
  obtain ⟨v, st₀, t, T', L, h0, X', hL, e1, e2, ⟨hv, hp, hd, hz, hk⟩, st⟩ := hr T hT X
  injection hv with hv
  subst hv
  rw [h0] at hz hk
  obtain ⟨t2, a1, b1⟩ := kk T'.heap (locs ++ L) (by rw [e1]; exact hp) hd
    ⟨Nat.le_trans hS.1 (by rw [e1]; exact hz), fun q h1 h2 => by rw [e1, hk q (Nat.lt_of_lt_of_le h1 hS.1) (fun z => h2 (hAA q z))]; exact hS.2.1 q h1 h2, fun q hq => by
      rcases List.mem_append.mp hq with h | h
      · exact hS.2.2 q h
      · exact hAA _ (hL q h)⟩ (by rw [e1]; exact hz) (fun q h1 h2 => by rw [e1]; exact hk q h1 h2) T' rfl X'
  exact ⟨t2, st t2 a1, b1⟩
theorem lw_goD {res2 : ah_R} {a : Array Value} {H : Heap} {locs : List Loc} {ls : Array Slot} {st0 rest : List Value} {Q : State → Prop} {n0 d : Nat} (hr : va_Run p l e R s m args below meth c H locs cells slots d (40 * d) (F0 m pc ls st0) rest (at_Q D tc ad A n0 res2 a) A) (hAA : ∀ q, A q → s.heap.size ≤ q) (hS : va_S (lw_A0 s) s.heap H locs)
    (kk : ∀ (ad2 : Nat → Nat) (H1 : Heap) (locs1 : List Loc), at_ag n0 ad ad2 → va_P D vwCl (ah_w ad2 tc res2.2) H1 → va_D A (ah_w ad2 tc res2.2) → va_S (lw_A0 s) s.heap H1 locs1 → H.size ≤ H1.size → (∀ q : Nat, q < H.size → ¬ A q → H1[q]? = H[q]?) → W p l e R s m args below meth c H1 locs1 (cells + d) (slots + 40 * d) Q (F0 m (pc + 3) ls ((res2.1.map (ah_v ad2)).toList ++ rest))) : W p l e R s m args below meth c H locs cells slots Q (F0 m pc ls st0) := by
  intro T hT X
  obtain ⟨v, st₀, t, T', L, h0, X', hL, e1, e2, ⟨ad2, hag, hv, hp, hd, hz, hk⟩, st⟩ := hr T hT X
  injection hv with hv
  subst hv
  rw [h0] at hz hk
  obtain ⟨t2, a1, b1⟩ := kk ad2 T'.heap (locs ++ L) hag (by rw [e1]; exact hp) hd
    ⟨Nat.le_trans hS.1 (by rw [e1]; exact hz), fun q h1 h2 => by rw [e1, hk q (Nat.lt_of_lt_of_le h1 hS.1) (fun z => h2 (hAA q z))]; exact hS.2.1 q h1 h2, fun q hq => by
      rcases List.mem_append.mp hq with h | h
      · exact hS.2.2 q h
      · exact hAA _ (hL q h)⟩ (by rw [e1]; exact hz) (fun q h1 h2 => by rw [e1]; exact hk q h1 h2) T' rfl X'
  exact ⟨t2, st t2 a1, b1⟩
theorem lw_good {y : MethodName} {cc2 : ByteArray} {maxL idx : Nat} {ret2 : Option FieldType} {Cn : String} (w1 : Cond.methodLink own idx y ∈ ah_TT) (w2 : Cond.instanceMethod y ∈ ah_TT) (w3 : Cond.selects Cn y y ∈ ah_TT) (w4 : Cond.initialized Cn ∈ ah_TT) (w5 : Cond.code y cc2 maxL ret2 ∈ ah_TT) : GoodIn ah_TT (wsV own idx Cn y (Cond.code y cc2 maxL ret2 :: ah_TT)) := by
  intro w hw
  have hw2 : w ∈ ah_TT := by
    unfold wsV at hw
    rcases List.mem_append.mp hw with hw | hw
    · rcases List.mem_cons.mp hw with rfl | hw
      · exact w1
      rcases List.mem_cons.mp hw with rfl | hw
      · exact w2
      rcases List.mem_cons.mp hw with rfl | hw
      · exact w3
      rcases List.mem_cons.mp hw with rfl | hw
      · exact w4
      cases hw
    · rcases List.mem_cons.mp hw with rfl | hw
      · exact w5
      · exact hw
  exact ⟨hw2, ah_TT_good hw2⟩
/-- a call on an object, of a method that makes nothing -/
theorem lw_callV (C : lw_C p s m args c cc nL own D tc) (hAA : ∀ q, A q → s.heap.size ≤ q) {y : MethodName} {cc2 : ByteArray} {maxL fr lo idx n ci N a : Nat} {ret2 : Option FieldType} {Cn : String} {T : u_T} {F : ah_F} (hM : ah_Met l s D tc ad A y cc2 maxL ret2 fr lo F) (hd : decode cc pc = .ok (.invokevirtual idx, 3)) (hci : vwCl[ci]? = some (Cn, T, N))
    (w1 : Cond.methodLink own idx y ∈ ah_TT) (w2 : Cond.instanceMethod y ∈ ah_TT) (w3 : Cond.selects Cn y y ∈ ah_TT) (w4 : Cond.initialized Cn ∈ ah_TT) (w5 : Cond.code y cc2 maxL ret2 ∈ ah_TT) (hdd : y.cls = Cn ∧ y.cls ≠ "java/lang/invoke/MethodHandle" ∧ y.cls ≠ "java/lang/invoke/VarHandle" ∧ (parseMethodDescriptor y.desc).map (fun d => d.parameters.length) = some n) (hR : fr + 1 ≤ R.frames ∧ 8 + (maxL + 11) + lo ≤ R.locals) (hcs : cells ≤ R.cells ∧ slots ≤ R.slots)
    {h : ah_H} {fs As rest : List Value} {res2 : ah_R} {ls : Array Slot} {H : Heap} {locs : List Loc} {Q : State → Prop} (ha : h[a]? = some (.inr (ci, fs))) (hn : As.length = n) (hF : F (.ref a :: As) h = some res2) (hP : va_P D vwCl (ah_w ad tc h) H) (hD : va_D A (ah_w ad tc h)) (hS : va_S (lw_A0 s) s.heap H locs) (hls : ls.size = nL) (hrm : (rest.map fun v => v.category).sum ≤ 8)
    (kk : ∀ (H1 : Heap) (locs1 : List Loc), va_P D vwCl (ah_w ad tc res2.2) H1 → va_D A (ah_w ad tc res2.2) → va_S (lw_A0 s) s.heap H1 locs1 → H.size ≤ H1.size → (∀ q : Nat, q < H.size → ¬ A q → H1[q]? = H[q]?) → W p l e R s m args below meth c H1 locs1 cells slots Q (F0 m (pc + 3) ls ((res2.1.map (ah_v ad)).toList ++ rest))) : W p l e R s m args below meth c H locs cells slots Q (F0 m pc ls ((As.map (ah_v ad)).reverse ++ .ref (ad a) :: rest)) :=
  lw_go (va_runV (Ts := ah_TT) (As := As.map (ah_v ad)) (rest := rest) ⟨C.1, C.2.1, C.2.2.1, C.2.2.2.1, C.2.2.2.2.1⟩ (hM _ _ _ hF) (cwV n C.2.2.2.2.1 (lw_good w1 w2 w3 w4 w5) rfl rfl rfl hdd hR) ⟨ah_blind, va_recv C.2.2.2.2.2 hP hci (ah_w_get ha), lw_pre C (as := .ref a :: As) hP hD hS⟩ rfl (by rw [List.length_map]; exact hn) hls rfl (lv_room hrm) hd hcs) hAA hS kk
/-- a call on an object, of a method that makes at most d cells -/
theorem lw_callD (C : lw_C p s m args c cc nL own D tc) (hAA : ∀ q, A q → s.heap.size ≤ q) {y : MethodName} {cc2 : ByteArray} {maxL fr lo idx n ci N a d : Nat} {ret2 : Option FieldType} {Cn : String} {T : u_T} {F : ah_F} {I : (Nat → Nat) → Prop} (hM : at_Met l s D tc A y cc2 maxL ret2 fr lo d I F) (hI : I ad) (hd : decode cc pc = .ok (.invokevirtual idx, 3)) (hci : vwCl[ci]? = some (Cn, T, N))
    (w1 : Cond.methodLink own idx y ∈ ah_TT) (w2 : Cond.instanceMethod y ∈ ah_TT) (w3 : Cond.selects Cn y y ∈ ah_TT) (w4 : Cond.initialized Cn ∈ ah_TT) (w5 : Cond.code y cc2 maxL ret2 ∈ ah_TT) (hdd : y.cls = Cn ∧ y.cls ≠ "java/lang/invoke/MethodHandle" ∧ y.cls ≠ "java/lang/invoke/VarHandle" ∧ (parseMethodDescriptor y.desc).map (fun d => d.parameters.length) = some n) (hR : fr + 1 ≤ R.frames ∧ 8 + (maxL + 11) + lo ≤ R.locals) (hcs : cells + d ≤ R.cells ∧ slots + 40 * d ≤ R.slots)
    {h : ah_H} {fs As rest : List Value} {res2 : ah_R} {ls : Array Slot} {H : Heap} {locs : List Loc} {Q : State → Prop} (ha : h[a]? = some (.inr (ci, fs))) (hn : As.length = n) (hF : F (.ref a :: As) h = some res2) (hP : va_P D vwCl (ah_w ad tc h) H) (hD : va_D A (ah_w ad tc h)) (hS : va_S (lw_A0 s) s.heap H locs) (hA2 : ∀ q, H.size ≤ q → A q) (hls : ls.size = nL) (hrm : (rest.map fun v => v.category).sum ≤ 8)
    (kk : ∀ (ad2 : Nat → Nat) (H1 : Heap) (locs1 : List Loc), at_ag h.length ad ad2 → va_P D vwCl (ah_w ad2 tc res2.2) H1 → va_D A (ah_w ad2 tc res2.2) → va_S (lw_A0 s) s.heap H1 locs1 → H.size ≤ H1.size → (∀ q : Nat, q < H.size → ¬ A q → H1[q]? = H[q]?) → W p l e R s m args below meth c H1 locs1 (cells + d) (slots + 40 * d) Q (F0 m (pc + 3) ls ((res2.1.map (ah_v ad2)).toList ++ rest))) : W p l e R s m args below meth c H locs cells slots Q (F0 m pc ls ((As.map (ah_v ad)).reverse ++ .ref (ad a) :: rest)) :=
  lw_goD (va_runV (Ts := ah_TT) (As := As.map (ah_v ad)) (rest := rest) ⟨C.1, C.2.1, C.2.2.1, C.2.2.2.1, C.2.2.2.2.1⟩ (hM ad _ _ _ hI hF) (cwV n C.2.2.2.2.1 (lw_good w1 w2 w3 w4 w5) rfl rfl rfl hdd hR) ⟨at_blind, va_recv C.2.2.2.2.2 hP hci (ah_w_get ha), lw_preD C (as := .ref a :: As) hP hD hS hA2⟩ rfl (by rw [List.length_map]; exact hn) hls rfl (lv_room hrm) hd hcs) hAA hS kk
/-- a constructor -/
theorem lw_callI (C : lw_C p s m args c cc nL own D tc) (hAA : ∀ q, A q → s.heap.size ≤ q) {y : MethodName} {cc2 : ByteArray} {maxL fr lo idx n a d : Nat} {F : ah_F} (hM : at_Met l s D tc A y cc2 maxL none fr lo d (fun _ => True) F) (hd : decode cc pc = .ok (.invokespecial idx, 3))
    (w1 : Cond.methodLink own idx y ∈ ah_TT) (w2 : Cond.instanceMethod y ∈ ah_TT) (w4 : Cond.initialized y.cls ∈ ah_TT) (w5 : Cond.code y cc2 maxL none ∈ ah_TT) (hy : y.name = "<init>") (hdd : y.cls ≠ "java/lang/invoke/MethodHandle" ∧ y.cls ≠ "java/lang/invoke/VarHandle" ∧ (parseMethodDescriptor y.desc).map (fun d => d.parameters.length) = some n) (hR : fr + 1 ≤ R.frames ∧ 8 + (maxL + 11) + lo ≤ R.locals) (hcs : cells + d ≤ R.cells ∧ slots + 40 * d ≤ R.slots)
    {h : ah_H} {As rest : List Value} {res2 : ah_R} {ls : Array Slot} {H : Heap} {locs : List Loc} {Q : State → Prop} (hn : As.length = n) (hF : F (.ref a :: As) h = some res2) (hP : va_P D vwCl (ah_w ad tc h) H) (hD : va_D A (ah_w ad tc h)) (hS : va_S (lw_A0 s) s.heap H locs) (hA2 : ∀ q, H.size ≤ q → A q) (hls : ls.size = nL) (hrm : (rest.map fun v => v.category).sum ≤ 8)
    (kk : ∀ (ad2 : Nat → Nat) (H1 : Heap) (locs1 : List Loc), at_ag h.length ad ad2 → va_P D vwCl (ah_w ad2 tc res2.2) H1 → va_D A (ah_w ad2 tc res2.2) → va_S (lw_A0 s) s.heap H1 locs1 → H.size ≤ H1.size → (∀ q : Nat, q < H.size → ¬ A q → H1[q]? = H[q]?) → W p l e R s m args below meth c H1 locs1 (cells + d) (slots + 40 * d) Q (F0 m (pc + 3) ls ((res2.1.map (ah_v ad2)).toList ++ rest))) : W p l e R s m args below meth c H locs cells slots Q (F0 m pc ls ((As.map (ah_v ad)).reverse ++ .ref (ad a) :: rest)) := by
  have hG : GoodIn ah_TT (Cond.code y cc2 maxL none :: ah_TT) := by
    intro w hw
    have hw2 : w ∈ ah_TT := by
      rcases List.mem_cons.mp hw with rfl | hw
      · exact w5
      · exact hw
    exact ⟨hw2, ah_TT_good hw2⟩
  exact lw_goD (va_runI (Ts := ah_TT) (As := As.map (ah_v ad)) (rest := rest) ⟨C.1, C.2.1, C.2.2.1, C.2.2.2.1, C.2.2.2.2.1⟩ (hM ad _ _ _ trivial hF) (cwI n C.2.2.2.2.1 hG rfl rfl rfl (C.2.2.2.2.1 _ w4) (C.2.2.2.2.1 _ w1) (C.2.2.2.2.1 _ w2) hy hdd hR) ⟨at_blind, lw_preD C (as := .ref a :: As) hP hD hS hA2⟩ rfl (by rw [List.length_map]; exact hn) hls rfl (lv_room hrm) hd hcs) hAA hS kk
end LW1
