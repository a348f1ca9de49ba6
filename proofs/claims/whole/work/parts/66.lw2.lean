/-! the law: both worlds -/
def lw_A2 (ad2 : Nat → Nat) : Nat → Prop := fun q => ∃ k, k < 15 ∧ q = ad2 k
def lw_A1 (s : State) (ad2 : Nat → Nat) : Nat → Prop := fun q => s.heap.size ≤ q ∧ ¬ lw_A2 ad2 q
def lw_St (s : State) (D : va_G) (tc : Nat → ClassId) (q1 zz : Nat) (ad2 : Nat → Nat) (k : Nat) (H : Heap) (locs : List Loc) : Prop := ∃ (ad1 : Nat → Nat) (n ln sn : Nat) (z : Nat → Int32) (w : Nat → Nat → Int32) (b : Int64) (y : Nat → Int32) (v : Nat → Nat → Int32) (c : Int64), ad1 0 = q1 ∧ ad1 1000 = zz ∧ va_P D vwCl (ah_w ad1 tc (hx z w b)) H ∧ va_D (lw_A1 s ad2) (ah_w ad1 tc (hx z w b)) ∧ va_P D vwCl (ah_w ad2 tc (hm y v c)) H ∧ va_D (lw_A2 ad2) (ah_w ad2 tc (hm y v c)) ∧ gm_R k n ln sn z w y v ∧ va_S (lw_A0 s) s.heap H locs
/-- what holds in all of the walk -/
def lw_Fx (s : State) (D : va_G) (tc : Nat → ClassId) (zz : Nat) (ad2 : Nat → Nat) : Prop := va_K D vwCl (ah_tys tc) s ∧ ah_N0 s ∧ at_N0 s ∧ at_N1 s ∧ (∀ ad : Nat → Nat, ad 1000 = zz → ah_Z0 s ad) ∧ ad2 1000 = zz ∧ ∀ k, k < 15 → s.heap.size ≤ ad2 k
theorem gm_R_up {K n ln sn : Nat} {z : Nat → Int32} {w : Nat → Nat → Int32} {y : Nat → Int32} {v : Nat → Nat → Int32} (h : gm_R K n ln sn z w y v) (hK : K + 1 ≤ 1000) : gm_R (K + 1) n ln sn z w y v := by
  obtain ⟨h1, h2, h3, h4, c, ⟨h5, h6⟩, h7⟩ := h
  exact ⟨h1, h2, h3, h4, c, ⟨Nat.le_succ_of_le h5, hK⟩, h7⟩
theorem lw_St.up {s : State} {D : va_G} {tc : Nat → ClassId} {q1 zz : Nat} {ad2 : Nat → Nat} {k : Nat} {H : Heap} {locs : List Loc} (h : lw_St s D tc q1 zz ad2 k H locs) (hk : k + 1 ≤ 1000) : lw_St s D tc q1 zz ad2 (k + 1) H locs := by
  obtain ⟨ad1, n, ln, sn, z, w, b, y, v, c, h1, h2, h3, h4, h5, h6, h7, h8⟩ := h
  exact ⟨ad1, n, ln, sn, z, w, b, y, v, c, h1, h2, h3, h4, h5, h6, gm_R_up h7 hk, h8⟩
theorem lw_St.S {s : State} {D : va_G} {tc : Nat → ClassId} {q1 zz : Nat} {ad2 : Nat → Nat} {k : Nat} {H : Heap} {locs : List Loc} (h : lw_St s D tc q1 zz ad2 k H locs) : va_S (lw_A0 s) s.heap H locs := by
  obtain ⟨ad1, n, ln, sn, z, w, b, y, v, c, h1, h2, h3, h4, h5, h6, h7, h8⟩ := h
  exact h8
/-- a world that a call doesn't touch -/
theorem lw_kept {D : va_G} {A B : Nat → Prop} {ws : va_W} {H H1 : Heap} (hP : va_P D vwCl ws H) (hD : va_D B ws) (hAB : ∀ q, B q → ¬ A q) (hk : ∀ q : Nat, q < H.size → ¬ A q → H1[q]? = H[q]?) : va_P D vwCl ws H1 :=
  hP.kept (fun k x hx => hk x.1 ((hP k x hx).lt) (hAB _ (hD.2 k x hx)))
theorem lw_A12 {s : State} {ad2 : Nat → Nat} : ∀ q, lw_A1 s ad2 q → ¬ lw_A2 ad2 q := fun _ h => h.2
theorem lw_A21 {s : State} {ad2 : Nat → Nat} : ∀ q, lw_A2 ad2 q → ¬ lw_A1 s ad2 q := fun _ h h1 => h1.2 h
/-- a pair of methods -/
def lw_Pr {α : Type} (mk : α → Value) (X M : ah_F) (as : List Value) : Prop := ∀ (K n ln sn : Nat) (z : Nat → Int32) (w : Nat → Nat → Int32) (b : Int64) (y : Nat → Int32) (v : Nat → Nat → Int32) (c : Int64), gm_R K n ln sn z w y v → ∃ (r : α) (n2 ln2 sn2 : Nat) (z2 : Nat → Int32) (w2 : Nat → Nat → Int32) (b2 : Int64) (y2 : Nat → Int32) (v2 : Nat → Nat → Int32) (c2 : Int64), X as (hx z w b) = some (some (mk r), hx z2 w2 b2) ∧ M as (hm y v c) = some (some (mk r), hm y2 v2 c2) ∧ gm_R K n2 ln2 sn2 z2 w2 y2 v2
theorem lw_of {X M : ah_F} {as : List Value} (h : gm_Pair X M as) : lw_Pr Value.int X M as := h
theorem lw_ofL {X M : ah_F} {as : List Value} (h : gm_PairL X M as) : lw_Pr Value.long X M as := by
  intro K n ln sn z w b y v c hR
  obtain ⟨r, z2, w2, b2, y2, v2, c2, h1, h2, h3⟩ := h K n ln sn z w b y v c hR
  exact ⟨r, n, ln, sn, z2, w2, b2, y2, v2, c2, h1, h2, h3⟩
section LW2
variable {p : Program} {l : Launch} {e : Env} {s : State} {m : MethodId} {below : List Frame} {meth : Method} {c : Code} {b L : Nat} {xs : Nat → Int32} {D : va_G} {tc : Nat → ClassId} {q1 zz : Nat} {ad2 : Nat → Nat} {k : Nat} {H : Heap} {locs : List Loc} {ls : Array Slot} {Q : State → Prop}
theorem lw_ctx (C0 : lw_At p s m meth c b L xs) (hK : va_K D vwCl (ah_tys tc) s) : lw_C p s m #[Value.ref b] c code 4 "GloveSaintLaw" D tc := by
  obtain ⟨hx, hb, hr, hml, hown, hts, hX, hbl, hlocks, hgv⟩ := C0
  exact ⟨hx, hb, hml, hown, fun w hw => hts w (List.mem_filter.mp hw).1, hK⟩
/-- an int of the script -/
theorem lw_arg (C0 : lw_At p s m meth c b L xs) {st : List Value} {cells slots pc : Nat} {j : Int} {J : Int32} (hl : lv_has ls 4 [(0, .ref b), (1, .ref q1), (2, .ref (ad2 0)), (3, .int (nI (4 * k)))]) (hS : va_S (lw_A0 s) s.heap H locs) (hin : vp_in (nI (4 * k) + J) L) (hj : Int32.ofInt j = J)
    (d0 : decode code pc = .ok (.aload_n 0, 1)) (d1 : decode code (pc + 1) = .ok (.iload_n 3, 1)) (d2 : decode code (pc + 2) = .ok (.iconst j, 1)) (d3 : decode code (pc + 3) = .ok (.iadd, 1)) (d4 : decode code (pc + 4) = .ok (.iaload, 1))
    (kk : W p l e room_1 s m #[Value.ref b] below meth c H locs cells slots Q (F0 m (pc + 5) ls (.int (xs (nI (4 * k) + J).toNatClampNeg) :: st))) : W p l e room_1 s m #[Value.ref b] below meth c H locs cells slots Q (F0 m pc ls st) := by
  obtain ⟨hx, hb, hr, hml, hown, hts, hX, hbl, hlocks, hgv⟩ := C0
  have hbA : ¬ lw_A0 s b := Nat.not_le.mpr hbl
  refine lv_aload_n hx hb d0 rfl (lv_at hl 0 rfl) ?_
  refine lv_iload_n hx hb d1 rfl (lv_at hl 3 rfl) ?_
  refine lv_iconst hx hb d2 hj ?_
  refine lv_iadd hx hb d3 ?_
  exact va_sld hx hb hX hbl hbA hS hin d4 kk
theorem lw_in (hk : 4 * k + 4 ≤ L) (hL : L ≤ 256) (j : Nat) (hj : j < 4) : vp_in (nI (4 * k) + nI j) L := by
  rw [nI_add]
  exact vp_in_nI (by omega) (by omega)
theorem lw_in1 (hk : 4 * k + 4 ≤ L) (hL : L ≤ 256) : vp_in (nI (4 * k) + 1) L := lw_in hk hL 1 (by omega)
theorem lw_in2 (hk : 4 * k + 4 ≤ L) (hL : L ≤ 256) : vp_in (nI (4 * k) + 2) L := lw_in hk hL 2 (by omega)
theorem lw_in3 (hk : 4 * k + 4 ≤ L) (hL : L ≤ 256) : vp_in (nI (4 * k) + 3) L := lw_in hk hL 3 (by omega)
/-- the same call on both -/
theorem lw_two {α : Type} {mk : α → Value} (hmk : ∀ (r : α) (ad : Nat → Nat), ah_v ad (mk r) = mk r) (hmc : ∀ r : α, (mk r).category ≤ 2) (C0 : lw_At p s m meth c b L xs) (Fx : lw_Fx s D tc zz ad2) (hk64 : k ≤ 64) {X M : ah_F} {As : List Value} (hpr : lw_Pr mk X M (.ref 0 :: As)) (hAs : ∀ ad : Nat → Nat, As.map (ah_v ad) = As) {n pcx pcm : Nat} (hn : As.length = n)
    {yx : MethodName} {ccx : ByteArray} {maxX frx lox idx1 : Nat} {retx : Option FieldType} (hMx : ∀ ad : Nat → Nat, ah_W0 s ad (lw_A1 s ad2) → ah_Met l s D tc ad (lw_A1 s ad2) yx ccx maxX retx frx lox X) (d1 : decode code pcx = .ok (.invokevirtual idx1, 3))
    (w1 : Cond.methodLink "GloveSaintLaw" idx1 yx ∈ ah_TT) (w2 : Cond.instanceMethod yx ∈ ah_TT) (w3 : Cond.selects RX11 yx yx ∈ ah_TT) (w4 : Cond.initialized RX11 ∈ ah_TT) (w5 : Cond.code yx ccx maxX retx ∈ ah_TT) (hdx : yx.cls = RX11 ∧ yx.cls ≠ "java/lang/invoke/MethodHandle" ∧ yx.cls ≠ "java/lang/invoke/VarHandle" ∧ (parseMethodDescriptor yx.desc).map (fun d => d.parameters.length) = some n) (hRx : frx + 1 ≤ room_1.frames ∧ 8 + (maxX + 11) + lox ≤ room_1.locals)
    {ym : MethodName} {ccm : ByteArray} {maxM frm lom idx2 : Nat} {retm : Option FieldType} (hMm : ah_W0 s ad2 (lw_A2 ad2) → ah_Met l s D tc ad2 (lw_A2 ad2) ym ccm maxM retm frm lom M) (d2 : decode code pcm = .ok (.invokevirtual idx2, 3))
    (u1 : Cond.methodLink "GloveSaintLaw" idx2 ym ∈ ah_TT) (u2 : Cond.instanceMethod ym ∈ ah_TT) (u3 : Cond.selects RX12 ym ym ∈ ah_TT) (u4 : Cond.initialized RX12 ∈ ah_TT) (u5 : Cond.code ym ccm maxM retm ∈ ah_TT) (hdm : ym.cls = RX12 ∧ ym.cls ≠ "java/lang/invoke/MethodHandle" ∧ ym.cls ≠ "java/lang/invoke/VarHandle" ∧ (parseMethodDescriptor ym.desc).map (fun d => d.parameters.length) = some n) (hRm : frm + 1 ≤ room_1.frames ∧ 8 + (maxM + 11) + lom ≤ room_1.locals)
    (hS : lw_St s D tc q1 zz ad2 k H locs) (hls : ls.size = 4)
    (mid : ∀ (H1 : Heap) (locs1 : List Loc) (r : α), va_S (lw_A0 s) s.heap H1 locs1 → W p l e room_1 s m #[Value.ref b] below meth c H1 locs1 (60 + 7 * k) (40 * (60 + 7 * k)) Q (F0 m pcm ls (As.reverse ++ .ref (ad2 0) :: [mk r])) → W p l e room_1 s m #[Value.ref b] below meth c H1 locs1 (60 + 7 * k) (40 * (60 + 7 * k)) Q (F0 m (pcx + 3) ls [mk r]))
    (fin : ∀ (H1 : Heap) (locs1 : List Loc) (r : α), lw_St s D tc q1 zz ad2 k H1 locs1 → W p l e room_1 s m #[Value.ref b] below meth c H1 locs1 (60 + 7 * k) (40 * (60 + 7 * k)) Q (F0 m (pcm + 3) ls [mk r, mk r])) : W p l e room_1 s m #[Value.ref b] below meth c H locs (60 + 7 * k) (40 * (60 + 7 * k)) Q (F0 m pcx ls (As.reverse ++ [.ref q1])) := by
  obtain ⟨ad1, n1, ln, sn, z, w, b1, y, v, c1, h1, h2, hP1, hD1, hP2, hD2, hR, hS⟩ := hS
  obtain ⟨hK, hN0, hN1, hN2, hZ, hz2, hsz⟩ := Fx
  have C := lw_ctx C0 hK
  obtain ⟨r, n2, ln2, sn2, za, wa, ba, ya, va, ca, r1, r2, hR2⟩ := hpr k n1 ln sn z w b1 y v c1 hR
  have hA1 : ∀ q, lw_A1 s ad2 q → s.heap.size ≤ q := fun _ h => h.1
  have hA2 : ∀ q, lw_A2 ad2 q → s.heap.size ≤ q := fun q h => by
    obtain ⟨j, hj, rfl⟩ := h
    exact hsz j hj
  have hcs : 60 + 7 * k ≤ room_1.cells ∧ 40 * (60 + 7 * k) ≤ room_1.slots := ⟨by show 60 + 7 * k ≤ 600000; omega, by show 40 * (60 + 7 * k) ≤ 7302250; omega⟩
  have hW1 : ah_W0 s ad1 (lw_A1 s ad2) := ⟨hA1, hN0, hZ ad1 h2⟩
  have hW2 : ah_W0 s ad2 (lw_A2 ad2) := ⟨hA2, hN0, hZ ad2 hz2⟩
  have g1 := lw_callV (below := below) (meth := meth) (e := e) (R := room_1) (cells := 60 + 7 * k) (slots := 40 * (60 + 7 * k)) (a := 0) (rest := []) (ls := ls) (Q := Q) C hA1 (hMx ad1 hW1) d1 (ci := 11) (T := TX11) (N := 6) rfl w1 w2 w3 w4 w5 hdx hRx hcs (h := hx z w b1) rfl hn r1 hP1 hD1 hS hls (Nat.zero_le _)
  rw [hAs, h1] at g1
  refine g1 (fun H1 locs1 hP1 hD1 hS hz hkp => ?_)
  have hP2 := lw_kept hP2 hD2 lw_A21 hkp
  show W p l e room_1 s m #[Value.ref b] below meth c H1 locs1 (60 + 7 * k) (40 * (60 + 7 * k)) Q (F0 m (pcx + 3) ls [ah_v ad1 (mk r)])
  rw [hmk]
  refine mid H1 locs1 r hS ?_
  have hrm : ([mk r].map fun v => v.category).sum ≤ 8 := by
    have := hmc r
    simp only [List.map_cons, List.map_nil, List.sum_cons, List.sum_nil]
    omega
  have g2 := lw_callV (below := below) (meth := meth) (e := e) (R := room_1) (cells := 60 + 7 * k) (slots := 40 * (60 + 7 * k)) (a := 0) (rest := [mk r]) (ls := ls) (Q := Q) C hA2 (hMm hW2) d2 (ci := 12) (T := TX12) (N := 30) rfl u1 u2 u3 u4 u5 hdm hRm hcs (h := hm y v c1) rfl hn r2 hP2 hD2 hS hls hrm
  rw [hAs] at g2
  refine g2 (fun H2 locs2 hP2 hD2 hS hz hkp => ?_)
  have hP1 := lw_kept hP1 hD1 lw_A12 hkp
  show W p l e room_1 s m #[Value.ref b] below meth c H2 locs2 (60 + 7 * k) (40 * (60 + 7 * k)) Q (F0 m (pcm + 3) ls [ah_v ad2 (mk r), mk r])
  rw [hmk]
  exact fin H2 locs2 r ⟨ad1, n2, ln2, sn2, za, wa, ba, ya, va, ca, h1, h2, hP1, hD1, hP2, hD2, hR2, hS⟩
def lw_Fin (p : Program) (l : Launch) (e : Env) (s : State) (m : MethodId) (below : List Frame) (meth : Method) (c : Code) (b : Nat) (D : va_G) (tc : Nat → ClassId) (q1 zz : Nat) (ad2 : Nat → Nat) (k : Nat) (ls : Array Slot) (Q : State → Prop) : Prop := ∀ (H : Heap) (locs : List Loc), lw_St s D tc q1 zz ad2 (k + 1) H locs → W p l e room_1 s m #[Value.ref b] below meth c H locs (60 + 7 * (k + 1)) (40 * (60 + 7 * (k + 1))) Q (F0 m 791 ls [])
theorem lw_eq (C0 : lw_At p s m meth c b L xs) (hk64 : k ≤ 64) (fin : lw_Fin p l e s m below meth c b D tc q1 zz ad2 k ls Q) {pc : Nat} {off : Int} (hd : decode code pc = .ok (.if_icmp .eq off, 3)) (ht : (pc : Int) + off = ((791 : Nat) : Int)) {r : Int32} (hS : lw_St s D tc q1 zz ad2 k H locs) : W p l e room_1 s m #[Value.ref b] below meth c H locs (60 + 7 * k) (40 * (60 + 7 * k)) Q (F0 m pc ls [.int r, .int r]) :=
  lv_icmp_eq (tgt := 791) C0.1 C0.2.1 hd ht (fun _ => W.widen (by omega) (by omega) (fin H locs (hS.up (by omega)))) (fun h => absurd rfl h)
end LW2
theorem lw_cmp (r : Int64) : lg_cmp r r = 0 := by simp [lg_cmp]
