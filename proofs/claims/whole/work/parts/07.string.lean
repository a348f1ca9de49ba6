/-! the letters of the kinds: the place of a letter in "sgkrm" -/
def ah_ix (x : Int32) : Int32 := if x = 115 then 0 else if x = 103 then 1 else if x = 107 then 2 else if x = 114 then 3 else if x = 109 then 4 else -1
def ah_idx (n : Nat) : ah_S := fun J lv st h => (ah_qi st).bind fun q => bif Nat.beq q.1 1000 && ah_rm q.2.2 8 then J n lv (.int (ah_ix q.2.1) :: q.2.2) h else none
/-- the text and its bytes -/
def js_W (s0 : State) (ad : Nat → Nat) (A : Nat → Prop) : Prop := (∀ q, A q → s0.heap.size ≤ q) ∧ vk_S 1 [5] [[115, 103, 107, 114, 109]] (fun _ => ad 1000) (fun _ => ad 1001) (fun q => s0.heap.size ≤ q) s0 s0.heap ∧ va_Z "java/lang/String" "COMPACT_STRINGS" "Z" (.int 1) (fun q => s0.heap.size ≤ q) s0 s0.heap
def js_by : Nat → Int32 := fun j => ([115, 103, 107, 114, 109] : List Int32).getD j 0
def js_kv (n : Nat) : ah_S := fun J lv st h => (ah_q1 st).bind fun q => bif Nat.beq q.1 1000 then J n lv (.ref 1001 :: q.2) h else none
def js_kc (n : Nat) : ah_S := fun J lv st h => (ah_q1 st).bind fun q => bif Nat.beq q.1 1000 then J n lv (.int 0 :: q.2) h else none
def js_kl (n : Nat) : ah_S := fun J lv st h => (ah_q1 st).bind fun q => bif Nat.beq q.1 1001 then J n lv (.int 5 :: q.2) h else none
def js_kb (n : Nat) : ah_S := fun J lv st h => (ah_qi st).bind fun q => bif Nat.beq q.1 1001 then (ah_rd js_by 5 q.2.1).bind fun x => J n lv (.int x :: q.2.2) h else none
def js_bret : ah_S := fun _ _ st h => (ah_p1 st).bind fun q => match q.2 with
  | [] => if q.1.toInt8.toInt32 = q.1 then some (some (.int q.1), h) else none
  | _ => none
def js_kI (F : ah_F) (k n : Nat) : ah_S := fun J lv st h => (ah_pop k [] st).bind fun q => (ah_q1 q.1).bind fun r => bif Nat.beq r.1 1000 && ah_rm q.2 8 then (ah_rI (F q.1 h)).bind fun w => J n lv (.int w.1 :: q.2) w.2 else none
section AHZ
variable {p : Program} {l : Launch} {e : Env} {R : Room} {s : State} {m : MethodId} {args : Array Value} {below : List Frame} {meth : Method} {c : Code} {cc : ByteArray} {nL : Nat} {own : String} {ret : Option FieldType} {s0 : State} {D : va_G} {tc : Nat → ClassId} {ad : Nat → Nat} {A : Nat → Prop} {res : ah_R} {pc : Nat}
theorem as_str (C : ah_C p s m args meth c cc nL RX4 ret s0 D tc A) (hW : ah_W0 s0 ad A) (hd : decode cc pc = .ok (.ldc 27, 2)) : ah_Snd (ah_G p l e R s m args below meth c nL D tc ad A res) res pc (ah_push (.ref 1000) (pc + 2)) := by
  intro J hJ lv st h hf ls H locs hl hP hD hS
  obtain ⟨av, hR, hS0, hZ⟩ := hW.2.2
  exact va_ldcS C.1 C.2.1 C.2.2.2.1 (hR.warm C.2.2.2.2.2.2.1.1) hd (hJ _ _ _ _ hf ls H locs hl hP hD hS)
theorem js_S (C : ah_C p s m args meth c cc nL own ret s0 D tc A) (hZ : js_W s0 ad A) : vk_S 1 [5] [[115, 103, 107, 114, 109]] (fun _ => ad 1000) (fun _ => ad 1001) A s s.heap := by
  obtain ⟨e1, e2, e3⟩ := C.2.2.2.2.2.2.1
  exact ((hZ.2.1.narrow hZ.1).moved e1.alike).kept (fun a ha _ => e3 a ha)
theorem js_Z (C : ah_C p s m args meth c cc nL own ret s0 D tc A) (hZ : js_W s0 ad A) : va_Z "java/lang/String" "COMPACT_STRINGS" "Z" (.int 1) A s s.heap := by
  obtain ⟨e1, e2, e3⟩ := C.2.2.2.2.2.2.1
  exact ((hZ.2.2.narrow hZ.1).moved e1.alike).kept (fun a ha _ => e3 a ha)
theorem js_gs (C : ah_C p s m args meth c cc nL own ret s0 D tc A) (hZ : js_W s0 ad A) {index : Nat} (hd : decode cc pc = .ok (.getstatic index, 3)) (w1 : Cond.fieldLink own index "java/lang/String" "COMPACT_STRINGS" "Z" ∈ ah_TT) : ah_Snd (ah_G p l e R s m args below meth c nL D tc ad A res) res pc (ah_push (.int 1) (pc + 3)) := by
  intro J hJ lv st h hf ls H locs hl hP hD hS
  exact va_gets C.1 C.2.1 (js_Z C hZ) hS C.2.2.2.1 (C.2.2.2.2.1 _ w1) (fun _ h => h) hd (hJ _ _ _ _ hf ls H locs hl hP hD hS)
theorem js_gv (C : ah_C p s m args meth c cc nL own ret s0 D tc A) (hZ : js_W s0 ad A) {index : Nat} (hd : decode cc pc = .ok (.getfield index, 3)) (w1 : Cond.fieldLink own index "java/lang/String" "value" "[B" ∈ ah_TT) : ah_Snd (ah_G p l e R s m args below meth c nL D tc ad A res) res pc (js_kv (pc + 3)) := by
  intro J hJ lv st h hf ls H locs hl hP hD hS
  replace hf := Option.bind_eq_some_iff.mp hf
  obtain ⟨q, hq, hf⟩ := hf
  obtain rfl := ah_q1_i hq
  cases hb : Nat.beq q.1 1000 with
  | false => rw [hb] at hf; cases hf
  | true =>
    rw [hb] at hf
    have e1 : q.1 = 1000 := Nat.eq_of_beq_eq_true hb
    have := vk_getf (rest := q.2.map (ah_v ad)) C.1 C.2.1 ((js_S C hZ).1 0 (by omega)).2.2.1 hS C.2.2.2.1 (C.2.2.2.2.1 _ w1) (fun _ h => h) hd (hJ _ _ _ _ hf ls H locs hl hP hD hS)
    rw [List.map_cons, e1]
    exact this
theorem js_gc (C : ah_C p s m args meth c cc nL own ret s0 D tc A) (hZ : js_W s0 ad A) {index : Nat} (hd : decode cc pc = .ok (.getfield index, 3)) (w1 : Cond.fieldLink own index "java/lang/String" "coder" "B" ∈ ah_TT) : ah_Snd (ah_G p l e R s m args below meth c nL D tc ad A res) res pc (js_kc (pc + 3)) := by
  intro J hJ lv st h hf ls H locs hl hP hD hS
  replace hf := Option.bind_eq_some_iff.mp hf
  obtain ⟨q, hq, hf⟩ := hf
  obtain rfl := ah_q1_i hq
  cases hb : Nat.beq q.1 1000 with
  | false => rw [hb] at hf; cases hf
  | true =>
    rw [hb] at hf
    have e1 : q.1 = 1000 := Nat.eq_of_beq_eq_true hb
    have := vk_getf (rest := q.2.map (ah_v ad)) C.1 C.2.1 ((js_S C hZ).1 0 (by omega)).2.1 hS C.2.2.2.1 (C.2.2.2.2.1 _ w1) (fun _ h => h) hd (hJ _ _ _ _ hf ls H locs hl hP hD hS)
    rw [List.map_cons, e1]
    exact this
theorem js_al (C : ah_C p s m args meth c cc nL own ret s0 D tc A) (hZ : js_W s0 ad A) (hd : decode cc pc = .ok (.arraylength, 1)) : ah_Snd (ah_G p l e R s m args below meth c nL D tc ad A res) res pc (js_kl (pc + 1)) := by
  intro J hJ lv st h hf ls H locs hl hP hD hS
  replace hf := Option.bind_eq_some_iff.mp hf
  obtain ⟨q, hq, hf⟩ := hf
  obtain rfl := ah_q1_i hq
  cases hb : Nat.beq q.1 1001 with
  | false => rw [hb] at hf; cases hf
  | true =>
    rw [hb] at hf
    have e1 : q.1 = 1001 := Nat.eq_of_beq_eq_true hb
    have := va_tlen (rest := q.2.map (ah_v ad)) C.1 C.2.1 ((js_S C hZ).1 0 (by omega)).2.2.2 hS (v := 5) rfl hd (hJ _ _ _ _ hf ls H locs hl hP hD hS)
    rw [List.map_cons, e1]
    exact this
theorem js_ba (C : ah_C p s m args meth c cc nL own ret s0 D tc A) (hZ : js_W s0 ad A) (hd : decode cc pc = .ok (.baload, 1)) : ah_Snd (ah_G p l e R s m args below meth c nL D tc ad A res) res pc (js_kb (pc + 1)) := by
  intro J hJ lv st h hf ls H locs hl hP hD hS
  replace hf := Option.bind_eq_some_iff.mp hf
  obtain ⟨q, hq, hf⟩ := hf
  obtain rfl := ah_qi_i hq
  cases hb : Nat.beq q.1 1001 with
  | false => rw [hb] at hf; cases hf
  | true =>
    rw [hb] at hf
    have e1 : q.1 = 1001 := Nat.eq_of_beq_eq_true hb
    replace hf := Option.bind_eq_some_iff.mp hf
    obtain ⟨x, hx, hf⟩ := hf
    obtain ⟨hin, hx2⟩ := ah_rd_i hx
    have := va_tb (rest := q.2.2.map (ah_v ad)) C.1 C.2.1 ((js_S C hZ).1 0 (by omega)).2.2.2 hS hin (v := .int x) (by rw [hx2]; rfl) hd (hJ _ _ _ _ hf ls H locs hl hP hD hS)
    rw [List.map_cons, List.map_cons, e1]
    exact this
theorem js_i2b (C : ah_C p s m args meth c cc nL own ret s0 D tc A) (hd : decode cc pc = .ok (.i2b, 1)) : ah_Snd (ah_G p l e R s m args below meth c nL D tc ad A res) res pc (ah_un (fun x => x.toInt8.toInt32) (pc + 1)) := by
  intro J hJ lv st h hf ls H locs hl hP hD hS
  replace hf := Option.bind_eq_some_iff.mp hf
  obtain ⟨q, hq, hf⟩ := hf
  obtain rfl := ah_p1_i hq
  exact lv_i2b C.1 C.2.1 hd rfl (hJ _ _ _ _ hf ls H locs hl hP hD hS)
theorem js_br (C : ah_C p s m args meth c cc nL own ret s0 D tc A) (hr : ret = some .byte) (hd : decode cc pc = .ok (.ireturn, 1)) : ah_Snd (ah_G p l e R s m args below meth c nL D tc ad A res) res pc js_bret := by
  intro J hJ lv st h hf ls H locs hl hP hD hS
  replace hf := Option.bind_eq_some_iff.mp hf
  obtain ⟨q, hq, hf⟩ := hf
  obtain rfl := ah_p1_i hq
  obtain ⟨x, r⟩ := q
  cases r with
  | nil =>
    by_cases hx : x.toInt8.toInt32 = x
    · have hf : (if x.toInt8.toInt32 = x then some (some (Value.int x), h) else none) = some res := hf
      rw [if_pos hx] at hf
      have e := Option.some.inj hf
      subst e
      exact W.zret (v := x) C.1 C.2.1 (C.2.2.2.2.2.2.2.2.2.trans hr) (show Value.int x.toInt8.toInt32 = .int x by rw [hx]) (fun t ht hW => ⟨rfl, by rw [ht]; exact hP, hD, hS.F ht⟩) hS.2.2 hd C.2.2.2.2.2.2.2.2.1
    · have hf : (if x.toInt8.toInt32 = x then some (some (Value.int x), h) else none) = some res := hf
      rw [if_neg hx] at hf
      cases hf
  | cons v r => cases hf
theorem js_recv (C : ah_C p s m args meth c cc nL own ret s0 D tc A) (hZ : js_W s0 ad A) {H : Heap} {locs : List Loc} (hS : va_S A s.heap H locs) : ∃ cell : Cell, H[ad 1000]? = some cell ∧ cell.vm.isStatics = false ∧ s.vm.findClass "java/lang/String" = some cell.cls := vk_recv (i := 0) (js_S C hZ) (by omega) hS
theorem js_vI (C : ah_C p s m args meth c cc nL own ret s0 D tc A) (hZ : js_W s0 ad A) {y : MethodName} {cc2 : ByteArray} {maxL fr lo idx n : Nat} {ret2 : Option FieldType} {F : ah_F} (hM : ah_Met l s0 D tc ad A y cc2 maxL ret2 fr lo F) (hd : decode cc pc = .ok (.invokevirtual idx, 3))
    (w1 : Cond.methodLink own idx y ∈ ah_TT) (w2 : Cond.instanceMethod y ∈ ah_TT) (w3 : Cond.selects "java/lang/String" y y ∈ ah_TT) (w4 : Cond.initialized "java/lang/String" ∈ ah_TT) (w5 : Cond.code y cc2 maxL ret2 ∈ ah_TT) (hdd : y.cls = "java/lang/String" ∧ y.cls ≠ "java/lang/invoke/MethodHandle" ∧ y.cls ≠ "java/lang/invoke/VarHandle" ∧ (parseMethodDescriptor y.desc).map (fun d => d.parameters.length) = some n) (hR : fr + 1 ≤ R.frames ∧ 8 + (maxL + 11) + lo ≤ R.locals) : ah_Snd (ah_G p l e R s m args below meth c nL D tc ad A res) res pc (js_kI F (n + 1) (pc + 3)) := by
  intro J hJ lv st h hf ls H locs hl hP hD hS
  replace hf := Option.bind_eq_some_iff.mp hf
  obtain ⟨q, h1, hf⟩ := hf
  replace hf := Option.bind_eq_some_iff.mp hf
  obtain ⟨r, h2, hf⟩ := hf
  cases hb : (Nat.beq r.1 1000 && ah_rm q.2 8) with
  | false => rw [hb] at hf; cases hf
  | true =>
    rw [hb] at hf
    replace hf := Option.bind_eq_some_iff.mp hf
    obtain ⟨w, h6, hf⟩ := hf
    rw [Bool.and_eq_true] at hb
    have er : r.1 = 1000 := Nat.eq_of_beq_eq_true hb.1
    obtain ⟨pre, e1, e2, e3⟩ := ah_pop_i h1
    rw [List.append_nil] at e3
    have e4 := ah_q1_i h2
    have hpre : pre = r.2.reverse ++ [.ref r.1] := by
      have : pre.reverse = .ref r.1 :: r.2 := by rw [← e3]; exact e4
      have := congrArg List.reverse this
      rw [List.reverse_reverse] at this
      rw [this]; simp
    have hst : st.map (ah_v ad) = (r.2.map (ah_v ad)).reverse ++ .ref (ad 1000) :: q.2.map (ah_v ad) := by
      rw [e2, hpre, er]
      simp [ah_v]
    rw [hst]
    have hk : r.2.length + 1 = n + 1 := by rw [← e1, hpre]; simp
    have hG : GoodIn ah_TT (wsV own idx "java/lang/String" y (Cond.code y cc2 maxL ret2 :: ah_TT)) := by
      intro w hw
      have hw2 : w ∈ ah_TT := by
        unfold wsV at hw
        rcases List.mem_append.mp hw with hw | hw
        · rcases List.mem_cons.mp hw with rfl | hw
          · exact w1
          rcases List.mem_cons.mp hw with rfl | hw
          · exact w2
          rcases List.mem_cons.mp hw with rfl | hw
          · exact w3
          rcases List.mem_cons.mp hw with rfl | hw
          · exact w4
          cases hw
        · rcases List.mem_cons.mp hw with rfl | hw
          · exact w5
          · exact hw
      exact ⟨hw2, ah_TT_good hw2⟩
    have h6 := ah_rI_i h6
    rw [e4, er] at h6
    exact ah_call (va_runV (Ts := ah_TT) (As := r.2.map (ah_v ad)) (rest := q.2.map (ah_v ad)) ⟨C.1, C.2.1, C.2.2.1, C.2.2.2.1, C.2.2.2.2.1⟩ (hM _ _ _ h6) (cwV n C.2.2.2.2.1 hG rfl rfl rfl hdd hR) ⟨ah_blind, js_recv C hZ hS, ah_pre C (as := .ref 1000 :: r.2) hP hD hS⟩ rfl (by rw [List.length_map]; omega) hl.1 rfl (lv_room (ah_rm_i ad hb.2)) hd ⟨Nat.zero_le _, Nat.zero_le _⟩) hS (fun H locs hP hD hS => hJ _ _ _ _ hf ls H locs hl hP hD hS)
end AHZ
theorem wv_0 : Cond.methodLink RJ1 88 yJ1_canEncode_9a6ad ∈ ah_TT := ah_TT_in (tb_2 (List.mem_of_getElem? (i := 104) rfl)) rfl
theorem wv_1 : Cond.code yJ1_canEncode_9a6ad cJ1_canEncode_9a6ad 1 (some .boolean) ∈ ah_TT := ah_TT_in (tb_2 (List.mem_of_getElem? (i := 106) rfl)) rfl
theorem wv_2 : Cond.static yJ1_canEncode_9a6ad ∈ ah_TT := ah_TT_in (tb_2 (List.mem_of_getElem? (i := 105) rfl)) rfl
theorem wv_3 : Cond.initialized RJ1 ∈ ah_TT := ah_TT_in (tb_1 (List.mem_of_getElem? (i := 11) rfl)) rfl
theorem wv_4 : Cond.methodLink RJ1 92 Lib.Math.max.name ∈ ah_TT := ah_TT_in (tb_2 (List.mem_of_getElem? (i := 107) rfl)) rfl
theorem wv_5 : Cond.static Lib.Math.max.name ∈ ah_TT := ah_TT_in (tb_2 (List.mem_of_getElem? (i := 108) rfl)) rfl
theorem wv_6 : Cond.initialized RJ9 ∈ ah_TT := ah_TT_in (tb_1 (List.mem_of_getElem? (i := 12) rfl)) rfl
theorem wv_7 : Cond.code Lib.Math.max.name Lib.Math.max.code 2 (some .int) ∈ ah_TT := ah_TT_in (tb_2 (List.mem_of_getElem? (i := 109) rfl)) rfl
theorem wv_8 : Cond.methodLink RJ1 38 Lib.Math.min.name ∈ ah_TT := ah_TT_in (tb_2 (List.mem_of_getElem? (i := 110) rfl)) rfl
theorem wv_9 : Cond.static Lib.Math.min.name ∈ ah_TT := ah_TT_in (tb_2 (List.mem_of_getElem? (i := 111) rfl)) rfl
theorem wv_10 : Cond.code Lib.Math.min.name Lib.Math.min.code 2 (some .int) ∈ ah_TT := ah_TT_in (tb_2 (List.mem_of_getElem? (i := 112) rfl)) rfl
theorem wv_11 : Cond.methodLink RJ1 95 yJ1_indexOfChar_4cfef ∈ ah_TT := ah_TT_in (tb_2 (List.mem_of_getElem? (i := 113) rfl)) rfl
theorem wv_12 : Cond.code yJ1_indexOfChar_4cfef cJ1_indexOfChar_4cfef 6 (some .int) ∈ ah_TT := ah_TT_in (tb_2 (List.mem_of_getElem? (i := 115) rfl)) rfl
theorem wv_13 : Cond.static yJ1_indexOfChar_4cfef ∈ ah_TT := ah_TT_in (tb_2 (List.mem_of_getElem? (i := 114) rfl)) rfl
theorem wv_14 : Cond.fieldLink RJ0 38 RJ0 "COMPACT_STRINGS" "Z" ∈ ah_TT := ah_TT_in (tb_2 (List.mem_of_getElem? (i := 91) rfl)) rfl
theorem wv_15 : Cond.fieldLink RJ0 15 RJ0 "coder" "B" ∈ ah_TT := ah_TT_in (tb_6 (List.mem_of_getElem? (i := 57) rfl)) rfl
theorem wv_16 : Cond.fieldLink RJ0 9 RJ0 "value" "[B" ∈ ah_TT := ah_TT_in (tb_6 (List.mem_of_getElem? (i := 58) rfl)) rfl
theorem wv_17 : Cond.methodLink RJ0 335 yJ0_coder_7d493 ∈ ah_TT := ah_TT_in (tb_2 (List.mem_of_getElem? (i := 97) rfl)) rfl
theorem wv_18 : Cond.code yJ0_coder_7d493 cJ0_coder_7d493 1 (some .byte) ∈ ah_TT := ah_TT_in (tb_2 (List.mem_of_getElem? (i := 100) rfl)) rfl
theorem wv_19 : Cond.instanceMethod yJ0_coder_7d493 ∈ ah_TT := ah_TT_in (tb_2 (List.mem_of_getElem? (i := 98) rfl)) rfl
theorem wv_20 : Cond.selects RJ0 yJ0_coder_7d493 yJ0_coder_7d493 ∈ ah_TT := ah_TT_in (tb_2 (List.mem_of_getElem? (i := 99) rfl)) rfl
theorem wv_21 : Cond.initialized RJ0 ∈ ah_TT := ah_TT_in (tb_1 (List.mem_of_getElem? (i := 10) rfl)) rfl
theorem wv_22 : Cond.methodLink RJ0 492 yJ0_isLatin1_aae02 ∈ ah_TT := ah_TT_in (tb_2 (List.mem_of_getElem? (i := 87) rfl)) rfl
theorem wv_23 : Cond.code yJ0_isLatin1_aae02 cJ0_isLatin1_aae02 1 (some .boolean) ∈ ah_TT := ah_TT_in (tb_2 (List.mem_of_getElem? (i := 90) rfl)) rfl
theorem wv_24 : Cond.instanceMethod yJ0_isLatin1_aae02 ∈ ah_TT := ah_TT_in (tb_2 (List.mem_of_getElem? (i := 88) rfl)) rfl
theorem wv_25 : Cond.selects RJ0 yJ0_isLatin1_aae02 yJ0_isLatin1_aae02 ∈ ah_TT := ah_TT_in (tb_2 (List.mem_of_getElem? (i := 89) rfl)) rfl
theorem wv_26 : Cond.methodLink RJ0 505 yJ0_length_8abf5 ∈ ah_TT := ah_TT_in (tb_2 (List.mem_of_getElem? (i := 93) rfl)) rfl
theorem wv_27 : Cond.code yJ0_length_8abf5 cJ0_length_8abf5 1 (some .int) ∈ ah_TT := ah_TT_in (tb_2 (List.mem_of_getElem? (i := 96) rfl)) rfl
theorem wv_28 : Cond.instanceMethod yJ0_length_8abf5 ∈ ah_TT := ah_TT_in (tb_2 (List.mem_of_getElem? (i := 94) rfl)) rfl
theorem wv_29 : Cond.selects RJ0 yJ0_length_8abf5 yJ0_length_8abf5 ∈ ah_TT := ah_TT_in (tb_2 (List.mem_of_getElem? (i := 95) rfl)) rfl
theorem wv_30 : Cond.methodLink RJ0 637 yJ1_indexOf_4cfef ∈ ah_TT := ah_TT_in (tb_2 (List.mem_of_getElem? (i := 101) rfl)) rfl
theorem wv_31 : Cond.code yJ1_indexOf_4cfef cJ1_indexOf_4cfef 4 (some .int) ∈ ah_TT := ah_TT_in (tb_2 (List.mem_of_getElem? (i := 103) rfl)) rfl
theorem wv_32 : Cond.static yJ1_indexOf_4cfef ∈ ah_TT := ah_TT_in (tb_2 (List.mem_of_getElem? (i := 102) rfl)) rfl
theorem wv_33 : Cond.methodLink RJ0 633 yJ0_indexOf_7cf53 ∈ ah_TT := ah_TT_in (tb_2 (List.mem_of_getElem? (i := 83) rfl)) rfl
theorem wv_34 : Cond.code yJ0_indexOf_7cf53 cJ0_indexOf_7cf53 3 (some .int) ∈ ah_TT := ah_TT_in (tb_2 (List.mem_of_getElem? (i := 86) rfl)) rfl
theorem wv_35 : Cond.instanceMethod yJ0_indexOf_7cf53 ∈ ah_TT := ah_TT_in (tb_2 (List.mem_of_getElem? (i := 84) rfl)) rfl
theorem wv_36 : Cond.selects RJ0 yJ0_indexOf_7cf53 yJ0_indexOf_7cf53 ∈ ah_TT := ah_TT_in (tb_2 (List.mem_of_getElem? (i := 85) rfl)) rfl
theorem wv_37 : Cond.instanceMethod yJ0_indexOf_0f7a4 ∈ ah_TT := ah_TT_in (tb_2 (List.mem_of_getElem? (i := 80) rfl)) rfl
theorem wv_38 : Cond.selects RJ0 yJ0_indexOf_0f7a4 yJ0_indexOf_0f7a4 ∈ ah_TT := ah_TT_in (tb_2 (List.mem_of_getElem? (i := 81) rfl)) rfl
theorem wv_39 : Cond.code yJ0_indexOf_0f7a4 cJ0_indexOf_0f7a4 2 (some .int) ∈ ah_TT := ah_TT_in (tb_2 (List.mem_of_getElem? (i := 82) rfl)) rfl
def kJ1_canEncode_9a6ad (f : Nat) : List (Nat × ah_S) := [
  (0, ah_ild 0 1),
  (1, ah_zlt 15 4),
  (4, ah_ild 0 5),
  (5, ah_push (.int (255)) 8),
  (8, ah_cgt 15 11),
  (11, ah_push (.int (1)) 12),
  (12, ah_goto 16),
  (15, ah_push (.int (0)) 16),
  (16, ah_zret)]
def aJ1_canEncode_9a6ad (f : Nat) : ah_F := ah_fun (kJ1_canEncode_9a6ad f) 1 f
theorem mJ1_canEncode_9a6ad {l : Launch} {s0 : State} {D : va_G} {tc : Nat → ClassId} {ad : Nat → Nat} {A : Nat → Prop} (hZ : js_W s0 ad A) (f : Nat) : ah_Met l s0 D tc ad A yJ1_canEncode_9a6ad cJ1_canEncode_9a6ad 1 (some .boolean) 0 0 (aJ1_canEncode_9a6ad f) :=
  ah_met (code := kJ1_canEncode_9a6ad f) hZ.1 (by decide) (fun p e s m args below meth c res C =>
  ah_cons (as_iload_n C dJ1_canEncode_9a6ad_0 rfl) ((ah_cons (as_if_lt C dJ1_canEncode_9a6ad_1 (by decide)) (ah_cons (as_iload_n C dJ1_canEncode_9a6ad_4 rfl) (ah_cons (as_sipush C dJ1_canEncode_9a6ad_5 (by decide)) (ah_cons (as_icmp_gt C dJ1_canEncode_9a6ad_8 (by decide)) (ah_cons (as_iconst C dJ1_canEncode_9a6ad_11 (by decide)) (ah_cons (as_goto C dJ1_canEncode_9a6ad_12 (by decide)) (ah_cons (as_iconst C dJ1_canEncode_9a6ad_15 (by decide)) (ah_cons (as_zret C rfl dJ1_canEncode_9a6ad_16) ah_nil))))))))))
def kJ1_indexOfChar_4cfef (f : Nat) : List (Nat × ah_S) := [
  (7, ah_ild 5 9),
  (0, ah_ild 1 1),
  (1, ah_un (fun x => x.toInt8.toInt32) 2),
  (2, ah_ist 4 4),
  (4, ah_ild 2 5),
  (5, ah_lim 7 [0, 3, 4, 5] (ah_ist 5 7)),
  (9, ah_ild 3 10),
  (10, ah_clt 13 31),
  (13, ah_ald 0 14),
  (14, ah_ild 5 16),
  (16, js_kb 17),
  (17, ah_ild 4 19),
  (19, ah_ceq 22 25),
  (22, ah_ild 5 24),
  (24, ah_iret),
  (25, ah_inc 5 (1) 28),
  (28, ah_lim 7 [0, 3, 4, 5] (ah_goto 7)),
  (31, ah_push (.int (-1)) 32),
  (32, ah_iret)]
def aJ1_indexOfChar_4cfef (f : Nat) : ah_F := ah_fun (kJ1_indexOfChar_4cfef f) 6 f
theorem mJ1_indexOfChar_4cfef {l : Launch} {s0 : State} {D : va_G} {tc : Nat → ClassId} {ad : Nat → Nat} {A : Nat → Prop} (hZ : js_W s0 ad A) (f : Nat) : ah_Met l s0 D tc ad A yJ1_indexOfChar_4cfef cJ1_indexOfChar_4cfef 6 (some .int) 0 0 (aJ1_indexOfChar_4cfef f) :=
  ah_met (code := kJ1_indexOfChar_4cfef f) hZ.1 (by decide) (fun p e s m args below meth c res C =>
  ah_cons (as_iload C dJ1_indexOfChar_4cfef_7) ((ah_cons (as_iload_n C dJ1_indexOfChar_4cfef_0 rfl) (ah_cons (js_i2b C dJ1_indexOfChar_4cfef_1) (ah_cons (as_istore C dJ1_indexOfChar_4cfef_2 (by decide)) (ah_cons (as_iload_n C dJ1_indexOfChar_4cfef_4 rfl) (ah_cons (as_lim (as_istore C dJ1_indexOfChar_4cfef_5 (by decide))) (ah_cons (as_iload_n C dJ1_indexOfChar_4cfef_9 rfl) (ah_cons (as_icmp_ge C dJ1_indexOfChar_4cfef_10 (by decide)) (ah_cons (as_aload_n C dJ1_indexOfChar_4cfef_13 rfl) (ah_cons (as_iload C dJ1_indexOfChar_4cfef_14) (ah_cons (js_ba C hZ dJ1_indexOfChar_4cfef_16) (ah_cons (as_iload C dJ1_indexOfChar_4cfef_17) (ah_cons (as_icmp_ne C dJ1_indexOfChar_4cfef_19 (by decide)) (ah_cons (as_iload C dJ1_indexOfChar_4cfef_22) (ah_cons (as_iret C rfl dJ1_indexOfChar_4cfef_24) (ah_cons (as_iinc C dJ1_indexOfChar_4cfef_25 (by decide) (by decide)) (ah_cons (as_lim (as_goto C dJ1_indexOfChar_4cfef_28 (by decide))) (ah_cons (as_iconst C dJ1_indexOfChar_4cfef_31 (by decide)) (ah_cons (as_iret C rfl dJ1_indexOfChar_4cfef_32) ah_nil))))))))))))))))))))
def kJ1_indexOf_4cfef (f : Nat) : List (Nat × ah_S) := [
  (0, ah_ild 1 1),
  (1, ah_sI (aJ1_canEncode_9a6ad f) 1 4),
  (4, ah_zeq 7 9),
  (7, ah_push (.int (-1)) 8),
  (8, ah_iret),
  (9, ah_ild 2 10),
  (10, ah_push (.int (0)) 11),
  (11, ah_max 14),
  (14, ah_ist 2 15),
  (15, ah_ild 3 16),
  (16, ah_ald 0 17),
  (17, js_kl 18),
  (18, ah_min 21),
  (21, ah_ist 3 22),
  (22, ah_ild 2 23),
  (23, ah_ild 3 24),
  (24, ah_clt 29 27),
  (27, ah_push (.int (-1)) 28),
  (28, ah_iret),
  (29, ah_ald 0 30),
  (30, ah_ild 1 31),
  (31, ah_ild 2 32),
  (32, ah_ild 3 33),
  (33, ah_sI (aJ1_indexOfChar_4cfef f) 4 36),
  (36, ah_iret)]
def aJ1_indexOf_4cfef (f : Nat) : ah_F := ah_fun (kJ1_indexOf_4cfef f) 4 f
theorem mJ1_indexOf_4cfef {l : Launch} {s0 : State} {D : va_G} {tc : Nat → ClassId} {ad : Nat → Nat} {A : Nat → Prop} (hZ : js_W s0 ad A) (f : Nat) : ah_Met l s0 D tc ad A yJ1_indexOf_4cfef cJ1_indexOf_4cfef 4 (some .int) 1 25 (aJ1_indexOf_4cfef f) :=
  ah_met (code := kJ1_indexOf_4cfef f) hZ.1 (by decide) (fun p e s m args below meth c res C =>
  ah_cons (as_iload_n C dJ1_indexOf_4cfef_0 rfl) ((ah_cons (as_sI C (mJ1_canEncode_9a6ad hZ f) dJ1_indexOf_4cfef_1 wv_0 wv_2 wv_3 wv_1 ⟨by decide, by decide, by decide⟩ ⟨by decide, by decide⟩) (ah_cons (as_if_ne C dJ1_indexOf_4cfef_4 (by decide)) (ah_cons (as_iconst C dJ1_indexOf_4cfef_7 (by decide)) (ah_cons (as_iret C rfl dJ1_indexOf_4cfef_8) (ah_cons (as_iload_n C dJ1_indexOf_4cfef_9 rfl) (ah_cons (as_iconst C dJ1_indexOf_4cfef_10 (by decide)) (ah_cons (as_max C dJ1_indexOf_4cfef_11 wv_4 wv_5 wv_6 wv_7 ⟨by decide, by decide⟩) (ah_cons (as_istore_n C dJ1_indexOf_4cfef_14 rfl (by decide)) (ah_cons (as_iload_n C dJ1_indexOf_4cfef_15 rfl) (ah_cons (as_aload_n C dJ1_indexOf_4cfef_16 rfl) (ah_cons (js_al C hZ dJ1_indexOf_4cfef_17) (ah_cons (as_min C dJ1_indexOf_4cfef_18 wv_8 wv_9 wv_6 wv_10 ⟨by decide, by decide⟩) (ah_cons (as_istore_n C dJ1_indexOf_4cfef_21 rfl (by decide)) (ah_cons (as_iload_n C dJ1_indexOf_4cfef_22 rfl) (ah_cons (as_iload_n C dJ1_indexOf_4cfef_23 rfl) (ah_cons (as_icmp_lt C dJ1_indexOf_4cfef_24 (by decide)) (ah_cons (as_iconst C dJ1_indexOf_4cfef_27 (by decide)) (ah_cons (as_iret C rfl dJ1_indexOf_4cfef_28) (ah_cons (as_aload_n C dJ1_indexOf_4cfef_29 rfl) (ah_cons (as_iload_n C dJ1_indexOf_4cfef_30 rfl) (ah_cons (as_iload_n C dJ1_indexOf_4cfef_31 rfl) (ah_cons (as_iload_n C dJ1_indexOf_4cfef_32 rfl) (ah_cons (as_sI C (mJ1_indexOfChar_4cfef hZ f) dJ1_indexOf_4cfef_33 wv_11 wv_13 wv_3 wv_12 ⟨by decide, by decide, by decide⟩ ⟨by decide, by decide⟩) (ah_cons (as_iret C rfl dJ1_indexOf_4cfef_36) ah_nil))))))))))))))))))))))))))
def kJ0_coder_7d493 (f : Nat) : List (Nat × ah_S) := [
  (0, ah_push (.int 1) 3),
  (3, ah_zeq 13 6),
  (6, ah_ald 0 7),
  (7, js_kc 10),
  (10, ah_goto 14),
  (14, js_bret)]
def aJ0_coder_7d493 (f : Nat) : ah_F := ah_fun (kJ0_coder_7d493 f) 1 f
theorem mJ0_coder_7d493 {l : Launch} {s0 : State} {D : va_G} {tc : Nat → ClassId} {ad : Nat → Nat} {A : Nat → Prop} (hZ : js_W s0 ad A) (f : Nat) : ah_Met l s0 D tc ad A yJ0_coder_7d493 cJ0_coder_7d493 1 (some .byte) 0 0 (aJ0_coder_7d493 f) :=
  ah_met (code := kJ0_coder_7d493 f) hZ.1 (by decide) (fun p e s m args below meth c res C =>
  ah_cons (js_gs C hZ dJ0_coder_7d493_0 wv_14) ((ah_cons (as_if_eq C dJ0_coder_7d493_3 (by decide)) (ah_cons (as_aload_n C dJ0_coder_7d493_6 rfl) (ah_cons (js_gc C hZ dJ0_coder_7d493_7 wv_15) (ah_cons (as_goto C dJ0_coder_7d493_10 (by decide)) (ah_cons (js_br C rfl dJ0_coder_7d493_14) ah_nil)))))))
def kJ0_length_8abf5 (f : Nat) : List (Nat × ah_S) := [
  (0, ah_ald 0 1),
  (1, js_kv 4),
  (4, js_kl 5),
  (5, ah_ald 0 6),
  (6, js_kI (aJ0_coder_7d493 f) 1 9),
  (9, ah_bin (fun x y => x >>> (y &&& 31)) 10),
  (10, ah_iret)]
def aJ0_length_8abf5 (f : Nat) : ah_F := ah_fun (kJ0_length_8abf5 f) 1 f
theorem mJ0_length_8abf5 {l : Launch} {s0 : State} {D : va_G} {tc : Nat → ClassId} {ad : Nat → Nat} {A : Nat → Prop} (hZ : js_W s0 ad A) (f : Nat) : ah_Met l s0 D tc ad A yJ0_length_8abf5 cJ0_length_8abf5 1 (some .int) 1 20 (aJ0_length_8abf5 f) :=
  ah_met (code := kJ0_length_8abf5 f) hZ.1 (by decide) (fun p e s m args below meth c res C =>
  ah_cons (as_aload_n C dJ0_length_8abf5_0 rfl) ((ah_cons (js_gv C hZ dJ0_length_8abf5_1 wv_16) (ah_cons (js_al C hZ dJ0_length_8abf5_4) (ah_cons (as_aload_n C dJ0_length_8abf5_5 rfl) (ah_cons (js_vI (n := 0) C hZ (mJ0_coder_7d493 hZ f) dJ0_length_8abf5_6 wv_17 wv_19 wv_20 wv_21 wv_18 ⟨by decide, by decide, by decide, by decide⟩ ⟨by decide, by decide⟩) (ah_cons (as_ishr C dJ0_length_8abf5_9) (ah_cons (as_iret C rfl dJ0_length_8abf5_10) ah_nil))))))))
def kJ0_isLatin1_aae02 (f : Nat) : List (Nat × ah_S) := [
  (0, ah_push (.int 1) 3),
  (3, ah_zeq 17 6),
  (6, ah_ald 0 7),
  (7, js_kc 10),
  (10, ah_zeq 13 17),
  (13, ah_push (.int (1)) 14),
  (14, ah_goto 18),
  (18, ah_zret)]
def aJ0_isLatin1_aae02 (f : Nat) : ah_F := ah_fun (kJ0_isLatin1_aae02 f) 1 f
theorem mJ0_isLatin1_aae02 {l : Launch} {s0 : State} {D : va_G} {tc : Nat → ClassId} {ad : Nat → Nat} {A : Nat → Prop} (hZ : js_W s0 ad A) (f : Nat) : ah_Met l s0 D tc ad A yJ0_isLatin1_aae02 cJ0_isLatin1_aae02 1 (some .boolean) 0 0 (aJ0_isLatin1_aae02 f) :=
  ah_met (code := kJ0_isLatin1_aae02 f) hZ.1 (by decide) (fun p e s m args below meth c res C =>
  ah_cons (js_gs C hZ dJ0_isLatin1_aae02_0 wv_14) ((ah_cons (as_if_eq C dJ0_isLatin1_aae02_3 (by decide)) (ah_cons (as_aload_n C dJ0_isLatin1_aae02_6 rfl) (ah_cons (js_gc C hZ dJ0_isLatin1_aae02_7 wv_15) (ah_cons (as_if_ne C dJ0_isLatin1_aae02_10 (by decide)) (ah_cons (as_iconst C dJ0_isLatin1_aae02_13 (by decide)) (ah_cons (as_goto C dJ0_isLatin1_aae02_14 (by decide)) (ah_cons (as_zret C rfl dJ0_isLatin1_aae02_18) ah_nil)))))))))
def kJ0_indexOf_7cf53 (f : Nat) : List (Nat × ah_S) := [
  (0, ah_ald 0 1),
  (1, js_kI (aJ0_isLatin1_aae02 f) 1 4),
  (4, ah_zeq 23 7),
  (7, ah_ald 0 8),
  (8, js_kv 11),
  (11, ah_ild 1 12),
  (12, ah_ild 2 13),
  (13, ah_ald 0 14),
  (14, js_kI (aJ0_length_8abf5 f) 1 17),
  (17, ah_sI (aJ1_indexOf_4cfef f) 4 20),
  (20, ah_goto 36),
  (36, ah_iret)]
def aJ0_indexOf_7cf53 (f : Nat) : ah_F := ah_fun (kJ0_indexOf_7cf53 f) 3 f
theorem mJ0_indexOf_7cf53 {l : Launch} {s0 : State} {D : va_G} {tc : Nat → ClassId} {ad : Nat → Nat} {A : Nat → Prop} (hZ : js_W s0 ad A) (f : Nat) : ah_Met l s0 D tc ad A yJ0_indexOf_7cf53 cJ0_indexOf_7cf53 3 (some .int) 2 48 (aJ0_indexOf_7cf53 f) :=
  ah_met (code := kJ0_indexOf_7cf53 f) hZ.1 (by decide) (fun p e s m args below meth c res C =>
  ah_cons (as_aload_n C dJ0_indexOf_7cf53_0 rfl) ((ah_cons (js_vI (n := 0) C hZ (mJ0_isLatin1_aae02 hZ f) dJ0_indexOf_7cf53_1 wv_22 wv_24 wv_25 wv_21 wv_23 ⟨by decide, by decide, by decide, by decide⟩ ⟨by decide, by decide⟩) (ah_cons (as_if_eq C dJ0_indexOf_7cf53_4 (by decide)) (ah_cons (as_aload_n C dJ0_indexOf_7cf53_7 rfl) (ah_cons (js_gv C hZ dJ0_indexOf_7cf53_8 wv_16) (ah_cons (as_iload_n C dJ0_indexOf_7cf53_11 rfl) (ah_cons (as_iload_n C dJ0_indexOf_7cf53_12 rfl) (ah_cons (as_aload_n C dJ0_indexOf_7cf53_13 rfl) (ah_cons (js_vI (n := 0) C hZ (mJ0_length_8abf5 hZ f) dJ0_indexOf_7cf53_14 wv_26 wv_28 wv_29 wv_21 wv_27 ⟨by decide, by decide, by decide, by decide⟩ ⟨by decide, by decide⟩) (ah_cons (as_sI C (mJ1_indexOf_4cfef hZ f) dJ0_indexOf_7cf53_17 wv_30 wv_32 wv_3 wv_31 ⟨by decide, by decide, by decide⟩ ⟨by decide, by decide⟩) (ah_cons (as_goto C dJ0_indexOf_7cf53_20 (by decide)) (ah_cons (as_iret C rfl dJ0_indexOf_7cf53_36) ah_nil)))))))))))))
def kJ0_indexOf_0f7a4 (f : Nat) : List (Nat × ah_S) := [
  (0, ah_ald 0 1),
  (1, ah_ild 1 2),
  (2, ah_push (.int (0)) 3),
  (3, js_kI (aJ0_indexOf_7cf53 f) 3 6),
  (6, ah_iret)]
def aJ0_indexOf_0f7a4 (f : Nat) : ah_F := ah_fun (kJ0_indexOf_0f7a4 f) 2 f
theorem mJ0_indexOf_0f7a4 {l : Launch} {s0 : State} {D : va_G} {tc : Nat → ClassId} {ad : Nat → Nat} {A : Nat → Prop} (hZ : js_W s0 ad A) (f : Nat) : ah_Met l s0 D tc ad A yJ0_indexOf_0f7a4 cJ0_indexOf_0f7a4 2 (some .int) 3 70 (aJ0_indexOf_0f7a4 f) :=
  ah_met (code := kJ0_indexOf_0f7a4 f) hZ.1 (by decide) (fun p e s m args below meth c res C =>
  ah_cons (as_aload_n C dJ0_indexOf_0f7a4_0 rfl) ((ah_cons (as_iload_n C dJ0_indexOf_0f7a4_1 rfl) (ah_cons (as_iconst C dJ0_indexOf_0f7a4_2 (by decide)) (ah_cons (js_vI (n := 2) C hZ (mJ0_indexOf_7cf53 hZ f) dJ0_indexOf_0f7a4_3 wv_33 wv_35 wv_36 wv_21 wv_34 ⟨by decide, by decide, by decide, by decide⟩ ⟨by decide, by decide⟩) (ah_cons (as_iret C rfl dJ0_indexOf_0f7a4_6) ah_nil))))))
section JSE
variable {g : Nat}
theorem ejs_ce (g f : Nat) (x : Int32) (h : ah_H) : ah_fun (kJ1_canEncode_9a6ad g) 1 (f + 1) [.int x] h = if x < 0 then (if (0 : Int32) = 0 ∨ (0 : Int32) = 1 then some (some (.int 0), h) else none) else if (255 : Int32) < x then (if (0 : Int32) = 0 ∨ (0 : Int32) = 1 then some (some (.int 0), h) else none) else (if (1 : Int32) = 0 ∨ (1 : Int32) = 1 then some (some (.int 1), h) else none) := Eq.trans rfl rfl
theorem ejs_ic (g f : Nat) (x n : Int32) (h : ah_H) : ah_fun (kJ1_indexOfChar_4cfef g) 6 (f + 1) [.ref 1001, .int x, .int 0, .int n] h = ah_run (kJ1_indexOfChar_4cfef g) f 7 [(0, .ref 1001), (3, .int n), (4, .int x.toInt8.toInt32), (5, .int 0)] [] h := Eq.trans rfl rfl
theorem rjs_ic (g f : Nat) (n b i : Int32) (h : ah_H) : ah_run (kJ1_indexOfChar_4cfef g) (f + 1) 7 [(0, .ref 1001), (3, .int n), (4, .int b), (5, .int i)] [] h = if i < n then (ah_rd js_by 5 i).bind fun v => if v = b then some (some (.int i), h) else ah_run (kJ1_indexOfChar_4cfef g) f 7 [(0, .ref 1001), (3, .int n), (4, .int b), (5, .int (i + 1))] [] h else some (some (.int (-1)), h) := Eq.trans rfl rfl
theorem js_cmp : ∀ a : Fin 256, (((Int32.ofNat a.val).toInt8.toInt32 = 115) = (Int32.ofNat a.val = 115)) ∧ (((Int32.ofNat a.val).toInt8.toInt32 = 103) = (Int32.ofNat a.val = 103)) ∧ (((Int32.ofNat a.val).toInt8.toInt32 = 107) = (Int32.ofNat a.val = 107)) ∧ (((Int32.ofNat a.val).toInt8.toInt32 = 114) = (Int32.ofNat a.val = 114)) ∧ (((Int32.ofNat a.val).toInt8.toInt32 = 109) = (Int32.ofNat a.val = 109)) := by
  have h : ∀ a : Fin 256, ((Int32.ofNat a.val).toInt8.toInt32 = 115 ↔ Int32.ofNat a.val = 115) ∧ ((Int32.ofNat a.val).toInt8.toInt32 = 103 ↔ Int32.ofNat a.val = 103) ∧ ((Int32.ofNat a.val).toInt8.toInt32 = 107 ↔ Int32.ofNat a.val = 107) ∧ ((Int32.ofNat a.val).toInt8.toInt32 = 114 ↔ Int32.ofNat a.val = 114) ∧ ((Int32.ofNat a.val).toInt8.toInt32 = 109 ↔ Int32.ofNat a.val = 109) := by decide +kernel
  intro a
  obtain ⟨h1, h2, h3, h4, h5⟩ := h a
  exact ⟨propext h1, propext h2, propext h3, propext h4, propext h5⟩
theorem js_ic (f : Nat) (g : Nat) {x : Int32} (hx0 : ¬ x < 0) (hx1 : ¬ (255 : Int32) < x) (h : ah_H) : ah_fun (kJ1_indexOfChar_4cfef g) 6 (f + 7) [.ref 1001, .int x, .int 0, .int 5] h = some (some (.int (ah_ix x)), h) := by
  have h0 : 0 ≤ x.toInt := by
    have := Int32.not_lt.mp hx0
    rw [Int32.le_iff_toInt_le] at this
    exact this
  have h1 : x.toInt ≤ 255 := by
    have := Int32.not_lt.mp hx1
    rw [Int32.le_iff_toInt_le] at this
    exact this
  have ex : x = Int32.ofNat x.toInt.toNat := by
    apply Int32.toInt_inj.mp
    rw [show (Int32.ofNat x.toInt.toNat).toInt = ((x.toInt.toNat : Nat) : Int) from nI_toInt (by omega)]
    omega
  obtain ⟨c1, c2, c3, c4, c5⟩ := js_cmp ⟨x.toInt.toNat, by omega⟩
  rw [← ex] at c1 c2 c3 c4 c5
  rw [show f + 7 = (f + 6) + 1 from rfl, ejs_ic]
  generalize x.toInt8.toInt32 = b at c1 c2 c3 c4 c5 ⊢
  unfold ah_ix
  have s0 : ∀ b, ah_run (kJ1_indexOfChar_4cfef g) (f + 5 + 1) 7 [(0, .ref 1001), (3, .int 5), (4, .int b), (5, .int 0)] [] h = if (115 : Int32) = b then some (some (.int 0), h) else ah_run (kJ1_indexOfChar_4cfef g) (f + 4 + 1) 7 [(0, .ref 1001), (3, .int 5), (4, .int b), (5, .int 1)] [] h := fun b => (rjs_ic g (f + 5) 5 b 0 h).trans rfl
  have s1 : ∀ b, ah_run (kJ1_indexOfChar_4cfef g) (f + 4 + 1) 7 [(0, .ref 1001), (3, .int 5), (4, .int b), (5, .int 1)] [] h = if (103 : Int32) = b then some (some (.int 1), h) else ah_run (kJ1_indexOfChar_4cfef g) (f + 3 + 1) 7 [(0, .ref 1001), (3, .int 5), (4, .int b), (5, .int 2)] [] h := fun b => (rjs_ic g (f + 4) 5 b 1 h).trans rfl
  have s2 : ∀ b, ah_run (kJ1_indexOfChar_4cfef g) (f + 3 + 1) 7 [(0, .ref 1001), (3, .int 5), (4, .int b), (5, .int 2)] [] h = if (107 : Int32) = b then some (some (.int 2), h) else ah_run (kJ1_indexOfChar_4cfef g) (f + 2 + 1) 7 [(0, .ref 1001), (3, .int 5), (4, .int b), (5, .int 3)] [] h := fun b => (rjs_ic g (f + 3) 5 b 2 h).trans rfl
  have s3 : ∀ b, ah_run (kJ1_indexOfChar_4cfef g) (f + 2 + 1) 7 [(0, .ref 1001), (3, .int 5), (4, .int b), (5, .int 3)] [] h = if (114 : Int32) = b then some (some (.int 3), h) else ah_run (kJ1_indexOfChar_4cfef g) (f + 1 + 1) 7 [(0, .ref 1001), (3, .int 5), (4, .int b), (5, .int 4)] [] h := fun b => (rjs_ic g (f + 2) 5 b 3 h).trans rfl
  have s4 : ∀ b, ah_run (kJ1_indexOfChar_4cfef g) (f + 1 + 1) 7 [(0, .ref 1001), (3, .int 5), (4, .int b), (5, .int 4)] [] h = if (109 : Int32) = b then some (some (.int 4), h) else ah_run (kJ1_indexOfChar_4cfef g) (f + 0 + 1) 7 [(0, .ref 1001), (3, .int 5), (4, .int b), (5, .int 5)] [] h := fun b => (rjs_ic g (f + 1) 5 b 4 h).trans rfl
  have s5 : ∀ b, ah_run (kJ1_indexOfChar_4cfef g) (f + 0 + 1) 7 [(0, .ref 1001), (3, .int 5), (4, .int b), (5, .int 5)] [] h = some (some (.int (-1)), h) := fun b => (rjs_ic g (f + 0) 5 b 5 h).trans rfl
  rw [show f + 6 = f + 5 + 1 from rfl, s0, s1, s2, s3, s4, s5]
  have sw : ∀ u v : Int32, (u = v) = (v = u) := fun u v => propext ⟨Eq.symm, Eq.symm⟩
  simp only [sw 115 b, sw 103 b, sw 107 b, sw 114 b, sw 109 b, c1, c2, c3, c4, c5]
  by_cases d1 : x = 115
  · rw [if_pos d1, if_pos d1]
  · rw [if_neg d1, if_neg d1]
    by_cases d2 : x = 103
    · rw [if_pos d2, if_pos d2]
    · rw [if_neg d2, if_neg d2]
      by_cases d3 : x = 107
      · rw [if_pos d3, if_pos d3]
      · rw [if_neg d3, if_neg d3]
        by_cases d4 : x = 114
        · rw [if_pos d4, if_pos d4]
        · rw [if_neg d4, if_neg d4]
          by_cases d5 : x = 109
          · rw [if_pos d5, if_pos d5]
          · rw [if_neg d5, if_neg d5]
theorem ah_ix_no {x : Int32} (h : x < 0 ∨ (255 : Int32) < x) : ah_ix x = -1 := by
  have key : ∀ k : Int32, k = 115 ∨ k = 103 ∨ k = 107 ∨ k = 114 ∨ k = 109 → ¬ x = k := by
    intro k hk e
    subst e
    rcases hk with rfl | rfl | rfl | rfl | rfl <;> exact absurd h (by decide)
  unfold ah_ix
  rw [if_neg (key 115 (by decide)), if_neg (key 103 (by decide)), if_neg (key 107 (by decide)), if_neg (key 114 (by decide)), if_neg (key 109 (by decide))]
theorem ejs_io (g f : Nat) (x : Int32) (h : ah_H) : ah_fun (kJ1_indexOf_4cfef g) 4 (f + 1) [.ref 1001, .int x, .int 0, .int 5] h = (ah_rI (aJ1_canEncode_9a6ad g [.int x] h)).bind fun w => if w.1 = 0 then some (some (.int (-1)), w.2) else (ah_rI (aJ1_indexOfChar_4cfef g [.ref 1001, .int x, .int 0, .int 5] w.2)).bind fun z => some (some (.int z.1), z.2) := Eq.trans rfl rfl
theorem js_io (g : Nat) (hg : 20 ≤ g) (x : Int32) (h : ah_H) : aJ1_indexOf_4cfef g [.ref 1001, .int x, .int 0, .int 5] h = some (some (.int (ah_ix x)), h) := by
  obtain ⟨f, rfl⟩ : ∃ f, g = f + 13 + 7 := ⟨g - 20, by omega⟩
  have hic := fun (h0 : ¬ x < 0) (h1 : ¬ (255 : Int32) < x) => js_ic (f + 13) (f + 13 + 7) h0 h1 h
  have hce : aJ1_canEncode_9a6ad (f + 13 + 7) [.int x] h = some (some (.int (if x < 0 ∨ (255 : Int32) < x then 0 else 1)), h) := by
    unfold aJ1_canEncode_9a6ad
    rw [show f + 13 + 7 = (f + 19) + 1 from rfl, ejs_ce, if_pos (Or.inl rfl), if_pos (Or.inr rfl)]
    by_cases c1 : x < 0
    · rw [if_pos c1, if_pos (Or.inl c1)]
    · rw [if_neg c1]
      by_cases c2 : (255 : Int32) < x
      · rw [if_pos c2, if_pos (Or.inr c2)]
      · rw [if_neg c2, if_neg (fun h => h.elim c1 c2)]
  unfold aJ1_indexOf_4cfef
  rw [show ah_fun (kJ1_indexOf_4cfef (f + 13 + 7)) 4 (f + 13 + 7) = ah_fun (kJ1_indexOf_4cfef (f + 13 + 7)) 4 ((f + 19) + 1) from rfl, ejs_io, hce]
  by_cases c : x < 0 ∨ (255 : Int32) < x
  · rw [if_pos c, ah_ix_no c]
    rfl
  · rw [if_neg c]
    have c1 : ¬ x < 0 := fun h => c (Or.inl h)
    have c2 : ¬ (255 : Int32) < x := fun h => c (Or.inr h)
    show (ah_rI (aJ1_indexOfChar_4cfef (f + 13 + 7) [.ref 1001, .int x, .int 0, .int 5] h)).bind _ = _
    rw [show aJ1_indexOfChar_4cfef (f + 13 + 7) [.ref 1001, .int x, .int 0, .int 5] h = _ from hic c1 c2]
    rfl
theorem ejs_if (g f : Nat) (x : Int32) (h : ah_H) : ah_fun (kJ0_indexOf_7cf53 g) 3 (f + 1) [.ref 1000, .int x, .int 0] h = (ah_rI (aJ0_isLatin1_aae02 g [.ref 1000] h)).bind fun w => if w.1 = 0 then ah_run (kJ0_indexOf_7cf53 g) f 23 [(0, .ref 1000), (1, .int x), (2, .int 0)] [] w.2 else (ah_rI (aJ0_length_8abf5 g [.ref 1000] w.2)).bind fun z => (ah_rI (aJ1_indexOf_4cfef g [.ref 1001, .int x, .int 0, .int z.1] z.2)).bind fun y => some (some (.int y.1), y.2) := Eq.trans rfl rfl
theorem ejs_il (g f : Nat) (h : ah_H) : ah_fun (kJ0_isLatin1_aae02 g) 1 (f + 1) [.ref 1000] h = some (some (.int 1), h) := Eq.trans rfl rfl
theorem ejs_cd (g f : Nat) (h : ah_H) : ah_fun (kJ0_coder_7d493 g) 1 (f + 1) [.ref 1000] h = some (some (.int 0), h) := Eq.trans rfl rfl
theorem ejs_ln (g f : Nat) (h : ah_H) : ah_fun (kJ0_length_8abf5 g) 1 (f + 1) [.ref 1000] h = (ah_rI (aJ0_coder_7d493 g [.ref 1000] h)).bind fun w => some (some (.int (5 >>> (w.1 &&& 31))), w.2) := Eq.trans rfl rfl
theorem ejs_i1 (g f : Nat) (x : Int32) (h : ah_H) : ah_fun (kJ0_indexOf_0f7a4 g) 2 (f + 1) [.ref 1000, .int x] h = (ah_rI (aJ0_indexOf_7cf53 g [.ref 1000, .int x, .int 0] h)).bind fun w => some (some (.int w.1), w.2) := Eq.trans rfl rfl
theorem js_all (g : Nat) (hg : 20 ≤ g) (x : Int32) (h : ah_H) : aJ0_indexOf_0f7a4 g [.ref 1000, .int x] h = some (some (.int (ah_ix x)), h) := by
  have hio := js_io g hg x h
  obtain ⟨f, rfl⟩ : ∃ f, g = f + 1 := ⟨g - 1, by omega⟩
  have h1 : aJ0_isLatin1_aae02 (f + 1) [.ref 1000] h = some (some (.int 1), h) := ejs_il (f + 1) f h
  have h2 : aJ0_length_8abf5 (f + 1) [.ref 1000] h = some (some (.int 5), h) := by
    unfold aJ0_length_8abf5
    rw [ejs_ln, show aJ0_coder_7d493 (f + 1) [.ref 1000] h = some (some (.int 0), h) from ejs_cd (f + 1) f h]
    show some (some (Value.int ((5 : Int32) >>> ((0 : Int32) &&& 31))), h) = _
    rw [show (5 : Int32) >>> ((0 : Int32) &&& 31) = 5 by decide]
  have h3 : aJ0_indexOf_7cf53 (f + 1) [.ref 1000, .int x, .int 0] h = some (some (.int (ah_ix x)), h) := by
    unfold aJ0_indexOf_7cf53
    have rr : ∀ (v : Int32) (h : ah_H), ah_rI (some (some (.int v), h)) = some (v, h) := fun _ _ => rfl
    rw [ejs_if, h1, rr, Option.bind_some, if_neg (show ¬ (1 : Int32) = 0 by decide), h2, rr, Option.bind_some, hio, rr, Option.bind_some]
  unfold aJ0_indexOf_0f7a4
  rw [ejs_i1, h3]
  rfl
end JSE
section AHY
variable {p : Program} {l : Launch} {e : Env} {R : Room} {s : State} {m : MethodId} {args : Array Value} {below : List Frame} {meth : Method} {c : Code} {cc : ByteArray} {nL : Nat} {own : String} {ret : Option FieldType} {s0 : State} {D : va_G} {tc : Nat → ClassId} {ad : Nat → Nat} {A : Nat → Prop} {res : ah_R} {pc : Nat}
/-- the call of indexOf, from any place of a walk -/
theorem ix_call (C : ah_C p s m args meth c cc nL own ret s0 D tc A) (hW : ah_W0 s0 ad A) {idx : Nat} (hd : decode cc pc = .ok (.invokevirtual idx, 3)) (w1 : Cond.methodLink own idx yJ0_indexOf_0f7a4 ∈ ah_TT) (hR : 8 ≤ R.frames ∧ 400 ≤ R.locals) {x : Int32} {rest : List Value} {ls : Array Slot} {H : Heap} {locs : List Loc} {cells slots : Nat} {Q : State → Prop} (hls : ls.size = nL) (hrm : (rest.map fun v => v.category).sum ≤ 8) (hS : va_S A s.heap H locs) (hcs : cells ≤ R.cells ∧ slots ≤ R.slots)
    (kk : ∀ (H1 : Heap) (locs1 : List Loc), H.size ≤ H1.size → (∀ q : Nat, q < H.size → H1[q]? = H[q]?) → va_S A s.heap H1 locs1 → W p l e R s m args below meth c H1 locs1 cells slots Q (F0 m (pc + 3) ls (.int (ah_ix x) :: rest))) : W p l e R s m args below meth c H locs cells slots Q (F0 m pc ls (.int x :: .ref (ad 1000) :: rest)) := by
  obtain ⟨av, -, hZ1, hZ2⟩ := hW.2.2
  have hZ : js_W s0 (fun k => if k = 1001 then av else ad k) (fun _ => False) := ⟨fun _ h => h.elim, hZ1, hZ2⟩
  have hM := mJ0_indexOf_0f7a4 (l := l) (D := D) (tc := tc) hZ 20 [.ref 1000, .int x] [] _ (js_all 20 (Nat.le_refl _) x [])
  have C2 : ah_C p s m args meth c cc nL own ret s0 D tc (fun _ => False) := ⟨C.1, C.2.1, C.2.2.1, C.2.2.2.1, C.2.2.2.2.1, C.2.2.2.2.2.1, C.2.2.2.2.2.2.1, fun _ h => h.elim, C.2.2.2.2.2.2.2.2.1, C.2.2.2.2.2.2.2.2.2⟩
  have hG : GoodIn ah_TT (wsV own idx "java/lang/String" yJ0_indexOf_0f7a4 (Cond.code yJ0_indexOf_0f7a4 cJ0_indexOf_0f7a4 2 (some .int) :: ah_TT)) := by
    intro w hw
    have hw2 : w ∈ ah_TT := by
      unfold wsV at hw
      rcases List.mem_append.mp hw with hw | hw
      · rcases List.mem_cons.mp hw with rfl | hw
        · exact w1
        rcases List.mem_cons.mp hw with rfl | hw
        · exact wv_37
        rcases List.mem_cons.mp hw with rfl | hw
        · exact wv_38
        rcases List.mem_cons.mp hw with rfl | hw
        · exact wv_21
        cases hw
      · rcases List.mem_cons.mp hw with rfl | hw
        · exact wv_39
        · exact hw
    exact ⟨hw2, ah_TT_good hw2⟩
  have hrecv : ∃ cell : Cell, H[ad 1000]? = some cell ∧ cell.vm.isStatics = false ∧ s.vm.findClass "java/lang/String" = some cell.cls := by
    have hZA : js_W s0 (fun k => if k = 1001 then av else ad k) A := ⟨hW.1, hZ1, hZ2⟩
    exact js_recv C hZA hS
  have hpre : ∀ U : State, U.heap = H → s.WarmedH U.vm → ah_Pre s0 D tc (fun k => if k = 1001 then av else ad k) (fun _ => False) [.ref 1000, .int x] [] (([.ref 1000, .int x] : List Value).map (ah_v (fun k => if k = 1001 then av else ad k))).toArray U := by
    intro U hU hWm
    obtain ⟨e1, e2, e3⟩ := C.2.2.2.2.2.2.1
    refine ⟨rfl, fun k q hk => (by cases hk), va_K.moved hWm.alike C.2.2.2.2.2.1, ⟨fun i j p q hi => (by cases hi), fun k q hk => (by cases hk)⟩, State.WarmedH.trans e1 hWm, by rw [hU]; exact Nat.le_trans e2 hS.1, fun q hq => ?_⟩
    rw [hU, hS.2.1 q (Nat.lt_of_lt_of_le hq e2) (fun z => Nat.not_lt.mpr (C.2.2.2.2.2.2.2.1 q z) hq)]
    exact e3 q hq
  have hrun := va_runV (e := e) (R := R) (below := below) (meth := meth) (H := H) (locs := locs) (cells := cells) (slots := slots) (g := F0 m pc ls (.int x :: .ref (ad 1000) :: rest)) (C := "java/lang/String") (b := ad 1000) (Ts := ah_TT) (As := [.int x]) (rest := rest) ⟨C.1, C.2.1, C.2.2.1, C.2.2.2.1, C.2.2.2.2.1⟩ hM (cwV 1 C.2.2.2.2.1 hG rfl rfl rfl ⟨by decide, by decide, by decide, by decide⟩ ⟨Nat.le_trans (by decide) hR.1, Nat.le_trans (by decide) hR.2⟩) ⟨ah_blind, hrecv, hpre⟩ rfl rfl hls rfl (lv_room hrm) hd hcs
  intro T hT X
  obtain ⟨v, st₀, t, T', L, h0, X', hL, e1, e2, ⟨hv, hp, hdd, hz, hk⟩, st⟩ := hrun T hT X
  injection hv with hv
  subst hv
  rw [h0] at hz hk
  obtain ⟨t2, a1, b1⟩ := kk T'.heap (locs ++ L) (by rw [e1]; exact hz) (fun q hq => by rw [e1]; exact hk q hq (fun h => h)) ⟨Nat.le_trans hS.1 (by rw [e1]; exact hz), fun q h1 h2 => by rw [e1, hk q (Nat.lt_of_lt_of_le h1 hS.1) (fun h => h)]; exact hS.2.1 q h1 h2, fun q hq => by
      rcases List.mem_append.mp hq with h | h
      · exact hS.2.2 q h
      · exact (hL q h).elim⟩ T' rfl X'
  exact ⟨t2, st t2 a1, b1⟩
theorem as_idx (C : ah_C p s m args meth c cc nL own ret s0 D tc A) (hW : ah_W0 s0 ad A) {idx : Nat} (hd : decode cc pc = .ok (.invokevirtual idx, 3)) (w1 : Cond.methodLink own idx yJ0_indexOf_0f7a4 ∈ ah_TT) (hR : 8 ≤ R.frames ∧ 400 ≤ R.locals) : ah_Snd (ah_G p l e R s m args below meth c nL D tc ad A res) res pc (ah_idx (pc + 3)) := by
  intro J hJ lv st h hf ls H locs hl hP hD hS
  replace hf := Option.bind_eq_some_iff.mp hf
  obtain ⟨q, hq, hf⟩ := hf
  obtain rfl := ah_qi_i hq
  cases hb : (Nat.beq q.1 1000 && ah_rm q.2.2 8) with
  | false => rw [hb] at hf; cases hf
  | true =>
    rw [hb] at hf
    rw [Bool.and_eq_true] at hb
    have er : q.1 = 1000 := Nat.eq_of_beq_eq_true hb.1
    have := ix_call (l := l) (e := e) (R := R) (below := below) (x := q.2.1) (rest := q.2.2.map (ah_v ad)) (cells := 0) (slots := 0) C hW hd w1 hR hl.1 (ah_rm_i ad hb.2) hS ⟨Nat.zero_le _, Nat.zero_le _⟩ (fun H1 locs1 hz hk hS1 => hJ _ _ _ _ hf ls H1 locs1 hl (hP.kept (fun k y hy => hk y.1 ((hP k y hy).lt))) hD hS1)
    rw [List.map_cons, List.map_cons, er]
    exact this
end AHY
