/-! the law, from its entry -/
abbrev lw_hx : ah_H := hx (fun _ => 0) ini_w 0
abbrev lw_hm : ah_H := hm ini_y (fun _ _ => 0) 0
def lw_ad (zz q : Nat) : Nat → Nat := fun k => if k = 1000 then zz else q
theorem lw_ad0 (zz q : Nat) : lw_ad zz q 0 = q := rfl
theorem lw_adz (zz q : Nat) : lw_ad zz q 1000 = zz := rfl
theorem lw_pl {D : va_G} {ws ws' : va_W} {H : Heap} (h : va_P D vwCl (ws ++ ws') H) : va_P D vwCl ws H := fun k q hk => h k q (by rw [List.getElem?_append_left (List.getElem?_eq_some_iff.mp hk).1]; exact hk)
theorem lw_pr {D : va_G} {ws : va_W} {x : Nat × va_E} {H : Heap} (h : va_P D vwCl (ws ++ [x]) H) : va_P D vwCl [x] H := fun k q hk => by
  have hz : k < 1 := (List.getElem?_eq_some_iff.mp hk).1
  obtain rfl : k = 0 := by omega
  have hk := Option.some.inj hk
  subst hk
  exact h ws.length x (by rw [List.getElem?_append_right (Nat.le_refl _), Nat.sub_self]; rfl)
theorem lw_dl {A : Nat → Prop} {ws ws' : va_W} (h : va_D A (ws ++ ws')) : va_D A ws := ⟨fun i j p q hi hj e => h.1 i j p q (by rw [List.getElem?_append_left (List.getElem?_eq_some_iff.mp hi).1]; exact hi) (by rw [List.getElem?_append_left (List.getElem?_eq_some_iff.mp hj).1]; exact hj) e, fun k q hk => h.2 k q (by rw [List.getElem?_append_left (List.getElem?_eq_some_iff.mp hk).1]; exact hk)⟩
theorem lw_dx {A : Nat → Prop} {ws : va_W} {x : Nat × va_E} (h : va_D A (ws ++ [x])) : A x.1 ∧ ∀ (k : Nat) (q : Nat × va_E), ws[k]? = some q → ¬ x.1 = q.1 := by
  have hx : (ws ++ [x])[ws.length]? = some x := by rw [List.getElem?_append_right (Nat.le_refl _), Nat.sub_self]; rfl
  refine ⟨h.2 ws.length x hx, fun k q hk e => ?_⟩
  have hl := (List.getElem?_eq_some_iff.mp hk).1
  have := h.1 ws.length k x q hx (by rw [List.getElem?_append_left hl]; exact hk) e
  omega
theorem lw_d1 {A : Nat → Prop} {x : Nat × va_E} (h : A x.1) : va_D A [x] := ⟨fun i j p q hi hj _ => by
  have h1 : i < 1 := (List.getElem?_eq_some_iff.mp hi).1
  have h2 : j < 1 := (List.getElem?_eq_some_iff.mp hj).1
  omega, fun k q hk => by
  have hz : k < 1 := (List.getElem?_eq_some_iff.mp hk).1
  obtain rfl : k = 0 := by omega
  have hk := Option.some.inj hk
  subst hk
  exact h⟩
theorem ah_w_at {ad : Nat → Nat} {tc : Nat → ClassId} {h : ah_H} {k : Nat} (hk : k < h.length) : ∃ x, (ah_w ad tc h)[k]? = some (ad k, x) := ⟨_, ah_w_get (List.getElem?_eq_getElem hk)⟩
set_option maxHeartbeats 4000000 in
set_option maxRecDepth 100000 in
theorem whole_start {p : Program} {e : Env} {s : State} {m : MethodId} {below : List Frame} {meth : Method} {c : Code} (l : Launch) {b L : Nat} {xs : Nat → Int32} (hL : L ≤ 256) (C0 : lw_At p s m meth c b L xs) : W p l e room_1 s m #[Value.ref b] below meth c s.heap [] 0 0 (lw_Z below #[Value.ref b] s) (entryFrame m ([Value.ref b] : List Value).toArray 4) := by
  obtain ⟨hex, hb, hr, hml, hown, hts, hX, hbl, hlocks, hgv⟩ := id C0
  obtain ⟨D, tc, zz, hK, hN0, hN1, hN2, hZ⟩ := lw_fx C0
  have C := lw_ctx C0 hK
  have htt := C.2.2.2.2.1
  have hA : ∀ q, s.heap.size ≤ q → lw_A0 s q := fun _ h => h
  have hAA : ∀ q, lw_A0 s q → s.heap.size ≤ q := fun _ h => h
  have hS : va_S (lw_A0 s) s.heap s.heap [] := va_S.rf
  have hP : va_P D vwCl [] s.heap := fun k q h => by simp at h
  have hD : va_D (lw_A0 s) [] := ⟨fun i j p q h => by simp at h, fun k q h => by simp at h⟩
  have hl := lv_entry ([.ref b]) (n := 4) (Nat.le_of_ble_eq_true rfl)
  rw [lg_entry_eq]
  generalize (lg_sl ([.ref b]) ++ List.replicate (4 - (lg_sl ([.ref b])).length) Slot.unset).toArray = ls at hl ⊢
  have hl : lv_has ls 4 [(0, .ref b)] := hl
  refine va_new (ci := 11) (fs := [.null, .null, .null, .null, .null, .int 0]) (C := RX11) (T := TX11) (N := 6) hex hb htt inX11 tyX11 tyX11_ok hown (htt _ wl_223) (htt _ wl_221) (htt _ wl_3) hK hP hD hS hA rfl (fun j hj => by rcases (show j = 0 ∨ j = 1 ∨ j = 2 ∨ j = 3 ∨ j = 4 ∨ j = 5 by omega) with rfl | rfl | rfl | rfl | rfl | rfl <;> rfl) (Nat.le_of_ble_eq_true rfl) (Nat.le_of_ble_eq_true rfl) dL_law_0 (fun q0 H hP hD hS => ?_)
  refine W.widen (k := 1) (n := 40) (by omega) (by omega) ?_
  refine lv_dup hex hb dL_law_3 rfl ?_
  obtain ⟨h2, hF, he⟩ := ini_x
  have g1 := lw_callI (l := l) (below := below) (meth := meth) (e := e) (R := room_1) (cells := 1) (slots := 40) (a := 0) (d := 40) (ad := lw_ad zz q0) (As := []) (rest := [.ref q0]) (ls := ls) (Q := lw_Z below #[Value.ref b] s) C hAA (mX11_init hAA hN1 100) dL_law_4 (n := 0) wl_225 wl_226 wl_3 wl_227 rfl ⟨by decide, by decide, by decide⟩ ⟨by decide, by decide⟩ ⟨by decide, by decide⟩ rfl hF hP hD hS (fun q hq => Nat.le_trans hS.1 hq) hl.1 (Nat.le_of_ble_eq_true rfl)
  rw [lw_ad0] at g1
  refine g1 (fun ad1 H1 locs1 hag hP hD hS hz hkp => ?_)
  clear g1 hkp
  have hP := eq_h_P he hP
  have hD := eq_h_D he hD
  obtain ⟨hP, hD⟩ := at_re (h2 := lw_hx) ini_p (ini_pi ad1 tc) ini_inj hP hD
  have a0 : ad1 (ini_p 0) = q0 := (hag 0 (Or.inl (show 0 < 1 by decide))).trans rfl
  have a1 : ad1 (ini_p 1000) = zz := (hag 1000 (Or.inr (Nat.le_refl _))).trans rfl
  show W p l e room_1 s m #[Value.ref b] below meth c H1 locs1 41 1640 (lw_Z below #[Value.ref b] s) (F0 m 7 ls [.ref q0])
  generalize hadx : (fun k => ad1 (ini_p k)) = adx at hP hD
  have a0 : adx 0 = q0 := by rw [← hadx]; exact a0
  have a1 : adx 1000 = zz := by rw [← hadx]; exact a1
  refine lv_astore_n (lv' := [(1, .ref q0), (0, .ref b)]) hex hb dL_law_7 rfl hl (by decide) rfl (fun ls hl => ?_)
  refine va_new (ci := 12) (fs := [.null, .int 0, .int 0, .int 0, .int 0, .int 0, .int 0, .int 0, .null, .null, .null, .null, .null, .null, .null, .int 0, .null, .null, .int 0, .int 0, .int 0, .int 0, .int 0, .int 0, .int 0, .null, .null, .null, .null, .long 0]) (C := RX12) (T := TX12) (N := 30) hex hb htt inX12 tyX12 tyX12_ok hown (htt _ wl_224) (htt _ wl_222) (htt _ wl_8) hK hP hD hS hA rfl (fun j hj => by rcases (show j = 0 ∨ j = 1 ∨ j = 2 ∨ j = 3 ∨ j = 4 ∨ j = 5 ∨ j = 6 ∨ j = 7 ∨ j = 8 ∨ j = 9 ∨ j = 10 ∨ j = 11 ∨ j = 12 ∨ j = 13 ∨ j = 14 ∨ j = 15 ∨ j = 16 ∨ j = 17 ∨ j = 18 ∨ j = 19 ∨ j = 20 ∨ j = 21 ∨ j = 22 ∨ j = 23 ∨ j = 24 ∨ j = 25 ∨ j = 26 ∨ j = 27 ∨ j = 28 ∨ j = 29 by omega) with rfl | rfl | rfl | rfl | rfl | rfl | rfl | rfl | rfl | rfl | rfl | rfl | rfl | rfl | rfl | rfl | rfl | rfl | rfl | rfl | rfl | rfl | rfl | rfl | rfl | rfl | rfl | rfl | rfl | rfl <;> rfl) (Nat.le_of_ble_eq_true rfl) (Nat.le_of_ble_eq_true rfl) dL_law_8 (fun q2 H2 hPa hDa hS => ?_)
  refine W.widen (k := 42) (n := 1680) (by omega) (by omega) ?_
  refine lv_dup hex hb dL_law_11 rfl ?_
  have hP := lw_pl hPa
  have hD := lw_dl hDa
  have hPm := lw_pr hPa
  obtain ⟨d1, d2⟩ := lw_dx hDa
  have hne : ∀ k, k < 41 → ¬ q2 = adx k := fun k hk e => by
    obtain ⟨x, hex⟩ := ah_w_at (ad := adx) (tc := tc) (h := lw_hx) hk
    exact d2 k _ hex e
  have hlt : ∀ k, k < 41 → adx k < H2.size := fun k hk => by
    obtain ⟨x, hex⟩ := ah_w_at (ad := adx) (tc := tc) (h := lw_hx) hk
    exact (hP k _ hex).lt
  have hDm : va_D (fun q => s.heap.size ≤ q ∧ ∀ k, k < 41 → ¬ q = adx k) (ah_w (lw_ad zz q2) tc [.inr (12, [.null, .int 0, .int 0, .int 0, .int 0, .int 0, .int 0, .int 0, .null, .null, .null, .null, .null, .null, .null, .int 0, .null, .null, .int 0, .int 0, .int 0, .int 0, .int 0, .int 0, .int 0, .null, .null, .null, .null, .long 0])]) := lw_d1 (x := (q2, _)) ⟨d1, hne⟩
  obtain ⟨h3, hF2, he2⟩ := ini_m
  have g2 := lw_callI (l := l) (below := below) (meth := meth) (e := e) (R := room_1) (cells := 42) (slots := 1680) (a := 0) (d := 14) (ad := lw_ad zz q2) (A := fun q => s.heap.size ≤ q ∧ ∀ k, k < 41 → ¬ q = adx k) (As := []) (rest := [.ref q2]) (ls := ls) (Q := lw_Z below #[Value.ref b] s) C (fun _ h => h.1) (mX12_init (fun _ h => h.1) hN1 100) dL_law_12 (n := 0) wl_228 wl_229 wl_8 wl_230 rfl ⟨by decide, by decide, by decide⟩ ⟨by decide, by decide⟩ ⟨by decide, by decide⟩ rfl hF2 hPm hDm hS (fun q hq => ⟨Nat.le_trans hS.1 hq, fun k hk e => by have := hlt k hk; omega⟩) hl.1 (Nat.le_of_ble_eq_true rfl)
  rw [lw_ad0] at g2
  refine g2 (fun ad2 H3 locs3 hag2 hPm hDm hS hz hkp => ?_)
  clear g2
  have hPm := eq_h_P he2 hPm
  have hDm := eq_h_D he2 hDm
  have b0 : ad2 0 = q2 := (hag2 0 (Or.inl (show 0 < 1 by decide))).trans rfl
  have b1 : ad2 1000 = zz := (hag2 1000 (Or.inr (Nat.le_refl _))).trans rfl
  have m2 : ∀ k, k < 15 → s.heap.size ≤ ad2 k ∧ ∀ j, j < 41 → ¬ ad2 k = adx j := fun k hk => by
    obtain ⟨x, hex⟩ := ah_w_at (ad := ad2) (tc := tc) (h := lw_hm) hk
    exact hDm.2 k _ hex
  have hP : va_P D vwCl (ah_w adx tc lw_hx) H3 := hP.kept (fun k x hex => by
    have hk : k < 41 := by
      obtain ⟨e, he, -⟩ := ah_w_inv hex
      exact (List.getElem?_eq_some_iff.mp he).1
    obtain ⟨e, he, rfl⟩ := ah_w_inv hex
    exact hkp (adx k) (hlt k hk) (fun z => z.2 k hk rfl))
  have hD1 : va_D (lw_A1 s ad2) (ah_w adx tc lw_hx) := ⟨hD.1, fun k x hex => by
    have hg := hD.2 k x hex
    obtain ⟨e, he, rfl⟩ := ah_w_inv hex
    have hk : k < 41 := (List.getElem?_eq_some_iff.mp he).1
    exact ⟨hg, fun ⟨j, hj, e⟩ => (m2 j hj).2 k hk e.symm⟩⟩
  have hD2 : va_D (lw_A2 ad2) (ah_w ad2 tc lw_hm) := ⟨hDm.1, fun k x hex => by
    obtain ⟨e, he, rfl⟩ := ah_w_inv hex
    have hk : k < 15 := (List.getElem?_eq_some_iff.mp he).1
    exact ⟨k, hk, rfl⟩⟩
  have Fx : lw_Fx s D tc zz ad2 := ⟨hK, hN0, hN1, hN2, hZ, b1, fun k hk => (m2 k hk).1⟩
  have hSt : lw_St s D tc q0 zz ad2 0 H3 locs3 := ⟨adx, 0, 0, 0, (fun _ => 0), ini_w, 0, ini_y, (fun _ _ => 0), 0, a0, a1, hP, hD1, hPm, hD2, ini_R, hS⟩
  show W p l e room_1 s m #[Value.ref b] below meth c H3 locs3 56 2240 (lw_Z below #[Value.ref b] s) (F0 m 15 ls [.ref q2])
  rw [← b0]
  refine lv_astore_n (lv' := [(2, .ref (ad2 0)), (1, .ref q0), (0, .ref b)]) hex hb dL_law_15 rfl hl (by decide) rfl (fun ls hl => ?_)
  refine lv_iconst (v := 0) hex hb dL_law_16 (by decide) ?_
  refine lv_istore_n (lv' := [(3, .int 0), (2, .ref (ad2 0)), (1, .ref q0), (0, .ref b)]) hex hb dL_law_17 rfl hl (by decide) rfl (fun ls hl => ?_)
  exact W.widen (by omega) (by omega) (lw_loop (g := 6000) (Nat.le_refl _) C0 Fx hL L 0 (by omega) (by omega) H3 locs3 ls (lv_sub hl [3, 2, 1, 0] rfl) hSt)
