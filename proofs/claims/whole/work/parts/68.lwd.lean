/-! the law: drawer -/
section LWD
variable {p : Program} {l : Launch} {e : Env} {s : State} {m : MethodId} {below : List Frame} {meth : Method} {c : Code} {b L : Nat} {xs : Nat → Int32} {D : va_G} {tc : Nat → ClassId} {q1 zz : Nat} {ad2 : Nat → Nat} {k : Nat} {H : Heap} {locs : List Loc} {ls : Array Slot} {Q : State → Prop} {g : Nat}
theorem lw_drw2 (C0 : lw_At p s m meth c b L xs) (Fx : lw_Fx s D tc zz ad2) (hk64 : k < 64) (hl : lv_has ls 4 [(0, .ref b), (1, .ref q1), (2, .ref (ad2 0)), (3, .int (nI (4 * k)))]) (fin : lw_Fin p l e s m below meth c b D tc q1 zz ad2 k ls Q) {ad1 : Nat → Nat} {n ln sn : Nat} {z : Nat → Int32} {w : Nat → Nat → Int32} {b1 : Int64} {y y2 : Nat → Int32} {v v2 : Nat → Nat → Int32} {c1 : Int64} {r : Int32} (h1 : ad1 0 = q1) (h2 : ad1 1000 = zz) (hP1 : va_P D vwCl (ah_w ad1 tc (hx z w b1)) H) (hD1 : va_D (lw_A1 s ad2) (ah_w ad1 tc (hx z w b1))) (hP2 : va_P D vwCl (ah_w ad2 tc (hm y v c1)) H) (hD2 : va_D (lw_A2 ad2) (ah_w ad2 tc (hm y v c1))) (hS : va_S (lw_A0 s) s.heap H locs) (r2 : aX12_drawer g [.ref 0] (hm y v c1) = some (some (.int r), hm y2 v2 c1)) (hR : gm_R (k + 1) n ln sn z w y2 v2) : W p l e room_1 s m #[Value.ref b] below meth c H locs (60 + 7 * (k + 1)) (40 * (60 + 7 * (k + 1))) Q (F0 m 205 ls [.int r]) := by
  obtain ⟨hK, hN0, hN1, hN2, hZ, hz2, hsz⟩ := Fx
  have C := lw_ctx C0 hK
  have hA2 : ∀ q, lw_A2 ad2 q → s.heap.size ≤ q := fun q h => by
    obtain ⟨j, hj, rfl⟩ := h
    exact hsz j hj
  have hcs : 60 + 7 * (k + 1) ≤ room_1.cells ∧ 40 * (60 + 7 * (k + 1)) ≤ room_1.slots := ⟨by show 60 + 7 * (k + 1) ≤ 600000; omega, by show 40 * (60 + 7 * (k + 1)) ≤ 7302250; omega⟩
  have hW2 : ah_W0 s ad2 (lw_A2 ad2) := ⟨hA2, hN0, hZ ad2 hz2⟩
  refine lv_aload_n C0.1 C0.2.1 dL_law_205 rfl (lv_at hl 2 rfl) ?_
  have g2 := lw_callV (l := l) (below := below) (meth := meth) (e := e) (R := room_1) (cells := 60 + 7 * (k + 1)) (slots := 40 * (60 + 7 * (k + 1))) (a := 0) (As := []) (rest := [.int r]) (ls := ls) (Q := Q) C hA2 (mX12_drawer hW2 g) dL_law_206 (n := 0) (ci := 12) (T := TX12) (N := 30) rfl wl_30 wl_31 wl_32 wl_8 wl_33 ⟨by decide, by decide, by decide, by decide⟩ ⟨by decide, by decide⟩ hcs (h := hm y v c1) rfl rfl r2 hP2 hD2 hS hl.1 (Nat.le_of_ble_eq_true rfl)
  refine g2 (fun H2 locs2 hP2 hD2 hS hz hkp => ?_)
  have hP1 := lw_kept hP1 hD1 lw_A12 hkp
  show W p l e room_1 s m #[Value.ref b] below meth c H2 locs2 (60 + 7 * (k + 1)) (40 * (60 + 7 * (k + 1))) Q (F0 m 209 ls [.int r, .int r])
  exact lv_icmp_eq (tgt := 791) C0.1 C0.2.1 dL_law_209 (by decide) (fun _ => fin H2 locs2 ⟨ad1, n, ln, sn, z, w, b1, y2, v2, c1, h1, h2, hP1, hD1, hP2, hD2, hR, hS⟩) (fun h => absurd rfl h)
theorem lw_c3 (hg : 6000 ≤ g) (C0 : lw_At p s m meth c b L xs) (Fx : lw_Fx s D tc zz ad2) (hL : L ≤ 256) (hk : 4 * k + 4 ≤ L) (hl : lv_has ls 4 [(0, .ref b), (1, .ref q1), (2, .ref (ad2 0)), (3, .int (nI (4 * k)))]) (hS : lw_St s D tc q1 zz ad2 k H locs) (fin : lw_Fin p l e s m below meth c b D tc q1 zz ad2 k ls Q) : W p l e room_1 s m #[Value.ref b] below meth c H locs (60 + 7 * k) (40 * (60 + 7 * k)) Q (F0 m 201 ls []) := by
  refine lv_aload_n C0.1 C0.2.1 dL_law_201 rfl (lv_at hl 1 rfl) ?_
  obtain ⟨ad1, n1, ln, sn, z, w, b1, y, v, c1, h1, h2, hP1, hD1, hP2, hD2, hR, hS⟩ := hS
  obtain ⟨hK, hN0, hN1, hN2, hZ, hz2, hsz⟩ := id Fx
  have C := lw_ctx C0 hK
  have hA1 : ∀ q, lw_A1 s ad2 q → s.heap.size ≤ q := fun _ h => h.1
  have hW1 : ah_W0 s ad1 (lw_A1 s ad2) := ⟨hA1, hN0, hZ ad1 h2⟩
  have hfr : ∀ q, H.size ≤ q → lw_A1 s ad2 q := fun q hq => ⟨Nat.le_trans hS.1 hq, fun ⟨j, hj, he⟩ => by
    have hlt : j < (hm y v c1).length := hj
    have := (hP2 j _ (ah_w_get (List.getElem?_eq_getElem hlt))).lt
    have this : ad2 j < H.size := this
    omega⟩
  rcases gq_drawer (g := g) (by omega) b1 c1 hR (by omega) with ⟨r1, r2⟩ | ⟨n2, y2, v2, hn2, r1, r2, hR2⟩
  · have hcs : 60 + 7 * k + 0 ≤ room_1.cells ∧ 40 * (60 + 7 * k) + 40 * 0 ≤ room_1.slots := ⟨by show 60 + 7 * k + 0 ≤ 600000; omega, by show 40 * (60 + 7 * k) + 40 * 0 ≤ 7302250; omega⟩
    have g1 := lw_callD (l := l) (below := below) (meth := meth) (e := e) (R := room_1) (cells := 60 + 7 * k) (slots := 40 * (60 + 7 * k)) (a := 0) (d := 0) (As := []) (rest := []) (ls := ls) (Q := Q) C hA1 (mX11_drawer hA1 hN1 hN2 0 g) hW1 dL_law_202 (n := 0) (ci := 11) (T := TX11) (N := 6) rfl wl_26 wl_27 wl_28 wl_3 wl_29 ⟨by decide, by decide, by decide, by decide⟩ ⟨by decide, by decide⟩ hcs (h := hx z w b1) rfl rfl r1 hP1 hD1 hS hfr hl.1 (Nat.zero_le _)
    rw [h1] at g1
    refine g1 (fun ad' H1 locs1 hag hP1 hD1 hS hz hkp => ?_)
    have hP2 := lw_kept hP2 hD2 lw_A21 hkp
    have h0 : ad' 0 = q1 := by rw [hag 0 (Or.inl (show 0 < 41 by decide)), h1]
    have h3 : ad' 1000 = zz := by rw [hag 1000 (Or.inr (Nat.le_refl _)), h2]
    exact W.widen (by omega) (by omega) (lw_drw2 C0 Fx (by omega) hl fin h0 h3 hP1 hD1 hP2 hD2 hS r2 (gm_R_up hR (by omega)))
  · have hcs : 60 + 7 * k + n2 ≤ room_1.cells ∧ 40 * (60 + 7 * k) + 40 * n2 ≤ room_1.slots := ⟨by show 60 + 7 * k + n2 ≤ 600000; omega, by show 40 * (60 + 7 * k) + 40 * n2 ≤ 7302250; omega⟩
    have g1 := lw_callD (l := l) (below := below) (meth := meth) (e := e) (R := room_1) (cells := 60 + 7 * k) (slots := 40 * (60 + 7 * k)) (a := 0) (d := n2) (As := []) (rest := []) (ls := ls) (Q := Q) C hA1 (mX11_drawer hA1 hN1 hN2 n2 g) hW1 dL_law_202 (n := 0) (ci := 11) (T := TX11) (N := 6) rfl wl_26 wl_27 wl_28 wl_3 wl_29 ⟨by decide, by decide, by decide, by decide⟩ ⟨by decide, by decide⟩ hcs (h := hx z w b1) rfl rfl r1 hP1 hD1 hS hfr hl.1 (Nat.zero_le _)
    rw [h1] at g1
    refine g1 (fun ad' H1 locs1 hag hP1 hD1 hS hz hkp => ?_)
    have hP2 := lw_kept hP2 hD2 lw_A21 hkp
    obtain ⟨hP1, hD1⟩ := at_re (dr_p n2) (dr_pi (dr_z2 z n2) w b1 n2 hn2 ad' tc) (dr_inj n2 hn2) hP1 hD1
    have p0 : dr_p n2 0 = 0 := by
      unfold dr_p
      rw [if_neg (by omega)]
    have p1 : dr_p n2 1000 = 1000 := by
      unfold dr_p
      rw [if_neg (by omega)]
    have h0 : ad' (dr_p n2 0) = q1 := by rw [p0, hag 0 (Or.inl (show 0 < 41 by decide)), h1]
    have h3 : ad' (dr_p n2 1000) = zz := by rw [p1, hag 1000 (Or.inr (Nat.le_refl _)), h2]
    exact W.widen (by omega) (by omega) (lw_drw2 (ad1 := fun k => ad' (dr_p n2 k)) C0 Fx (by omega) hl fin h0 h3 hP1 hD1 hP2 hD2 hS r2 hR2)
end LWD
