/-! the law: its loop -/
section LWL
variable {p : Program} {l : Launch} {e : Env} {s : State} {m : MethodId} {below : List Frame} {meth : Method} {c : Code} {b L : Nat} {xs : Nat → Int32} {D : va_G} {tc : Nat → ClassId} {q1 zz : Nat} {ad2 : Nat → Nat} {k : Nat} {H : Heap} {locs : List Loc} {ls : Array Slot} {g : Nat}
theorem lw_inc (C0 : lw_At p s m meth c b L xs) (hl : lv_has ls 4 [(0, .ref b), (1, .ref q1), (2, .ref (ad2 0)), (3, .int (nI (4 * k)))]) (next : ∀ (H : Heap) (locs : List Loc) (ls : Array Slot), lv_has ls 4 [(0, .ref b), (1, .ref q1), (2, .ref (ad2 0)), (3, .int (nI (4 * (k + 1))))] → lw_St s D tc q1 zz ad2 (k + 1) H locs → W p l e room_1 s m #[Value.ref b] below meth c H locs (60 + 7 * (k + 1)) (40 * (60 + 7 * (k + 1))) (lw_Z below #[Value.ref b] s) (F0 m 18 ls [])) : lw_Fin p l e s m below meth c b D tc q1 zz ad2 k ls (lw_Z below #[Value.ref b] s) := by
  intro H locs hS
  have e4 : nI (4 * k) + Int32.ofInt 4 = nI (4 * (k + 1)) := by
    rw [show Int32.ofInt 4 = nI 4 from rfl, nI_add, show 4 * k + 4 = 4 * (k + 1) by omega]
  refine lv_iinc (v := nI (4 * (k + 1))) (lv' := [(3, .int (nI (4 * (k + 1)))), (0, .ref b), (1, .ref q1), (2, .ref (ad2 0))]) C0.1 C0.2.1 dL_law_791 hl (k := 3) rfl e4 (by decide) rfl (fun ls hl => ?_)
  refine lv_goto (tgt := 18) C0.1 C0.2.1 dL_law_794 (by decide) ?_
  exact next H locs ls (lv_sub hl [1, 2, 3, 0] rfl) hS
theorem lw_sw (hg : 6000 ≤ g) (C0 : lw_At p s m meth c b L xs) (Fx : lw_Fx s D tc zz ad2) (hL : L ≤ 256) (hk : 4 * k + 4 ≤ L) (hl : lv_has ls 4 [(0, .ref b), (1, .ref q1), (2, .ref (ad2 0)), (3, .int (nI (4 * k)))]) (hS : lw_St s D tc q1 zz ad2 k H locs) (fin : lw_Fin p l e s m below meth c b D tc q1 zz ad2 k ls (lw_Z below #[Value.ref b] s)) {j : Nat} (hj : j < 32) : W p l e room_1 s m #[Value.ref b] below meth c H locs (60 + 7 * k) (40 * (60 + 7 * k)) (lw_Z below #[Value.ref b] s) (F0 m 32 ls [.int (nI j)]) := by
  by_cases h26 : j < 26
  · rcases (show j = 0 ∨ j = 1 ∨ j = 2 ∨ j = 3 ∨ j = 4 ∨ j = 5 ∨ j = 6 ∨ j = 7 ∨ j = 8 ∨ j = 9 ∨ j = 10 ∨ j = 11 ∨ j = 12 ∨ j = 13 ∨ j = 14 ∨ j = 15 ∨ j = 16 ∨ j = 17 ∨ j = 18 ∨ j = 19 ∨ j = 20 ∨ j = 21 ∨ j = 22 ∨ j = 23 ∨ j = 24 ∨ j = 25 by omega) with rfl | rfl | rfl | rfl | rfl | rfl | rfl | rfl | rfl | rfl | rfl | rfl | rfl | rfl | rfl | rfl | rfl | rfl | rfl | rfl | rfl | rfl | rfl | rfl | rfl | rfl
    · exact lv_tableIn (tgt := 152) C0.1 C0.2.1 dL_law_32 (by decide) (by decide) rfl (by decide) (lw_c0 hg C0 Fx hL hk hl hS fin)
    · exact lv_tableIn (tgt := 175) C0.1 C0.2.1 dL_law_32 (by decide) (by decide) rfl (by decide) (lw_c1 hg C0 Fx hL hk hl hS fin)
    · exact lv_tableIn (tgt := 188) C0.1 C0.2.1 dL_law_32 (by decide) (by decide) rfl (by decide) (lw_c2 hg C0 Fx hL hk hl hS fin)
    · exact lv_tableIn (tgt := 201) C0.1 C0.2.1 dL_law_32 (by decide) (by decide) rfl (by decide) (lw_c3 hg C0 Fx hL hk hl hS fin)
    · exact lv_tableIn (tgt := 214) C0.1 C0.2.1 dL_law_32 (by decide) (by decide) rfl (by decide) (lw_c4 hg C0 Fx hL hk hl hS fin)
    · exact lv_tableIn (tgt := 247) C0.1 C0.2.1 dL_law_32 (by decide) (by decide) rfl (by decide) (lw_c5 hg C0 Fx hL hk hl hS fin)
    · exact lv_tableIn (tgt := 280) C0.1 C0.2.1 dL_law_32 (by decide) (by decide) rfl (by decide) (lw_c6 hg C0 Fx hL hk hl hS fin)
    · exact lv_tableIn (tgt := 313) C0.1 C0.2.1 dL_law_32 (by decide) (by decide) rfl (by decide) (lw_c7 hg C0 Fx hL hk hl hS fin)
    · exact lv_tableIn (tgt := 346) C0.1 C0.2.1 dL_law_32 (by decide) (by decide) rfl (by decide) (lw_c8 hg C0 Fx hL hk hl hS fin)
    · exact lv_tableIn (tgt := 379) C0.1 C0.2.1 dL_law_32 (by decide) (by decide) rfl (by decide) (lw_c9 hg C0 Fx hL hk hl hS fin)
    · exact lv_tableIn (tgt := 412) C0.1 C0.2.1 dL_law_32 (by decide) (by decide) rfl (by decide) (lw_c10 hg C0 Fx hL hk hl hS fin)
    · exact lv_tableIn (tgt := 435) C0.1 C0.2.1 dL_law_32 (by decide) (by decide) rfl (by decide) (lw_c11 hg C0 Fx hL hk hl hS fin)
    · exact lv_tableIn (tgt := 468) C0.1 C0.2.1 dL_law_32 (by decide) (by decide) rfl (by decide) (lw_c12 hg C0 Fx hL hk hl hS fin)
    · exact lv_tableIn (tgt := 481) C0.1 C0.2.1 dL_law_32 (by decide) (by decide) rfl (by decide) (lw_c13 hg C0 Fx hL hk hl hS fin)
    · exact lv_tableIn (tgt := 504) C0.1 C0.2.1 dL_law_32 (by decide) (by decide) rfl (by decide) (lw_c14 hg C0 Fx hL hk hl hS fin)
    · exact lv_tableIn (tgt := 537) C0.1 C0.2.1 dL_law_32 (by decide) (by decide) rfl (by decide) (lw_c15 hg C0 Fx hL hk hl hS fin)
    · exact lv_tableIn (tgt := 560) C0.1 C0.2.1 dL_law_32 (by decide) (by decide) rfl (by decide) (lw_c16 hg C0 Fx hL hk hl hS fin)
    · exact lv_tableIn (tgt := 583) C0.1 C0.2.1 dL_law_32 (by decide) (by decide) rfl (by decide) (lw_c17 hg C0 Fx hL hk hl hS fin)
    · exact lv_tableIn (tgt := 606) C0.1 C0.2.1 dL_law_32 (by decide) (by decide) rfl (by decide) (lw_c18 hg C0 Fx hL hk hl hS fin)
    · exact lv_tableIn (tgt := 629) C0.1 C0.2.1 dL_law_32 (by decide) (by decide) rfl (by decide) (lw_c19 hg C0 Fx hL hk hl hS fin)
    · exact lv_tableIn (tgt := 672) C0.1 C0.2.1 dL_law_32 (by decide) (by decide) rfl (by decide) (lw_c20 hg C0 Fx hL hk hl hS fin)
    · exact lv_tableIn (tgt := 685) C0.1 C0.2.1 dL_law_32 (by decide) (by decide) rfl (by decide) (lw_c21 hg C0 Fx hL hk hl hS fin)
    · exact lv_tableIn (tgt := 728) C0.1 C0.2.1 dL_law_32 (by decide) (by decide) rfl (by decide) (lw_c22 hg C0 Fx hL hk hl hS fin)
    · exact lv_tableIn (tgt := 741) C0.1 C0.2.1 dL_law_32 (by decide) (by decide) rfl (by decide) (lw_c23 hg C0 Fx hL hk hl hS fin)
    · exact lv_tableIn (tgt := 754) C0.1 C0.2.1 dL_law_32 (by decide) (by decide) rfl (by decide) (lw_c24 hg C0 Fx hL hk hl hS fin)
    · exact lv_tableIn (tgt := 777) C0.1 C0.2.1 dL_law_32 (by decide) (by decide) rfl (by decide) (lw_c25 hg C0 Fx hL hk hl hS fin)
  · refine lv_tableOut (tgt := 791) C0.1 C0.2.1 dL_law_32 (Or.inr ?_) (by decide) (W.widen (by omega) (by omega) (fin H locs (hS.up (by omega))))
    rw [nI_toInt (by omega)]
    omega
theorem lw_head (hg : 6000 ≤ g) (C0 : lw_At p s m meth c b L xs) (Fx : lw_Fx s D tc zz ad2) (hL : L ≤ 256) (hk64 : k ≤ 64) (hl : lv_has ls 4 [(0, .ref b), (1, .ref q1), (2, .ref (ad2 0)), (3, .int (nI (4 * k)))]) (hS : lw_St s D tc q1 zz ad2 k H locs) (next : 4 * k + 4 ≤ L → ∀ (H : Heap) (locs : List Loc) (ls : Array Slot), lv_has ls 4 [(0, .ref b), (1, .ref q1), (2, .ref (ad2 0)), (3, .int (nI (4 * (k + 1))))] → lw_St s D tc q1 zz ad2 (k + 1) H locs → W p l e room_1 s m #[Value.ref b] below meth c H locs (60 + 7 * (k + 1)) (40 * (60 + 7 * (k + 1))) (lw_Z below #[Value.ref b] s) (F0 m 18 ls [])) : W p l e room_1 s m #[Value.ref b] below meth c H locs (60 + 7 * k) (40 * (60 + 7 * k)) (lw_Z below #[Value.ref b] s) (F0 m 18 ls []) := by
  obtain ⟨hx, hb, hr, hml, hown, hts, hX, hbl, hlocks, hgv⟩ := id C0
  have hbA : ¬ lw_A0 s b := Nat.not_le.mpr hbl
  have hS0 := hS.S
  refine lv_iload_n hx hb dL_law_18 rfl (lv_at hl 3 rfl) ?_
  refine lv_aload_n hx hb dL_law_19 rfl (lv_at hl 0 rfl) ?_
  refine va_slen hx hb hX hbl hbA hS0 dL_law_20 ?_
  refine lv_iconst (v := 4) hx hb dL_law_21 (by decide) ?_
  refine lv_isub hx hb dL_law_22 ?_
  refine lv_icmp_gt (tgt := 797) hx hb dL_law_23 (by decide) (fun hc => ?_) (fun hc => ?_)
  · refine lv_iconst (v := 1) hx hb dL_law_797 (by decide) ?_
    refine va_forget hS0.2.2 ?_
    refine W.widen (k := 600000) (n := 7302250) (by omega) (by omega) ?_
    exact lw_ret hx hb hr hlocks dL_law_798
  · have hk : 4 * k + 4 ≤ L := by
      have e1 : (Int32.ofNat L - 4).toInt = (L : Int) - 4 := pk_sub_toInt (a := L) (b := 4) (by omega) (by omega)
      have e2 : (nI (4 * k)).toInt = ((4 * k : Nat) : Int) := nI_toInt (by omega)
      rw [Int32.lt_iff_toInt_lt, e1, e2] at hc
      omega
    refine lv_aload_n hx hb dL_law_26 rfl (lv_at hl 0 rfl) ?_
    refine lv_iload_n hx hb dL_law_27 rfl (lv_at hl 3 rfl) ?_
    refine va_sld hx hb hX hbl hbA hS0 (vp_in_nI (by omega) (by omega)) dL_law_28 ?_
    refine lv_bipush (v := 31) hx hb dL_law_29 (by decide) ?_
    refine lv_iand hx hb dL_law_31 ?_
    obtain ⟨j, hj, ej⟩ := pk_andE (xs (nI (4 * k)).toNatClampNeg) (m := 31) 5 (by decide)
    rw [ej]
    exact lw_sw hg C0 Fx hL hk hl hS (lw_inc C0 hl (next hk)) hj
theorem lw_loop (hg : 6000 ≤ g) (C0 : lw_At p s m meth c b L xs) (Fx : lw_Fx s D tc zz ad2) (hL : L ≤ 256) : ∀ (f k : Nat), L ≤ 4 * k + f → k ≤ 64 → ∀ (H : Heap) (locs : List Loc) (ls : Array Slot), lv_has ls 4 [(0, .ref b), (1, .ref q1), (2, .ref (ad2 0)), (3, .int (nI (4 * k)))] → lw_St s D tc q1 zz ad2 k H locs → W p l e room_1 s m #[Value.ref b] below meth c H locs (60 + 7 * k) (40 * (60 + 7 * k)) (lw_Z below #[Value.ref b] s) (F0 m 18 ls []) := by
  intro f
  induction f with
  | zero => exact fun k hf hk64 H locs ls hl hS => lw_head hg C0 Fx hL hk64 hl hS (fun h => absurd h (by omega))
  | succ f ih => exact fun k hf hk64 H locs ls hl hS => lw_head hg C0 Fx hL hk64 hl hS (fun h => ih (k + 1) (by omega) (by omega))
end LWL
