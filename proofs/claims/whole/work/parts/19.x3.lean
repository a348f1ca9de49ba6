/-! loops held beside each other -/
theorem gm_lp_sim {α β : Type} {st : α → Nat → α} {st2 : β → Nat → β} (R : Nat → α → β → Prop) : ∀ (k i : Nat) (a : α) (c : β), R i a c → (∀ j a c, i ≤ j → j < i + k → R j a c → R (j + 1) (st a j) (st2 c j)) → R (i + k) (gm_lp st k i a) (gm_lp st2 k i c)
  | 0, _, _, _, h, _ => h
  | k + 1, i, a, c, h, hs => by
    have := gm_lp_sim R k (i + 1) (st a i) (st2 c i) (hs i a c (by omega) (by omega) h) (fun j a c h1 h2 => hs j a c (by omega) (by omega))
    rw [gm_lp_s, gm_lp_s, show i + (k + 1) = i + 1 + k by omega]
    exact this
theorem gm_lp_inv {α : Type} {st : α → Nat → α} (P : Nat → α → Prop) (k i : Nat) (a : α) (h : P i a) (hs : ∀ j a, i ≤ j → j < i + k → P j a → P (j + 1) (st a j)) : P (i + k) (gm_lp st k i a) :=
  gm_lp_sim (st2 := fun (_ : Unit) _ => ()) (fun j a _ => P j a) k i a () h (fun j a _ h1 h2 h3 => hs j a h1 h2 h3)
theorem i32_sub {x y : Int32} (hx : -100000 ≤ x.toInt ∧ x.toInt ≤ 100000) (hy : -100000 ≤ y.toInt ∧ y.toInt ≤ 100000) : (x - y).toInt = x.toInt - y.toInt := by
  rw [Int32.toInt_sub]
  exact Int.bmod_eq_of_le (by omega) (by omega)
theorem i32_add {x y : Int32} (hx : -100000 ≤ x.toInt ∧ x.toInt ≤ 100000) (hy : -100000 ≤ y.toInt ∧ y.toInt ≤ 100000) : (x + y).toInt = x.toInt + y.toInt := by
  rw [Int32.toInt_add]
  exact Int.bmod_eq_of_le (by omega) (by omega)
theorem gm_lkr : ∀ (a d : Bool) (b c : Fin 10), 0 ≤ (18 - (if a = true then gm_far (nI b.val) (nI c.val) / 2 else gm_far (nI b.val) (nI c.val)) - (if d = true then gm_far (nI c.val) (nI b.val) / 2 else gm_far (nI c.val) (nI b.val)) : Int32).toInt ∧ (18 - (if a = true then gm_far (nI b.val) (nI c.val) / 2 else gm_far (nI b.val) (nI c.val)) - (if d = true then gm_far (nI c.val) (nI b.val) / 2 else gm_far (nI c.val) (nI b.val)) : Int32).toInt ≤ 18 := by decide +kernel
theorem gm_lk_rg {kd hd sz : Nat → Int32} (hr : ∀ i, i < 7 → 0 ≤ (sz i).toInt ∧ (sz i).toInt ≤ 9) {i j : Nat} (hi : i < 7) (hj : j < 7) (hb : gm_mb kd hd sz i j = true) : 0 ≤ (gm_lk kd hd sz i j).toInt ∧ (gm_lk kd hd sz i j).toInt ≤ 18 := by
  unfold gm_lk
  rw [if_pos hb]
  have h1 := hr i hi
  have h2 := hr j hj
  have := gm_lkr (decide (kd i = 4)) (decide (kd j = 4)) ⟨(sz i).toInt.toNat, by omega⟩ ⟨(sz j).toInt.toNat, by omega⟩
  dsimp only at this
  rw [← i32_nI h1.1, ← i32_nI h2.1] at this
  unfold gm_ap
  by_cases q1 : kd i = 4 <;> by_cases q2 : kd j = 4 <;> simpa [q1, q2] using this
theorem gm_lk_no {kd hd sz : Nat → Int32} {i j : Nat} (hb : gm_mb kd hd sz i j = false) : gm_lk kd hd sz i j = -1 := by
  unfold gm_lk
  rw [hb]
  rfl
theorem i32_m1 : (-1 : Int32).toInt = -1 := rfl
/-- counting -/
theorem gm_cnt (p : Nat → Bool) (k i c : Nat) (hc : c + k < 1000) : ∃ m : Nat, m ≤ c + k ∧ gm_lp (fun (x : Int32) j => if p j = true then x + 1 else x) k i (nI c) = nI m := by
  have := gm_lp_inv (st := fun (x : Int32) j => if p j = true then x + 1 else x) (fun j x => ∃ m : Nat, m + i ≤ c + j ∧ x = nI m) k i (nI c) ⟨c, by omega, rfl⟩ (fun j x h1 h2 h3 => by
    obtain ⟨m, h4, rfl⟩ := h3
    by_cases q : p j = true
    · exact ⟨m + 1, by omega, by simp only [q, if_true]; rw [nI_1]⟩
    · exact ⟨m, by omega, by simp only [q]; rfl⟩)
  obtain ⟨m, h1, h2⟩ := this
  exact ⟨m, by omega, h2⟩
/-- the favourite, kept with how like it is -/
def gm_fv (lk : Nat → Nat → Int32) (a n : Nat) : Int32 × Int32 := gm_lp (fun (x : Int32 × Int32) j => if x.2 < lk a j then (nI j, lk a j) else x) n 0 (-1, -1)
theorem gm_fv_pr {kd hd sz : Nat → Int32} (hr : ∀ i, i < 7 → 0 ≤ (sz i).toInt ∧ (sz i).toInt ≤ 9) {a n : Nat} (ha : a < 7) (hn : n ≤ 7) : (gm_fv (gm_lk kd hd sz) a n).1 = gm_pr (gm_mb kd hd sz) (gm_lk kd hd sz) a n := by
  have := gm_lp_sim (st := fun (x : Int32 × Int32) j => if x.2 < gm_lk kd hd sz a j then (nI j, gm_lk kd hd sz a j) else x) (st2 := fun t j => if (gm_mb kd hd sz a j && gm_pf (gm_lk kd hd sz) a j t) = true then nI j else t) (fun j x t => x.1 = t ∧ ((t = -1 ∧ x.2 = -1) ∨ ∃ m : Nat, m < j ∧ m < 7 ∧ t = nI m ∧ x.2 = gm_lk kd hd sz a m ∧ gm_mb kd hd sz a m = true)) n 0 (-1, -1) (-1) ⟨rfl, Or.inl ⟨rfl, rfl⟩⟩ (fun j x t h1 h2 h3 => by
    obtain ⟨e1, h3⟩ := h3
    have hj : j < 7 := by omega
    cases c : gm_mb kd hd sz a j with
    | false =>
      have e := gm_lk_no c
      have hlt : ¬ x.2 < gm_lk kd hd sz a j := by
        rw [e, i32_lt, i32_m1]
        rcases h3 with ⟨-, e2⟩ | ⟨m, -, hm, -, e2, hb⟩
        · rw [e2, i32_m1]; omega
        · have := gm_lk_rg hr ha hm hb
          rw [e2]; omega
      simp only [hlt, if_false, Bool.false_and]
      refine ⟨e1, ?_⟩
      rcases h3 with q | ⟨m, q1, q2⟩
      · exact Or.inl q
      · exact Or.inr ⟨m, by omega, q2⟩
    | true =>
      have g := gm_lk_rg hr ha hj c
      rcases h3 with ⟨e2, e3⟩ | ⟨m, q1, hm, e2, e3, hb⟩
      · have hlt : x.2 < gm_lk kd hd sz a j := by rw [e3, i32_lt, i32_m1]; omega
        have hp : gm_pf (gm_lk kd hd sz) a j t = true := by unfold gm_pf; rw [if_pos e2]
        simp only [hlt, hp, if_true, Bool.and_self]
        exact ⟨trivial, Or.inr ⟨j, by omega, hj, rfl, rfl, c⟩⟩
      · have g2 := gm_lk_rg hr ha hm hb
        have hp : gm_pf (gm_lk kd hd sz) a j t = decide (x.2 < gm_lk kd hd sz a j) := by
          unfold gm_pf
          rw [if_neg (by rw [e2]; rw [gm_ok_ne (by omega)]; exact fun z => z), e2, nI_clamp (by omega), e3]
          have hs := i32_sub (x := gm_lk kd hd sz a j) (y := gm_lk kd hd sz a m) (by omega) (by omega)
          have e4 : decide (nI j < nI m) = false := decide_eq_false (by rw [nI_lti (by omega) (by omega)]; omega)
          rw [e4, Bool.and_false, Bool.or_false]
          refine decide_eq_decide.mpr ?_
          rw [i32_lt, i32_lt, hs, show (0 : Int32).toInt = 0 from rfl]
          omega
        rw [hp, Bool.true_and]
        by_cases d : x.2 < gm_lk kd hd sz a j
        · simp only [d, decide_true, if_true]
          exact ⟨trivial, Or.inr ⟨j, by omega, hj, rfl, rfl, c⟩⟩
        · simp only [d, decide_false, Bool.false_eq_true, if_false]
          exact ⟨e1, Or.inr ⟨m, by omega, hm, e2, e3, hb⟩⟩)
  exact this.1
section XS3
variable {g : Nat} (z : Nat → Int32) (w : Nat → Nat → Int32) (b : Int64)
theorem sX0_favouriteOf (hg : 4000 ≤ g) (hr : hx_rg w) {n : Nat} (hn : n ≤ 7) (hz : z 2 = nI n) (a : Nat) (ha : a < 7) : aX0_favouriteOf g [.ref 3, .int (nI a)] (hx z w b) = some (some (.int (gm_pr (xw_mb w) (xw_lk w) a n)), hx z w b) := by
  have loop := gm_loopx (n := n) (fun F i (x : Int32 × Int32) => ah_run (kX0_favouriteOf g) F 7 [(0, .ref 3), (1, .int (nI a)), (2, .int x.1), (3, .int x.2), (4, .int (nI i))] [] (hx z w b)) (fun x j => if x.2 < xw_lk w a j then (nI j, xw_lk w a j) else x) (fun x => some (some (.int x.1), hx z w b)) (fun _ _ => True) (fun f x _ => by
      simp only [rX0_favouriteOf_7, Option.bind_some, Option.bind_none, ah_rI_s, ah_rL_s, ah_rV_s, hx_v0, hx_fr0_0, hx_fr0_1, hx_fr0_2, hx_fr0_3, hx_fr0_4, hx_fi0_5, hx_sv0_5, hx_v1, hx_fr1_0, hx_fi1_1, hx_sv1_1, hx_v3, hx_fr3_0, hx_fr3_1, hx_fi3_2, hx_sv3_2, hx_fi3_3, hx_sv3_3, hx_fi3_4, hx_sv3_4, hx_fi3_5, hx_sv3_5, hx_fi3_6, hx_sv3_6, hx_fr3_7, hx_v5, hx_fi5_0, hx_sv5_0, hx_fr5_1, hx_fr5_2, hx_fr5_3, hx_fr5_4, hx_v11, hx_fi11_0, hx_sv11_0, hx_fr11_1, hx_fr11_2, hx_fr11_3, hx_fr11_4, hx_fi11_5, hx_sv11_5, hx_fi11_6, hx_sv11_6, hx_fi11_7, hx_sv11_7, hx_fi11_8, hx_sv11_8, hx_v15, hx_fi15_0, hx_sv15_0, hx_fr15_1, hx_fr15_2, hx_fr15_3, hx_fr15_4, hx_v20, hx_fi20_0, hx_sv20_0, hx_fi20_1, hx_sv20_1, hx_fi20_2, hx_sv20_2, hx_fi20_3, hx_sv20_3, hx_fr20_4, hx_fr20_5, hx_fr20_6, hx_fr20_7, hx_fi20_8, hx_sv20_8, hx_fi20_9, hx_sv20_9, hx_fi20_10, hx_sv20_10, hx_fi20_11, hx_sv20_11, hx_v25, hx_fi25_0, hx_sv25_0, hx_fi25_1, hx_sv25_1, hx_fl, hx_sl, hx_fr25_3, hx_li2, hx_ai2, hx_si2, hx_li6, hx_ai6, hx_si6, hx_li7, hx_ai7, hx_si7, hx_li8, hx_ai8, hx_si8, hx_li9, hx_ai9, hx_si9, hx_li10, hx_ai10, hx_si10, hx_li12, hx_ai12, hx_si12, hx_li13, hx_ai13, hx_si13, hx_li14, hx_ai14, hx_si14, hx_li16, hx_ai16, hx_si16, hx_li17, hx_ai17, hx_si17, hx_li18, hx_ai18, hx_si18, hx_li19, hx_ai19, hx_si19, hx_li21, hx_ai21, hx_si21, hx_li22, hx_ai22, hx_si22, hx_li24, hx_ai24, hx_si24, hx_li26, hx_ai26, hx_si26, hx_li27, hx_ai27, hx_si27, hx_li28, hx_ai28, hx_si28, hx_li29, hx_ai29, hx_si29, hx_li30, hx_ai30, hx_si30, hx_li31, hx_ai31, hx_si31, hx_li32, hx_ai32, hx_si32, hx_li33, hx_ai33, hx_si33, hx_lr4, hx_lr23, hx_sf0, hx_sf1, hx_ss1, hx_sf2, hx_ss2, hx_sf3, hx_ss3, hx_lkli, hx_lksi, hz, nI_ltnn (show n < 1000 by omega), if_false]) (fun f i x hi _ => ⟨by
      simp only [rX0_favouriteOf_7, Option.bind_some, Option.bind_none, ah_rI_s, ah_rL_s, ah_rV_s, hx_v0, hx_fr0_0, hx_fr0_1, hx_fr0_2, hx_fr0_3, hx_fr0_4, hx_fi0_5, hx_sv0_5, hx_v1, hx_fr1_0, hx_fi1_1, hx_sv1_1, hx_v3, hx_fr3_0, hx_fr3_1, hx_fi3_2, hx_sv3_2, hx_fi3_3, hx_sv3_3, hx_fi3_4, hx_sv3_4, hx_fi3_5, hx_sv3_5, hx_fi3_6, hx_sv3_6, hx_fr3_7, hx_v5, hx_fi5_0, hx_sv5_0, hx_fr5_1, hx_fr5_2, hx_fr5_3, hx_fr5_4, hx_v11, hx_fi11_0, hx_sv11_0, hx_fr11_1, hx_fr11_2, hx_fr11_3, hx_fr11_4, hx_fi11_5, hx_sv11_5, hx_fi11_6, hx_sv11_6, hx_fi11_7, hx_sv11_7, hx_fi11_8, hx_sv11_8, hx_v15, hx_fi15_0, hx_sv15_0, hx_fr15_1, hx_fr15_2, hx_fr15_3, hx_fr15_4, hx_v20, hx_fi20_0, hx_sv20_0, hx_fi20_1, hx_sv20_1, hx_fi20_2, hx_sv20_2, hx_fi20_3, hx_sv20_3, hx_fr20_4, hx_fr20_5, hx_fr20_6, hx_fr20_7, hx_fi20_8, hx_sv20_8, hx_fi20_9, hx_sv20_9, hx_fi20_10, hx_sv20_10, hx_fi20_11, hx_sv20_11, hx_v25, hx_fi25_0, hx_sv25_0, hx_fi25_1, hx_sv25_1, hx_fl, hx_sl, hx_fr25_3, hx_li2, hx_ai2, hx_si2, hx_li6, hx_ai6, hx_si6, hx_li7, hx_ai7, hx_si7, hx_li8, hx_ai8, hx_si8, hx_li9, hx_ai9, hx_si9, hx_li10, hx_ai10, hx_si10, hx_li12, hx_ai12, hx_si12, hx_li13, hx_ai13, hx_si13, hx_li14, hx_ai14, hx_si14, hx_li16, hx_ai16, hx_si16, hx_li17, hx_ai17, hx_si17, hx_li18, hx_ai18, hx_si18, hx_li19, hx_ai19, hx_si19, hx_li21, hx_ai21, hx_si21, hx_li22, hx_ai22, hx_si22, hx_li24, hx_ai24, hx_si24, hx_li26, hx_ai26, hx_si26, hx_li27, hx_ai27, hx_si27, hx_li28, hx_ai28, hx_si28, hx_li29, hx_ai29, hx_si29, hx_li30, hx_ai30, hx_si30, hx_li31, hx_ai31, hx_si31, hx_li32, hx_ai32, hx_si32, hx_li33, hx_ai33, hx_si33, hx_lr4, hx_lr23, hx_sf0, hx_sf1, hx_ss1, hx_sf2, hx_ss2, hx_sf3, hx_ss3, hx_lkli, hx_lksi, hz, nI_ltin hi (show n < 1000 by omega), if_true, sX0_likenessOf z w b hg hr a i ha (by omega), nI_1]
      split <;> rfl, trivial⟩)
  rw [← gm_fv_pr hr ha hn]
  obtain ⟨f, rfl⟩ : ∃ f, g = f + 20 := ⟨g - 20, by omega⟩
  unfold aX0_favouriteOf
  rw [eX0_favouriteOf]
  exact loop (-1, -1) trivial (f + 19) (by omega)
theorem sX0_spikeOf (hg : 4000 ≤ g) (hr : hx_rg w) {n : Nat} (hn : n ≤ 7) (hz : z 2 = nI n) (hmo : hx_mo w n) (hst : ∀ i, i < n → 0 ≤ (w 20 i).toInt ∧ (w 20 i).toInt ≤ 9) (a : Nat) (ha : a < 7) : aX0_spikeOf g [.ref 3, .int (nI a)] (hx z w b) = some (some (.int (nI (gm_sp (gm_sf (xw_mb w) (w 20) (w 21) n a)))), hx z w b) := by
  have loop := gm_loopx (n := 6) (fun F i (x : Nat × Int32) => ah_run (kX0_spikeOf g) F 7 [(0, .ref 3), (1, .int (nI a)), (2, .int (nI x.1)), (3, .int x.2), (4, .int (nI i))] [] (hx z w b)) (fun x j => if x.2 < gm_sf (xw_mb w) (w 20) (w 21) n a (nI j) then (j, gm_sf (xw_mb w) (w 20) (w 21) n a (nI j)) else x) (fun x => some (some (.int (nI x.1)), hx z w b)) (fun _ _ => True) (fun f x _ => by
      simp only [rX0_spikeOf_7, nI_lt6 (show 6 < 1000 by omega), Nat.lt_irrefl, if_false]) (fun f i x hi _ => ⟨by
      have hs : 0 ≤ (nI i).toInt ∧ (nI i).toInt ≤ 9 := by rw [nI_toInt (by omega)]; omega
      simp only [rX0_spikeOf_7, Option.bind_some, Option.bind_none, ah_rI_s, ah_rL_s, ah_rV_s, hx_v0, hx_fr0_0, hx_fr0_1, hx_fr0_2, hx_fr0_3, hx_fr0_4, hx_fi0_5, hx_sv0_5, hx_v1, hx_fr1_0, hx_fi1_1, hx_sv1_1, hx_v3, hx_fr3_0, hx_fr3_1, hx_fi3_2, hx_sv3_2, hx_fi3_3, hx_sv3_3, hx_fi3_4, hx_sv3_4, hx_fi3_5, hx_sv3_5, hx_fi3_6, hx_sv3_6, hx_fr3_7, hx_v5, hx_fi5_0, hx_sv5_0, hx_fr5_1, hx_fr5_2, hx_fr5_3, hx_fr5_4, hx_v11, hx_fi11_0, hx_sv11_0, hx_fr11_1, hx_fr11_2, hx_fr11_3, hx_fr11_4, hx_fi11_5, hx_sv11_5, hx_fi11_6, hx_sv11_6, hx_fi11_7, hx_sv11_7, hx_fi11_8, hx_sv11_8, hx_v15, hx_fi15_0, hx_sv15_0, hx_fr15_1, hx_fr15_2, hx_fr15_3, hx_fr15_4, hx_v20, hx_fi20_0, hx_sv20_0, hx_fi20_1, hx_sv20_1, hx_fi20_2, hx_sv20_2, hx_fi20_3, hx_sv20_3, hx_fr20_4, hx_fr20_5, hx_fr20_6, hx_fr20_7, hx_fi20_8, hx_sv20_8, hx_fi20_9, hx_sv20_9, hx_fi20_10, hx_sv20_10, hx_fi20_11, hx_sv20_11, hx_v25, hx_fi25_0, hx_sv25_0, hx_fi25_1, hx_sv25_1, hx_fl, hx_sl, hx_fr25_3, hx_li2, hx_ai2, hx_si2, hx_li6, hx_ai6, hx_si6, hx_li7, hx_ai7, hx_si7, hx_li8, hx_ai8, hx_si8, hx_li9, hx_ai9, hx_si9, hx_li10, hx_ai10, hx_si10, hx_li12, hx_ai12, hx_si12, hx_li13, hx_ai13, hx_si13, hx_li14, hx_ai14, hx_si14, hx_li16, hx_ai16, hx_si16, hx_li17, hx_ai17, hx_si17, hx_li18, hx_ai18, hx_si18, hx_li19, hx_ai19, hx_si19, hx_li21, hx_ai21, hx_si21, hx_li22, hx_ai22, hx_si22, hx_li24, hx_ai24, hx_si24, hx_li26, hx_ai26, hx_si26, hx_li27, hx_ai27, hx_si27, hx_li28, hx_ai28, hx_si28, hx_li29, hx_ai29, hx_si29, hx_li30, hx_ai30, hx_si30, hx_li31, hx_ai31, hx_si31, hx_li32, hx_ai32, hx_si32, hx_li33, hx_ai33, hx_si33, hx_lr4, hx_lr23, hx_sf0, hx_sf1, hx_ss1, hx_sf2, hx_ss2, hx_sf3, hx_ss3, hx_lkli, hx_lksi, nI_lt6 (show i < 1000 by omega), hi, if_true, sX0_seersAt z w b hg hr hn hz hmo hst a ha (nI i) hs, nI_1]
      split <;> rfl, trivial⟩)
  have e := gm_lp_sim (st := fun (x : Nat × Int32) j => if x.2 < gm_sf (xw_mb w) (w 20) (w 21) n a (nI j) then (j, gm_sf (xw_mb w) (w 20) (w 21) n a (nI j)) else x) (st2 := fun t j => if gm_sf (xw_mb w) (w 20) (w 21) n a (nI t) < gm_sf (xw_mb w) (w 20) (w 21) n a (nI j) then j else t) (fun _ x t => x.1 = t ∧ x.2 = gm_sf (xw_mb w) (w 20) (w 21) n a (nI t)) 5 1 (0, gm_sf (xw_mb w) (w 20) (w 21) n a (nI 0)) 0 ⟨rfl, rfl⟩ (fun j x t h1 h2 h3 => by
    rw [h3.2]
    split
    · exact ⟨rfl, rfl⟩
    · exact h3)
  have h0 : gm_lp (fun (x : Nat × Int32) j => if x.2 < gm_sf (xw_mb w) (w 20) (w 21) n a (nI j) then (j, gm_sf (xw_mb w) (w 20) (w 21) n a (nI j)) else x) 6 0 (0, -1) = gm_lp (fun (x : Nat × Int32) j => if x.2 < gm_sf (xw_mb w) (w 20) (w 21) n a (nI j) then (j, gm_sf (xw_mb w) (w 20) (w 21) n a (nI j)) else x) 5 1 (0, gm_sf (xw_mb w) (w 20) (w 21) n a (nI 0)) := by
    rw [gm_lp_s]
    congr 1
    rw [if_pos]
    obtain ⟨m, hm, e⟩ := gm_cnt (fun j => xw_mb w a j && (decide (w 21 j = -1) && decide (gm_far (w 20 j) (nI 0) < 2))) n 0 0 (by omega)
    show (-1 : Int32) < gm_sf (xw_mb w) (w 20) (w 21) n a (nI 0)
    have e : gm_sf (xw_mb w) (w 20) (w 21) n a (nI 0) = nI m := e
    rw [e, i32_lt, i32_m1, nI_toInt (by omega)]
    omega
  have l2 := loop (0, -1) trivial
  rw [h0] at l2
  unfold gm_sp
  rw [← e.1]
  obtain ⟨f, rfl⟩ : ∃ f, g = f + 20 := ⟨g - 20, by omega⟩
  unfold aX0_spikeOf
  rw [eX0_spikeOf]
  exact l2 (f + 19) (by omega)
end XS3
