/-! singleAt: what it answers -/
theorem ob_last (h : ah_H) (q : Nat × List Value) : ah_ob (h ++ [.inr q]) h.length = some q := by
  unfold ah_ob
  rw [List.getElem?_append_right (Nat.le_refl _), Nat.sub_self]
  rfl
theorem set_last (h : ah_H) (x y : ah_E) : (h ++ [x]).set h.length y = h ++ [y] := by
  rw [List.set_append_right _ _ (Nat.le_refl _), Nat.sub_self]
  rfl
theorem sv_last (h : ah_H) (ci k : Nat) (cs : List Nat) (fs : List Value) (v : Value) (h1 : ah_in ci cs = true) (h2 : Nat.blt k fs.length = true) : ah_sv (h ++ [.inr (ci, fs)]) h.length cs k v = some (h ++ [.inr (ci, fs.set k v)]) := by
  unfold ah_sv
  rw [ob_last, ob_s, h1, h2, set_last]
  rfl
def at_D4 : List Value := [.int 0, .int 0, .int 0, .int 0]
theorem at_ok_lt {n k : Nat} (h : k < n) : at_ok n (.ref k) = true := by
  show (Nat.blt k n || Nat.ble 1000 k) = true
  rw [show Nat.blt k n = true from Nat.ble_eq_true_of_le h]
  rfl
/-- a heap whose references are old, whatever comes -/
def at_H (h : ah_H) : Prop := (∀ n, h.length ≤ n → h.all (at_oke n) = true) ∧ h.length < 800
theorem at_H_okh {h : ah_H} (H : at_H h) : at_okh h = true := by
  unfold at_okh
  rw [H.1 _ (Nat.le_refl _), show Nat.blt h.length 900 = true from Nat.ble_eq_true_of_le (by have := H.2; omega)]
  rfl
theorem at_H_app {h : ah_H} (H : at_H h) {ci : Nat} {fs : List Value} (hf : ∀ n, fs.all (at_ok n) = true) (hl : h.length < 799) : at_H (h ++ [.inr (ci, fs)]) := by
  refine ⟨fun n hn => ?_, by rw [List.length_append]; show h.length + 1 < 800; omega⟩
  rw [List.length_append] at hn
  rw [List.all_append, H.1 n (by have : h.length + 1 ≤ n := hn; omega)]
  show (true && ((fs.all (at_ok n)) && true)) = true
  rw [hf n]
  rfl
theorem at_chk_t {h : ah_H} {lv : ah_L} {st : List Value} (H : at_H h) (h2 : at_okl h.length lv = true) (h3 : st.all (at_ok h.length) = true) : at_chk h lv st = true := by
  unfold at_chk
  rw [at_H_okh H, h2, h3]
  rfl
section SGA
variable {g : Nat}
theorem eX8i (g f lim k : Nat) (a b c : Int32) (h : ah_H) : ah_fun (kX8_init g lim) 4 (f + 1) [.ref k, .int a, .int b, .int c] h = (ah_sv h k [1, 3, 5, 8, 9] 3 (.int (-1))).bind fun h1 => (ah_sv h1 k [1, 3, 5, 8, 9] 0 (.int a)).bind fun h2 => (ah_sv h2 k [1, 3, 5, 8, 9] 1 (.int b)).bind fun h3 => (ah_sv h3 k [1, 3, 5, 8, 9] 2 (.int c)).bind fun h4 => some (none, h4) := Eq.trans rfl rfl
theorem sX8i (hg : 1 ≤ g) (h : ah_H) (ci : Nat) (hc : ah_in ci [1, 3, 5, 8, 9] = true) (a b c : Int32) : aX8_init g [.ref h.length, .int a, .int b, .int c] (h ++ [.inr (ci, at_D4)]) = some (none, h ++ [.inr (ci, [.int a, .int b, .int c, .int (-1)])]) := by
  obtain ⟨f, rfl⟩ : ∃ f, g = f + 1 := ⟨g - 1, by omega⟩
  unfold aX8_init at_D4
  rw [eX8i, sv_last h ci 3 _ _ _ hc rfl, ob_s, sv_last h ci 0 _ _ _ hc rfl, ob_s, sv_last h ci 1 _ _ _ hc rfl, ob_s, sv_last h ci 2 _ _ _ hc rfl, ob_s, ob_s]
  have e : Nat.ble (h ++ [.inr (ci, [.int a, .int b, .int c, .int (-1)])] : ah_H).length ((h ++ [.inr (ci, [.int 0, .int 0, .int 0, .int 0])] : ah_H).length + 0) = true := by
    rw [List.length_append, List.length_append]
    exact Nat.ble_eq_true_of_le (Nat.le_refl _)
  show (bif Nat.ble (h ++ [.inr (ci, [.int a, .int b, .int c, .int (-1)])] : ah_H).length ((h ++ [.inr (ci, [.int 0, .int 0, .int 0, .int 0])] : ah_H).length + 0) then some ((none, h ++ [.inr (ci, [.int a, .int b, .int c, .int (-1)])]) : ah_R) else none) = _
  rw [e]
  rfl
theorem at_cIe (F : ah_F) (lim k : Nat) (a b c : Int32) (h : ah_H) (cells : ah_H) (H : at_H (h ++ cells)) (hk : k < (h ++ cells).length) (hl : (h ++ cells).length ≤ lim) (h2 : ah_H) (hF : F [.ref k, .int a, .int b, .int c] (h ++ cells) = some (none, h2)) (hlen : h2.length = (h ++ cells).length) : (bif at_chk (h ++ cells) [(0, .ref k), (1, .int a), (2, .int b), (3, .int c)] [] && Nat.ble ((h ++ cells).length + 0) lim then (ah_rV (F [.ref k, .int a, .int b, .int c] (h ++ cells))).bind fun h2 => bif Nat.beq h2.length ((h ++ cells).length + 0) then some ((none, h2) : ah_R) else none else none) = some (none, h2) := by
  have e1 : at_chk (h ++ cells) [(0, .ref k), (1, .int a), (2, .int b), (3, .int c)] [] = true := at_chk_t H (by
    show (at_ok _ (.ref k) && true) = true
    rw [at_ok_lt hk]; rfl) rfl
  rw [e1, show Nat.ble ((h ++ cells).length + 0) lim = true from Nat.ble_eq_true_of_le hl, hF, ar_V, ob_s, show Nat.beq h2.length ((h ++ cells).length + 0) = true by rw [hlen]; exact Nat.beq_refl _]
  rfl
theorem eX1i (g f lim k : Nat) (a b c : Int32) (h : ah_H) : ah_fun (kX1_init g lim) 4 (f + 1) [.ref k, .int a, .int b, .int c] h = (bif at_chk h [(0, .ref k), (1, .int a), (2, .int b), (3, .int c)] [] && Nat.ble (h.length + 0) lim then (ah_rV (aX8_init g [.ref k, .int a, .int b, .int c] h)).bind fun h2 => bif Nat.beq h2.length (h.length + 0) then some ((none, h2) : ah_R) else none else none) := Eq.trans rfl rfl
theorem eX5i (g f lim k : Nat) (a b c : Int32) (h : ah_H) : ah_fun (kX5_init g lim) 4 (f + 1) [.ref k, .int a, .int b, .int c] h = (bif at_chk h [(0, .ref k), (1, .int a), (2, .int b), (3, .int c)] [] && Nat.ble (h.length + 0) lim then (ah_rV (aX8_init g [.ref k, .int a, .int b, .int c] h)).bind fun h2 => bif Nat.beq h2.length (h.length + 0) then some ((none, h2) : ah_R) else none else none) := Eq.trans rfl rfl
theorem eX9i (g f lim k : Nat) (a b c : Int32) (h : ah_H) : ah_fun (kX9_init g lim) 4 (f + 1) [.ref k, .int a, .int b, .int c] h = (bif at_chk h [(0, .ref k), (1, .int a), (2, .int b), (3, .int c)] [] && Nat.ble (h.length + 0) lim then (ah_rV (aX8_init g [.ref k, .int a, .int b, .int c] h)).bind fun h2 => bif Nat.beq h2.length (h.length + 0) then some ((none, h2) : ah_R) else none else none) := Eq.trans rfl rfl
theorem eX3i (g f lim k : Nat) (a b c : Int32) (h : ah_H) : ah_fun (kX3_init g lim) 4 (f + 1) [.ref k, .int a, .int b, .int c] h = (bif at_chk h [(0, .ref k), (1, .int a), (2, .int b), (3, .int c)] [] && Nat.ble (h.length + 0) lim then (ah_rV (aX1_init g [.ref k, .int a, .int b, .int c] h)).bind fun h2 => bif Nat.beq h2.length (h.length + 0) then some ((none, h2) : ah_R) else none else none) := Eq.trans rfl rfl
theorem len1 (h : ah_H) (x y : ah_E) : (h ++ [x]).length = (h ++ [y]).length := by rw [List.length_append, List.length_append]; rfl
theorem fin0 (h : ah_H) (x y : ah_E) : (bif Nat.ble ((none, h ++ [x]) : ah_R).2.length ((h ++ [y]).length + 0) then some ((none, h ++ [x]) : ah_R) else none) = some (none, h ++ [x]) := by
  rw [show Nat.ble ((none, h ++ [x]) : ah_R).2.length ((h ++ [y]).length + 0) = true from Nat.ble_eq_true_of_le (Nat.le_of_eq (len1 h x y))]
  rfl
theorem sX1i (hg : 1 ≤ g) (h : ah_H) (H : at_H h) (hl : h.length < 799) (ci : Nat) (hc : ah_in ci [1, 3, 5, 8, 9] = true) (a b c : Int32) : aX1_init g [.ref h.length, .int a, .int b, .int c] (h ++ [.inr (ci, at_D4)]) = some (none, h ++ [.inr (ci, [.int a, .int b, .int c, .int (-1)])]) := by
  have s8 := sX8i hg h ci hc a b c
  have hk : h.length < (h ++ [.inr (ci, at_D4)] : ah_H).length := by rw [List.length_append]; show h.length < h.length + 1; omega
  have e := at_cIe (aX8_init g) ((h ++ [.inr (ci, at_D4)] : ah_H).length + 0) h.length a b c h [.inr (ci, at_D4)] (at_H_app H (fun _ => rfl) hl) hk (Nat.le_refl _) _ s8 (len1 _ _ _)
  obtain ⟨f, rfl⟩ : ∃ f, g = f + 1 := ⟨g - 1, by omega⟩
  unfold aX1_init
  rw [eX1i, e, ob_s]
  exact fin0 _ _ _
theorem sX5i (hg : 1 ≤ g) (h : ah_H) (H : at_H h) (hl : h.length < 799) (ci : Nat) (hc : ah_in ci [1, 3, 5, 8, 9] = true) (a b c : Int32) : aX5_init g [.ref h.length, .int a, .int b, .int c] (h ++ [.inr (ci, at_D4)]) = some (none, h ++ [.inr (ci, [.int a, .int b, .int c, .int (-1)])]) := by
  have s8 := sX8i hg h ci hc a b c
  have hk : h.length < (h ++ [.inr (ci, at_D4)] : ah_H).length := by rw [List.length_append]; show h.length < h.length + 1; omega
  have e := at_cIe (aX8_init g) ((h ++ [.inr (ci, at_D4)] : ah_H).length + 0) h.length a b c h [.inr (ci, at_D4)] (at_H_app H (fun _ => rfl) hl) hk (Nat.le_refl _) _ s8 (len1 _ _ _)
  obtain ⟨f, rfl⟩ : ∃ f, g = f + 1 := ⟨g - 1, by omega⟩
  unfold aX5_init
  rw [eX5i, e, ob_s]
  exact fin0 _ _ _
theorem sX9i (hg : 1 ≤ g) (h : ah_H) (H : at_H h) (hl : h.length < 799) (ci : Nat) (hc : ah_in ci [1, 3, 5, 8, 9] = true) (a b c : Int32) : aX9_init g [.ref h.length, .int a, .int b, .int c] (h ++ [.inr (ci, at_D4)]) = some (none, h ++ [.inr (ci, [.int a, .int b, .int c, .int (-1)])]) := by
  have s8 := sX8i hg h ci hc a b c
  have hk : h.length < (h ++ [.inr (ci, at_D4)] : ah_H).length := by rw [List.length_append]; show h.length < h.length + 1; omega
  have e := at_cIe (aX8_init g) ((h ++ [.inr (ci, at_D4)] : ah_H).length + 0) h.length a b c h [.inr (ci, at_D4)] (at_H_app H (fun _ => rfl) hl) hk (Nat.le_refl _) _ s8 (len1 _ _ _)
  obtain ⟨f, rfl⟩ : ∃ f, g = f + 1 := ⟨g - 1, by omega⟩
  unfold aX9_init
  rw [eX9i, e, ob_s]
  exact fin0 _ _ _
theorem sX3i (hg : 1 ≤ g) (h : ah_H) (H : at_H h) (hl : h.length < 799) (ci : Nat) (hc : ah_in ci [1, 3, 5, 8, 9] = true) (a b c : Int32) : aX3_init g [.ref h.length, .int a, .int b, .int c] (h ++ [.inr (ci, at_D4)]) = some (none, h ++ [.inr (ci, [.int a, .int b, .int c, .int (-1)])]) := by
  have s8 := sX1i hg h H hl ci hc a b c
  have hk : h.length < (h ++ [.inr (ci, at_D4)] : ah_H).length := by rw [List.length_append]; show h.length < h.length + 1; omega
  have e := at_cIe (aX1_init g) ((h ++ [.inr (ci, at_D4)] : ah_H).length + 0) h.length a b c h [.inr (ci, at_D4)] (at_H_app H (fun _ => rfl) hl) hk (Nat.le_refl _) _ s8 (len1 _ _ _)
  obtain ⟨f, rfl⟩ : ∃ f, g = f + 1 := ⟨g - 1, by omega⟩
  unfold aX3_init
  rw [eX3i, e, ob_s]
  exact fin0 _ _ _
/-- one branch of singleAt -/
def sg_br (lim : Nat) (F : ah_F) (ci : Nat) (x1 x2 x3 : Int32) (h : ah_H) : Option ah_R := bif at_chk h [(3, .int x1), (4, .int x2), (5, .int x3)] [] && Nat.ble (h.length + 1) lim then (bif at_chk (h ++ [.inr (ci, at_D4)]) [(3, .int x1), (4, .int x2), (5, .int x3)] [.ref h.length] && Nat.ble ((h ++ [.inr (ci, at_D4)] : ah_H).length + 0) lim then (ah_rV (F [.ref h.length, .int x1, .int x2, .int x3] (h ++ [.inr (ci, at_D4)]))).bind fun h2 => bif Nat.beq h2.length ((h ++ [.inr (ci, at_D4)] : ah_H).length + 0) then some ((some (.ref h.length), h2) : ah_R) else none else none) else none
theorem rX4s_84 (g f lim : Nat) (x1 x2 x3 : Int32) (h : ah_H) : ah_run (kX4_singleAt g lim) (f + 1) 84 [(3, .int x1), (4, .int x2), (5, .int x3)] [] h = sg_br lim (aX1_init g) 1 x1 x2 x3 h := Eq.trans rfl rfl
theorem rX4s_97 (g f lim : Nat) (x1 x2 x3 : Int32) (h : ah_H) : ah_run (kX4_singleAt g lim) (f + 1) 97 [(3, .int x1), (4, .int x2), (5, .int x3)] [] h = sg_br lim (aX9_init g) 9 x1 x2 x3 h := Eq.trans rfl rfl
theorem rX4s_110 (g f lim : Nat) (x1 x2 x3 : Int32) (h : ah_H) : ah_run (kX4_singleAt g lim) (f + 1) 110 [(3, .int x1), (4, .int x2), (5, .int x3)] [] h = sg_br lim (aX5_init g) 5 x1 x2 x3 h := Eq.trans rfl rfl
theorem rX4s_123 (g f lim : Nat) (x1 x2 x3 : Int32) (h : ah_H) : ah_run (kX4_singleAt g lim) (f + 1) 123 [(3, .int x1), (4, .int x2), (5, .int x3)] [] h = sg_br lim (aX3_init g) 3 x1 x2 x3 h := Eq.trans rfl rfl
theorem rX4s_136 (g f lim : Nat) (x1 x2 x3 : Int32) (h : ah_H) : ah_run (kX4_singleAt g lim) (f + 1) 136 [(3, .int x1), (4, .int x2), (5, .int x3)] [] h = sg_br lim (aX8_init g) 8 x1 x2 x3 h := Eq.trans rfl rfl
theorem rX4s_42 (g f lim a0 : Nat) (k x1 x2 x3 : Int32) (h : ah_H) : ah_run (kX4_singleAt g lim) (f + 1) 42 [(0, .ref a0), (2, .int k), (3, .int x1), (4, .int x2), (5, .int x3)] [] h = (ah_fr h a0 [4] 0).bind fun v4 => (ah_li h v4 0 k).bind fun x4 => bif Nat.ble h.length lim then (if ah_ix (x4.toUInt32 % 65536).toInt32 = 1 then ah_run (kX4_singleAt g lim) f 84 [(3, .int x1), (4, .int x2), (5, .int x3)] [] h else if ah_ix (x4.toUInt32 % 65536).toInt32 = 2 then ah_run (kX4_singleAt g lim) f 97 [(3, .int x1), (4, .int x2), (5, .int x3)] [] h else if ah_ix (x4.toUInt32 % 65536).toInt32 = 3 then ah_run (kX4_singleAt g lim) f 110 [(3, .int x1), (4, .int x2), (5, .int x3)] [] h else if ah_ix (x4.toUInt32 % 65536).toInt32 = 4 then ah_run (kX4_singleAt g lim) f 123 [(3, .int x1), (4, .int x2), (5, .int x3)] [] h else ah_run (kX4_singleAt g lim) f 136 [(3, .int x1), (4, .int x2), (5, .int x3)] [] h) else none := Eq.trans rfl rfl
theorem eX4s (g f lim a0 : Nat) (p1 : Int32) (h : ah_H) : ah_fun (kX4_singleAt g lim) 6 (f + 1) [.ref a0, .int p1] h = (ah_fr h a0 [4] 0).bind fun v1 => (ah_li h v1 0 (p1 * 5 + 1)).bind fun x1 => (ah_fr h a0 [4] 0).bind fun v2 => (ah_li h v2 0 (p1 * 5 + 2)).bind fun x2 => (ah_fr h a0 [4] 0).bind fun v3 => (ah_li h v3 0 (p1 * 5 + 3)).bind fun x3 => ah_run (kX4_singleAt g lim) f 42 [(0, .ref a0), (2, .int (p1 * 5)), (3, .int (x1 - 48)), (4, .int (x2 - 48)), (5, .int (x3 - 48))] [] h := Eq.trans rfl rfl
theorem sg_br_s {lim : Nat} {F : ah_F} {ci : Nat} {x1 x2 x3 : Int32} {h : ah_H} (H : at_H h) (hl : h.length < 799) (hlim : lim = h.length + 1) (hF : F [.ref h.length, .int x1, .int x2, .int x3] (h ++ [.inr (ci, at_D4)]) = some (none, h ++ [.inr (ci, [.int x1, .int x2, .int x3, .int (-1)])])) : sg_br lim F ci x1 x2 x3 h = some (some (.ref h.length), h ++ [.inr (ci, [.int x1, .int x2, .int x3, .int (-1)])]) := by
  subst hlim
  have hk : (h ++ [.inr (ci, at_D4)] : ah_H).length = h.length + 1 := by rw [List.length_append]; rfl
  have e1 : at_chk h [(3, .int x1), (4, .int x2), (5, .int x3)] [] = true := at_chk_t H rfl rfl
  have e2 : at_chk (h ++ [.inr (ci, at_D4)]) [(3, .int x1), (4, .int x2), (5, .int x3)] [.ref h.length] = true := at_chk_t (at_H_app H (fun _ => rfl) hl) rfl (by
    show (at_ok _ (.ref h.length) && true) = true
    rw [at_ok_lt (by rw [hk]; omega)]; rfl)
  unfold sg_br
  rw [e1, e2, hF, ar_V, ob_s, show Nat.ble (h.length + 1) (h.length + 1) = true from Nat.ble_eq_true_of_le (Nat.le_refl _), show Nat.ble ((h ++ [.inr (ci, at_D4)] : ah_H).length + 0) (h.length + 1) = true from Nat.ble_eq_true_of_le (by omega), show Nat.beq (h ++ [.inr (ci, [.int x1, .int x2, .int x3, .int (-1)])] : ah_H).length ((h ++ [.inr (ci, at_D4)] : ah_H).length + 0) = true by rw [len1 h (.inr (ci, [.int x1, .int x2, .int x3, .int (-1)])) (.inr (ci, at_D4))]; exact Nat.beq_refl _]
  rfl
/-- the class of a letter -/
def sg_kc (x : Int32) : Nat := if ah_ix x = 1 then 1 else if ah_ix x = 2 then 9 else if ah_ix x = 3 then 5 else if ah_ix x = 4 then 3 else 8
theorem sX4_singleAt (hg : 3 ≤ g) (h : ah_H) (H : at_H h) (hl : h.length < 799) (h1 : 1 < h.length) (c : Nat → Int32) (hp : ah_fr h 1 [4] 0 = some 2) (hc : ah_ai h 2 0 = some (36, c)) (i : Nat) (hi : 5 * i + 3 < 36) (ex : ((c (5 * i)).toUInt32 % 65536).toInt32 = c (5 * i)) : aX4_singleAt g [.ref 1, .int (nI i)] h = some (some (.ref h.length), h ++ [.inr (sg_kc (c (5 * i)), [.int (c (5 * i + 1) - 48), .int (c (5 * i + 2) - 48), .int (c (5 * i + 3) - 48), .int (-1)])]) := by
  have e5 : nI i * 5 = nI (5 * i) := by rw [show (5 : Int32) = nI 5 from rfl, pk_mul, Nat.mul_comm]
  have e1 : nI (5 * i) + 1 = nI (5 * i + 1) := nI_1 _
  have e2 : nI (5 * i) + 2 = nI (5 * i + 2) := nI_add (5 * i) 2
  have e3 : nI (5 * i) + 3 = nI (5 * i + 3) := nI_add (5 * i) 3
  have li : ∀ k, k < 36 → ah_li h 2 0 (nI k) = some (c k) := fun k hk => by
    unfold ah_li
    rw [hc, ob_s]
    show ah_rd c 36 (nI k) = some (c k)
    exact ah_rdN hk (by decide)
  have b1 := fun (ci : Nat) (hci : ah_in ci [1, 3, 5, 8, 9] = true) => sX8i (show 1 ≤ g by omega) h ci hci (c (5 * i + 1) - 48) (c (5 * i + 2) - 48) (c (5 * i + 3) - 48)
  have q1 := sX1i (show 1 ≤ g by omega) h H hl 1 rfl (c (5 * i + 1) - 48) (c (5 * i + 2) - 48) (c (5 * i + 3) - 48)
  have q9 := sX9i (show 1 ≤ g by omega) h H hl 9 rfl (c (5 * i + 1) - 48) (c (5 * i + 2) - 48) (c (5 * i + 3) - 48)
  have q5 := sX5i (show 1 ≤ g by omega) h H hl 5 rfl (c (5 * i + 1) - 48) (c (5 * i + 2) - 48) (c (5 * i + 3) - 48)
  have q3 := sX3i (show 1 ≤ g by omega) h H hl 3 rfl (c (5 * i + 1) - 48) (c (5 * i + 2) - 48) (c (5 * i + 3) - 48)
  have q8 := b1 8 rfl
  have fin : ∀ x : ah_E, (bif Nat.ble ((some (.ref h.length), h ++ [x]) : ah_R).2.length (h.length + 1) then some ((some (.ref h.length), h ++ [x]) : ah_R) else none) = some (some (.ref h.length), h ++ [x]) := fun x => by
    rw [show Nat.ble ((some (.ref h.length), h ++ [x]) : ah_R).2.length (h.length + 1) = true from Nat.ble_eq_true_of_le (by show (h ++ [x]).length ≤ h.length + 1; rw [List.length_append]; exact Nat.le_refl _)]
    rfl
  obtain ⟨f, rfl⟩ : ∃ f, g = ((f + 1) + 1) + 1 := ⟨g - 3, by omega⟩
  unfold aX4_singleAt
  rw [eX4s]
  simp only [rX4s_42, rX4s_84, rX4s_97, rX4s_110, rX4s_123, rX4s_136, hp, ob_s, e5, e1, e2, e3, li (5 * i + 1) (by omega), li (5 * i + 2) (by omega), li (5 * i + 3) (by omega), li (5 * i) (by omega), ex]
  rw [show Nat.ble h.length (h.length + 1) = true from Nat.ble_eq_true_of_le (by omega), cond_true]
  unfold sg_kc
  by_cases d1 : ah_ix (c (5 * i)) = 1
  · rw [if_pos d1, if_pos d1, sg_br_s H hl rfl q1, ob_s]
    exact fin _
  · rw [if_neg d1, if_neg d1]
    by_cases d2 : ah_ix (c (5 * i)) = 2
    · rw [if_pos d2, if_pos d2, sg_br_s H hl rfl q9, ob_s]
      exact fin _
    · rw [if_neg d2, if_neg d2]
      by_cases d3 : ah_ix (c (5 * i)) = 3
      · rw [if_pos d3, if_pos d3, sg_br_s H hl rfl q5, ob_s]
        exact fin _
      · rw [if_neg d3, if_neg d3]
        by_cases d4 : ah_ix (c (5 * i)) = 4
        · rw [if_pos d4, if_pos d4, sg_br_s H hl rfl q3, ob_s]
          exact fin _
        · rw [if_neg d4, if_neg d4, sg_br_s H hl rfl q8, ob_s]
          exact fin _
end SGA
