/-! the machine that makes cells: seven rows of seven -/
def at_mu (n0 : Nat) : Nat → Option Nat := fun j => if j < 7 then some (n0 + 1 + j) else none
def at_rows (n0 : Nat) : ah_H := [.inl (3, 7, .inr (at_mu n0)), .inl (0, 7, .inl (fun _ => 0)), .inl (0, 7, .inl (fun _ => 0)), .inl (0, 7, .inl (fun _ => 0)), .inl (0, 7, .inl (fun _ => 0)), .inl (0, 7, .inl (fun _ => 0)), .inl (0, 7, .inl (fun _ => 0)), .inl (0, 7, .inl (fun _ => 0))]
def at_mul (lim n : Nat) : ah_S := fun J lv st h => (ah_p2 st).bind fun q => bif decide (q.1 = 7 ∧ q.2.1 = 7) && (at_chk h lv q.2.2 && Nat.ble (h.length + 8) lim) then J n lv (.ref h.length :: q.2.2) (h ++ at_rows h.length) else none
theorem at_rows_g {n0 k : Nat} {e : ah_E} (h : (at_rows n0)[k]? = some e) : k < 8 ∧ ((k = 0 ∧ e = .inl (3, 7, .inr (at_mu n0))) ∨ (0 < k ∧ e = .inl (0, 7, .inl (fun _ => 0)))) := by
  have hk : k < 8 := (List.getElem?_eq_some_iff.mp h).1
  refine ⟨hk, ?_⟩
  rcases (show k = 0 ∨ k = 1 ∨ k = 2 ∨ k = 3 ∨ k = 4 ∨ k = 5 ∨ k = 6 ∨ k = 7 by omega) with rfl | rfl | rfl | rfl | rfl | rfl | rfl | rfl
  · exact Or.inl ⟨rfl, (Option.some.inj h).symm⟩
  all_goals exact Or.inr ⟨by omega, (Option.some.inj h).symm⟩
theorem ah_w_app2 (ad : Nat → Nat) (tc : Nat → ClassId) (h h2 : ah_H) {k : Nat} {q : Nat × va_E} (hk : (ah_w ad tc (h ++ h2))[k]? = some q) : (k < h.length ∧ (ah_w ad tc h)[k]? = some q) ∨ (h.length ≤ k ∧ ∃ e, h2[k - h.length]? = some e ∧ q = (ad k, ah_e ad tc e)) := by
  obtain ⟨e, he, rfl⟩ := ah_w_inv hk
  by_cases c : k < h.length
  · rw [List.getElem?_append_left c] at he
    exact Or.inl ⟨c, ah_w_get he⟩
  · rw [List.getElem?_append_right (by omega)] at he
    exact Or.inr ⟨by omega, e, he, rfl⟩
theorem at_outer (cA : ClassId) (h0 : Nat) : Jvm.Free.Multi.outerC cA 7 h0 7 = arrV cA 7 (fun j => if j < 7 then .ref (h0 + 1 + j) else .null) := by
  simp [Jvm.Free.Multi.outerC, arrV, Cell.setSlot]
  rfl
theorem at_inner (cA : ClassId) : Jvm.Free.Multi.innerC cA 7 (defaultValue .int) = arrV cA 7 (fun _ => .int 0) := by
  simp [Jvm.Free.Multi.innerC, arrV]
  rfl
def at_AOA (U : State) : Prop := (Cond.arrayOver (.array .int)).before #[] U = true
theorem at_AOA.moved {u U : State} (hvm : u.vm.Alike U.vm) (h : at_AOA u) : at_AOA U := by
  obtain ⟨comp, c, k, h1, h2, h3, h4, h5⟩ := arrayOverA_spec h
  obtain ⟨k', hk', he⟩ := hvm.2.2 _ _ h3
  have hi : (U.vm.classes.findIdx? fun (x : Class) => match x.kind with | .array component _ => component == comp | _ => false) = some c := by
    have eb : U.vm.bare = u.vm.bare := by first | exact hvm.bare_eq | exact hvm.bare_eq.symm
    have b := va_idx_bare U.vm comp
    rw [eb, va_idx_bare] at b
    exact b.symm.trans h2
  have hkind : k'.kind = .array comp (.array .int) := by rw [he]; exact h4
  have f1 : U.vm.findClass (FieldType.array .int).toString = some comp := by rw [hvm.findClass]; exact h1
  have f2 : U.vm.findClass ("[" ++ (FieldType.array .int).toString) = some c := by rw [hvm.findClass]; exact h5
  unfold at_AOA Cond.before Cond.holds
  simp only [Cond.value]
  rw [f1, Option.bind_some]
  refine (congrArg (fun o : Option Nat => (o.bind (fun c => (U.vm.classes[c]?).map fun (k : Class) => match k.kind with | .array _ ty => decide (ty = FieldType.array .int) && decide (U.vm.findClass ("[" ++ (FieldType.array .int).toString) = some c) | _ => false) == some true)) hi).trans ?_
  simp [hk', hkind, f2]
theorem at_AOA.use {A : Array Value} {U : State} (h : at_AOA U) : (Cond.arrayOver (.array .int)).before A U = true := h
section ATM
variable {p : Program} {l : Launch} {e : Env} {R : Room} {s : State} {m : MethodId} {args : Array Value} {below : List Frame} {meth : Method} {c : Code} {cc : ByteArray} {nL : Nat} {own : String} {ret : Option FieldType} {s0 : State} {D : va_G} {tc : Nat → ClassId} {ad0 : Nat → Nat} {A : Nat → Prop} {n0 mc : Nat} {res : ah_R} {pc : Nat}
theorem at_multi (C : ah_C p s m args meth c cc nL own ret s0 D tc A) (hA2 : ∀ q, s.heap.size ≤ q → A q) (hRc : mc ≤ R.cells ∧ 40 * mc ≤ R.slots) {lim index : Nat} (hlim : lim = n0 + mc) (hd : decode cc pc = .ok (.multianewarray index 2, 4)) (w1 : Cond.classLink own index ("[" ++ (FieldType.array .int).toString) ∈ ah_TT) (w2 : at_AOA s0) (w3 : Cond.arrayClass .int ∈ ah_TT) : ah_Snd (at_G p l e R s m args below meth c nL D tc ad0 A n0 mc res) res pc (at_mul lim (pc + 4)) := by
  intro J hJ lv st h hf ad cn ls H locs ha hl hP hD hS hcn
  replace hf := Option.bind_eq_some_iff.mp hf
  obtain ⟨q, hq, hf⟩ := hf
  obtain rfl := ah_p2_i hq
  cases hb : (decide (q.1 = 7 ∧ q.2.1 = 7) && (at_chk h lv q.2.2 && Nat.ble (h.length + 8) lim)) with
  | false => rw [hb] at hf; cases hf
  | true =>
    rw [hb] at hf
    have hf : J (pc + 4) lv (.ref h.length :: q.2.2) (h ++ at_rows h.length) = some res := hf
    rw [Bool.and_eq_true, Bool.and_eq_true] at hb
    obtain ⟨hb1, hb2, hb3⟩ := hb
    obtain ⟨e1, e2⟩ := of_decide_eq_true hb1
    have hl2 := Nat.le_of_ble_eq_true hb3
    obtain ⟨k1, k2, k3⟩ := at_chk_i hb2
    rw [e1, e2]
    intro T hT X
    subst hT
    have c7 : (7 : Int32).toNatClampNeg = 7 := rfl
    obtain ⟨vm₁, cA, comp, hW, hfA, hfC, hO, hI, X1, step⟩ := X.multianewarray2F C.1 C.2.2.2.1 (C.2.2.2.2.1 _ w1) (at_AOA.use (at_AOA.moved C.2.2.2.2.2.2.1.1.alike w2)) (C.2.2.2.2.1 _ w3) (g := F0 m pc ls (.int 7 :: .int 7 :: q.2.2.map (ah_v ad))) rfl (by rw [C.2.1]; exact hd) rfl (by decide) (by decide) (by decide) (by decide) (by decide) rfl rfl (by rw [c7]; omega) (by rw [c7]; omega)
    rw [c7] at X1 step
    obtain ⟨f1, f2, f3, f4⟩ := Jvm.Free.Multi.fill_facts (T.setVm vm₁) cA comp 7 7 (defaultValue .int) 7
    have fo := fun (a : Addr) (ha : a < T.heap.size) => Jvm.Free.Multi.fill_old (T.setVm vm₁) cA comp 7 7 (defaultValue .int) (a := a) ha 7
    have fi := fun (j : Nat) (hj : j < 7) => Jvm.Free.Multi.fill_inner (T.setVm vm₁) cA comp 7 7 (defaultValue .int) 7 j hj
    have hh : (T.setVm vm₁).heap = T.heap := rfl
    rw [hh] at f1 f2 fo
    simp only [hh] at fi
    have hcA : cA = tc 3 := Option.some.inj (hfA.symm.trans (C.2.2.2.2.2.1.2 3 (tc 3, .array .int) rfl).2)
    have hcm : comp = tc 0 := Option.some.inj (hfC.symm.trans (C.2.2.2.2.2.1.2 0 (tc 0, .int) rfl).2)
    subst hcA
    subst hcm
    rw [at_outer] at f2
    simp only [at_inner] at fi
    generalize hT1 : Jvm.Free.Multi.fill (T.setVm vm₁) (tc 3) (tc 0) 7 7 (defaultValue .int) 7 = T1 at X1 step f1 f2 fo fi
    unfold at_okh at k1
    rw [Bool.and_eq_true] at k1
    have h9 : h.length < 900 := Nat.le_of_ble_eq_true k1.2
    have ag : at_ag h.length ad (fun k => if h.length ≤ k ∧ k < h.length + 8 then T.heap.size + (k - h.length) else ad k) := fun k hk => if_neg (by omega)
    have hP1 : va_P D vwCl (ah_w ad tc h) T1.heap := hP.kept (fun k x hx => fo x.1 ((hP k x hx).lt))
    have adn : ∀ j, j < 8 → (if h.length ≤ h.length + j ∧ h.length + j < h.length + 8 then T.heap.size + (h.length + j - h.length) else ad (h.length + j)) = T.heap.size + j := fun j hj => by
      rw [if_pos (by omega)]
      omega
    have go := hJ _ _ _ _ hf (fun k => if h.length ≤ k ∧ k < h.length + 8 then T.heap.size + (k - h.length) else ad k) (cn + 8) ls T1.heap locs (fun k hk => by
        rw [ag k (by omega)]; exact ha k hk) (by rw [at_ok_lm ag k2]; exact hl) (fun k x hk => by
        rcases ah_w_app2 _ _ _ _ hk with ⟨c1, c2⟩ | ⟨c1, en, c2, c3⟩
        · exact at_wP (Nat.le_refl _) k1.1 ag hP1 k x c2
        · obtain ⟨d1, d2⟩ := at_rows_g c2
          have ek : (if h.length ≤ k ∧ k < h.length + 8 then T.heap.size + (k - h.length) else ad k) = T.heap.size + (k - h.length) := if_pos (by omega)
          rcases d2 with ⟨d2, d3⟩ | ⟨d2, d3⟩
          · rw [c3, d3]
            show T1.heap[if h.length ≤ k ∧ k < h.length + 8 then T.heap.size + (k - h.length) else ad k]? = some (arrV (tc 3) 7 (fun j => va_rf ((at_mu h.length j).map (fun k => if h.length ≤ k ∧ k < h.length + 8 then T.heap.size + (k - h.length) else ad k))))
            rw [ek, d2, Nat.add_zero, f2]
            refine congrArg some (arrV_congr (fun j hj => ?_))
            unfold at_mu
            rw [if_pos hj, if_pos hj]
            show _ = Value.ref (if h.length ≤ h.length + 1 + j ∧ h.length + 1 + j < h.length + 8 then T.heap.size + (h.length + 1 + j - h.length) else ad (h.length + 1 + j))
            rw [if_pos (by omega)]
            exact congrArg Value.ref (show T.heap.size + 1 + j = T.heap.size + (h.length + 1 + j - h.length) by omega)
          · rw [c3, d3]
            show T1.heap[if h.length ≤ k ∧ k < h.length + 8 then T.heap.size + (k - h.length) else ad k]? = some (arrV (tc 0) 7 (fun j => .int 0))
            rw [ek]
            have := fi (k - h.length - 1) (by omega)
            rw [show T.heap.size + 1 + (k - h.length - 1) = T.heap.size + (k - h.length) by omega] at this
            exact this) (by
        have key : ∀ (i : Nat) (x : Nat × va_E), (ah_w (fun k => if h.length ≤ k ∧ k < h.length + 8 then T.heap.size + (k - h.length) else ad k) tc (h ++ at_rows h.length))[i]? = some x → (i < h.length ∧ x.1 < T.heap.size ∧ ∃ y, (ah_w ad tc h)[i]? = some y ∧ y.1 = x.1) ∨ (h.length ≤ i ∧ i < h.length + 8 ∧ x.1 = T.heap.size + (i - h.length)) := by
          intro i x hi
          rcases ah_w_app2 _ _ _ _ hi with ⟨c1, c2⟩ | ⟨c1, en, c2, c3⟩
          · left
            obtain ⟨e1, h1, rfl⟩ := ah_w_inv c2
            have h2 := ah_w_get (ad := ad) (tc := tc) h1
            refine ⟨c1, ?_, _, h2, ?_⟩
            · show (if h.length ≤ i ∧ i < h.length + 8 then T.heap.size + (i - h.length) else ad i) < T.heap.size
              rw [if_neg (by omega)]
              exact (hP i _ h2).lt
            · show ad i = if h.length ≤ i ∧ i < h.length + 8 then T.heap.size + (i - h.length) else ad i
              rw [if_neg (by omega)]
          · right
            obtain ⟨d1, d2⟩ := at_rows_g c2
            refine ⟨c1, by omega, ?_⟩
            rw [c3]
            exact if_pos (by omega)
        refine ⟨fun i j x y hi hj exy => ?_, fun k x hk => ?_⟩
        · rcases key i x hi with ⟨a1, a2, z1, a3, a4⟩ | ⟨a1, a2, a3⟩
          · rcases key j y hj with ⟨b1, b2, z2, b3, b4⟩ | ⟨b1, b2, b3⟩
            · exact hD.1 i j z1 z2 a3 b3 (by rw [a4, b4]; exact exy)
            · omega
          · rcases key j y hj with ⟨b1, b2, z2, b3, b4⟩ | ⟨b1, b2, b3⟩
            · omega
            · omega
        · rcases key k x hk with ⟨a1, a2, z1, a3, a4⟩ | ⟨a1, a2, a3⟩
          · rw [← a4]
            exact hD.2 k z1 a3
          · rw [a3]
            exact hA2 _ (Nat.le_trans hS.1 (Nat.le_add_right _ _))) ⟨Nat.le_trans hS.1 (by rw [f1]; omega), fun x h1 h2 => (fo x (Nat.lt_of_lt_of_le h1 hS.1)).trans (hS.2.1 x h1 h2), hS.2.2⟩ (by rw [List.length_append]; show _ = h.length + 8; omega)
    rw [List.map_cons, at_ok_st ag k3] at go
    have ev : ah_v (fun k => if h.length ≤ k ∧ k < h.length + 8 then T.heap.size + (k - h.length) else ad k) (.ref h.length) = .ref T.heap.size := by
      show Value.ref (if h.length ≤ h.length ∧ h.length < h.length + 8 then T.heap.size + (h.length - h.length) else ad h.length) = _
      rw [if_pos (by omega), Nat.sub_self, Nat.add_zero]
    rw [ev] at go
    obtain ⟨t2, a1, b1⟩ := go T1 rfl (stand_widen X1 (by omega) (by omega))
    exact ⟨t2, step t2 a1, b1⟩
end ATM
