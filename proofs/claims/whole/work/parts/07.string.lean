/-! the letters of the kinds: the place of a letter in "sgkrm" -/
def ah_ix (x : Int32) : Int32 := if x = 115 then 0 else if x = 103 then 1 else if x = 107 then 2 else if x = 114 then 3 else if x = 109 then 4 else -1
def ah_idx (n : Nat) : ah_S := fun J lv st h => (ah_qi st).bind fun q => bif Nat.beq q.1 1000 && ah_rm q.2.2 8 then J n lv (.int (ah_ix q.2.1) :: q.2.2) h else none
section AHZ
variable {p : Program} {l : Launch} {e : Env} {R : Room} {s : State} {m : MethodId} {args : Array Value} {below : List Frame} {meth : Method} {c : Code} {cc : ByteArray} {nL : Nat} {own : String} {ret : Option FieldType} {s0 : State} {D : va_G} {tc : Nat → ClassId} {ad : Nat → Nat} {A : Nat → Prop} {res : ah_R} {pc : Nat}
theorem as_str (C : ah_C p s m args meth c cc nL RX4 ret s0 D tc A) (hW : ah_W0 s0 ad A) (hd : decode cc pc = .ok (.ldc 27, 2)) : ah_Snd (ah_G p l e R s m args below meth c nL D tc ad A res) res pc (ah_push (.ref 1000) (pc + 2)) := by
  intro J hJ lv st h hf ls H locs hl hP hD hS
  obtain ⟨av, hR, hS0, hZ⟩ := hW.2.2
  exact va_ldcS C.1 C.2.1 C.2.2.2.1 (hR.warm C.2.2.2.2.2.2.1.1) hd (hJ _ _ _ _ hf ls H locs hl hP hD hS)
theorem as_idx (C : ah_C p s m args meth c cc nL own ret s0 D tc A) (hW : ah_W0 s0 ad A) {idx : Nat} (hd : decode cc pc = .ok (.invokevirtual idx, 3)) (w1 : Cond.methodLink own idx yJ0_indexOf_0f7a4 ∈ ah_TT) (hR : 8 ≤ R.frames ∧ 400 ≤ R.locals) : ah_Snd (ah_G p l e R s m args below meth c nL D tc ad A res) res pc (ah_idx (pc + 3)) := by
  sorry
end AHZ
