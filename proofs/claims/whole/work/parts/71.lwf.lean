/-! the law: what its start gives -/
section LWF
variable {p : Program} {l : Launch} {e : Env} {s : State} {m : MethodId} {below : List Frame} {meth : Method} {c : Code} {b L : Nat} {xs : Nat → Int32} {D : va_G} {tc : Nat → ClassId} {q1 zz : Nat} {ad2 : Nat → Nat} {k : Nat} {H : Heap} {locs : List Loc} {ls : Array Slot} {Q : State → Prop} {g : Nat}
theorem lw_kn (hts : ∀ w ∈ ah_TT, w.before #[Value.ref b] s = true) : ∃ D : va_G, ∀ (k : Nat) (q : vw_C), vwCl[k]? = some q → u_Kn s q.1 q.2.1 q.2.2 (D.1 k) (D.2 k) := by
  obtain ⟨c0, i0, k0⟩ := u_known (C := RX0) (T := TX0) (N := 8) (n := 8) hts inX0 (hts _ wl_210)
  obtain ⟨c1, i1, k1⟩ := u_known (C := RX1) (T := TX1) (N := 4) (n := 4) hts inX1 (hts _ wl_211)
  obtain ⟨c2, i2, k2⟩ := u_known (C := RX2) (T := TX2) (N := 9) (n := 9) hts inX2 (hts _ wl_212)
  obtain ⟨c3, i3, k3⟩ := u_known (C := RX3) (T := TX3) (N := 4) (n := 4) hts inX3 (hts _ wl_213)
  obtain ⟨c4, i4, k4⟩ := u_known (C := RX4) (T := TX4) (N := 2) (n := 2) hts inX4 (hts _ wl_214)
  obtain ⟨c5, i5, k5⟩ := u_known (C := RX5) (T := TX5) (N := 4) (n := 4) hts inX5 (hts _ wl_215)
  obtain ⟨c6, i6, k6⟩ := u_known (C := RX6) (T := TX6) (N := 12) (n := 12) hts inX6 (hts _ wl_216)
  obtain ⟨c7, i7, k7⟩ := u_known (C := RX7) (T := TX7) (N := 5) (n := 5) hts inX7 (hts _ wl_217)
  obtain ⟨c8, i8, k8⟩ := u_known (C := RX8) (T := TX8) (N := 4) (n := 4) hts inX8 (hts _ wl_218)
  obtain ⟨c9, i9, k9⟩ := u_known (C := RX9) (T := TX9) (N := 4) (n := 4) hts inX9 (hts _ wl_219)
  obtain ⟨c10, i10, k10⟩ := u_known (C := RX10) (T := TX10) (N := 4) (n := 4) hts inX10 (hts _ wl_220)
  obtain ⟨c11, i11, k11⟩ := u_known (C := RX11) (T := TX11) (N := 6) (n := 6) hts inX11 (hts _ wl_221)
  obtain ⟨c12, i12, k12⟩ := u_known (C := RX12) (T := TX12) (N := 30) (n := 30) hts inX12 (hts _ wl_222)
  refine ⟨(fun k => match k with | 0 => c0 | 1 => c1 | 2 => c2 | 3 => c3 | 4 => c4 | 5 => c5 | 6 => c6 | 7 => c7 | 8 => c8 | 9 => c9 | 10 => c10 | 11 => c11 | _ => c12, fun k => match k with | 0 => i0 | 1 => i1 | 2 => i2 | 3 => i3 | 4 => i4 | 5 => i5 | 6 => i6 | 7 => i7 | 8 => i8 | 9 => i9 | 10 => i10 | 11 => i11 | _ => i12), ?_⟩
  intro k q hq
  have hk : k < 13 := (List.getElem?_eq_some_iff.mp hq).1
  rcases (show k = 0 ∨ k = 1 ∨ k = 2 ∨ k = 3 ∨ k = 4 ∨ k = 5 ∨ k = 6 ∨ k = 7 ∨ k = 8 ∨ k = 9 ∨ k = 10 ∨ k = 11 ∨ k = 12 by omega) with rfl | rfl | rfl | rfl | rfl | rfl | rfl | rfl | rfl | rfl | rfl | rfl | rfl
  · have hq := Option.some.inj hq; subst hq; exact k0
  · have hq := Option.some.inj hq; subst hq; exact k1
  · have hq := Option.some.inj hq; subst hq; exact k2
  · have hq := Option.some.inj hq; subst hq; exact k3
  · have hq := Option.some.inj hq; subst hq; exact k4
  · have hq := Option.some.inj hq; subst hq; exact k5
  · have hq := Option.some.inj hq; subst hq; exact k6
  · have hq := Option.some.inj hq; subst hq; exact k7
  · have hq := Option.some.inj hq; subst hq; exact k8
  · have hq := Option.some.inj hq; subst hq; exact k9
  · have hq := Option.some.inj hq; subst hq; exact k10
  · have hq := Option.some.inj hq; subst hq; exact k11
  · have hq := Option.some.inj hq; subst hq; exact k12
theorem lw_tc (hts : ∀ w ∈ lw_tbl, w.before #[Value.ref b] s = true) : ∃ tc : Nat → ClassId, ∀ (k : Nat) (q : ClassId × FieldType), (ah_tys tc)[k]? = some q → ArrOfT s q.1 q.2 ∧ va_RA s q.1 q.2 := by
  obtain ⟨a0, b0, o0, f0, g0, h0⟩ := Cond.arrayClass_spec (hts _ wl_231)
  obtain ⟨a1, b1, o1, f1, g1, h1⟩ := Cond.arrayClass_spec (hts _ wl_232)
  obtain ⟨o2, a2, b2, e2, -, g2, h2, f2⟩ := Cond.arrayOver_spec (hts _ wl_233)
  obtain ⟨o3, a3, b3, e3, -, g3, h3, f3⟩ := arrayOverA_spec (hts _ wl_234)
  refine ⟨fun k => match k with | 0 => a0 | 1 => a1 | 2 => a2 | _ => a3, ?_⟩
  intro k q hq
  have hk : k < 4 := (List.getElem?_eq_some_iff.mp hq).1
  rcases (show k = 0 ∨ k = 1 ∨ k = 2 ∨ k = 3 by omega) with rfl | rfl | rfl | rfl
  · have hq := Option.some.inj hq; subst hq; exact ⟨fun n z => ⟨fun k h => (by cases h), b0, g0, o0, h0⟩, f0⟩
  · have hq := Option.some.inj hq; subst hq; exact ⟨fun n z => ⟨fun k h => (by cases h), b1, g1, o1, h1⟩, f1⟩
  · have hq := Option.some.inj hq; subst hq; exact ⟨fun n z => ⟨fun k h => (by cases h), b2, g2, o2, h2⟩, b2, o2, g2, h2, e2, f2⟩
  · have hq := Option.some.inj hq; subst hq; exact ⟨fun n z => ⟨fun k h => (by cases h), b3, g3, o3, h3⟩, f3⟩
theorem lw_zz (hts : ∀ w ∈ lw_tbl, w.before #[Value.ref b] s = true) (hs : ∀ w ∈ flatC (Jvm.Cond.and given_1 narrow_1), w.before #[Value.ref b] s = true) : ∃ zz : Nat, ∀ ad : Nat → Nat, ad 1000 = zz → ah_Z0 s ad := by
  have hA : ∀ a : Nat, a < s.heap.size → ¬ (fun q : Nat => s.heap.size ≤ q) a := fun a ha => Nat.not_le.mpr ha
  obtain ⟨adK, adV, hSS, hev⟩ := vk_Sof (args := #[Value.ref b]) (s := s) (N := 1) (tm := fun _ => Term.string "GloveSaint$Page" 27) (len := [5]) (byt := [[115, 103, 107, 114, 109]]) (A := fun q : Nat => s.heap.size ≤ q)
    (fun i hi => by obtain rfl : i = 0 := by omega
                    decide)
    (fun i hi => by obtain rfl : i = 0 := by omega
                    exact hs _ (by decide +kernel))
    (fun i hi => by obtain rfl : i = 0 := by omega
                    exact hs _ (by decide +kernel))
    (fun i hi => by obtain rfl : i = 0 := by omega
                    exact hs _ (by decide +kernel))
    (fun i hi => by obtain rfl : i = 0 := by omega
                    exact hs _ (by decide +kernel))
    (fun i hi j hj => by
      obtain rfl : i = 0 := by omega
      have hj : j < 5 := hj
      rcases (show j = 0 ∨ j = 1 ∨ j = 2 ∨ j = 3 ∨ j = 4 by omega) with rfl | rfl | rfl | rfl | rfl
      · exact hs _ (by decide +kernel)
      · exact hs _ (by decide +kernel)
      · exact hs _ (by decide +kernel)
      · exact hs _ (by decide +kernel)
      · exact hs _ (by decide +kernel))
    (fun i j hi hj hne => absurd (show i = j by omega) hne) hA
  refine ⟨adK 0, fun ad had => ⟨adV 0, ?_, ?_, ?_⟩⟩
  · rw [had]
    exact vk_R.of (hts _ wl_235) (hev 0 (by decide))
  · rw [had]
    refine ⟨fun i hi => ?_, fun i j hi hj _ => by omega⟩
    obtain rfl : i = 0 := by omega
    exact hSS.1 0 hi
  · exact va_Zof (hts _ wl_236) (hts _ wl_237) (va_eqt (hs _ (by decide +kernel))) hA
theorem lw_n0 (hts : ∀ w ∈ lw_tbl, w.before #[Value.ref b] s = true) (hs : ∀ w ∈ flatC (Jvm.Cond.and given_1 narrow_1), w.before #[Value.ref b] s = true) : ah_N0 s := by
  have k : ∀ C T : String, Cond.not (.castable C T) ∈ flatC (Jvm.Cond.and given_1 narrow_1) → va_Nc C T s := fun C T h => va_Nc.of (hs _ h)
  exact ⟨k RX5 RX1 (by decide +kernel), k RX8 RX1 (by decide +kernel), k RX9 RX1 (by decide +kernel), k RX1 RX9 (by decide +kernel), k RX3 RX9 (by decide +kernel), k RX5 RX9 (by decide +kernel), k RX8 RX9 (by decide +kernel), k RX1 RX5 (by decide +kernel), k RX3 RX5 (by decide +kernel), k RX8 RX5 (by decide +kernel), k RX9 RX5 (by decide +kernel), k RX1 RX3 (by decide +kernel), k RX5 RX3 (by decide +kernel), k RX8 RX3 (by decide +kernel), k RX9 RX3 (by decide +kernel), va_Nw.of rfl (hts _ wl_248)⟩
theorem lw_n1 (hts : ∀ w ∈ lw_tbl, w.before #[Value.ref b] s = true) : at_N0 s := ⟨va_Nw.of rfl (hts _ wl_238), va_Nw.of rfl (hts _ wl_239), va_Nw.of rfl (hts _ wl_240), va_Nw.of rfl (hts _ wl_241), va_Nw.of rfl (hts _ wl_242), va_Nw.of rfl (hts _ wl_243), hts _ wl_234, hts _ wl_233⟩
theorem lw_n2 (hts : ∀ w ∈ lw_tbl, w.before #[Value.ref b] s = true) : at_N1 s := ⟨va_Nw.of rfl (hts _ wl_244), va_Nw.of rfl (hts _ wl_245), va_Nw.of rfl (hts _ wl_246), va_Nw.of rfl (hts _ wl_247)⟩
theorem lw_fx (C0 : lw_At p s m meth c b L xs) : ∃ (D : va_G) (tc : Nat → ClassId) (zz : Nat), va_K D vwCl (ah_tys tc) s ∧ ah_N0 s ∧ at_N0 s ∧ at_N1 s ∧ (∀ ad : Nat → Nat, ad 1000 = zz → ah_Z0 s ad) := by
  obtain ⟨hx, hb, hr, hml, hown, hts, hX, hbl, hlocks, hgv⟩ := C0
  have hs := flat_of_before _ hgv
  obtain ⟨D, hD⟩ := lw_kn (b := b) (fun w hw => hts w (List.mem_filter.mp hw).1)
  obtain ⟨tc, htc⟩ := lw_tc (b := b) hts
  obtain ⟨zz, hz⟩ := lw_zz hts hs
  exact ⟨D, tc, zz, ⟨hD, htc⟩, lw_n0 hts hs, lw_n1 hts, lw_n2 hts, hz⟩
end LWF
