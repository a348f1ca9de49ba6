/-! singleAt, fillFrom, drawer: their tables -/
theorem wu_113 : Cond.methodLink RX4 29 yJ0_indexOf_0f7a4 ∈ ah_TT := ah_TT_in (tb_2 (List.mem_of_getElem? (i := 79) rfl)) rfl
theorem wu_114 : Cond.classLink RX4 35 RX1 ∈ ah_TT := ah_TT_in (tb_2 (List.mem_of_getElem? (i := 188) rfl)) rfl
theorem wu_115 : Cond.instantiable RX1 4 ∈ ah_TT := ah_TT_in (tb_2 (List.mem_of_getElem? (i := 189) rfl)) rfl
theorem wu_116 : Cond.methodLink RX4 37 yX1_init ∈ ah_TT := ah_TT_in (tb_2 (List.mem_of_getElem? (i := 190) rfl)) rfl
theorem wu_117 : Cond.classLink RX4 40 RX9 ∈ ah_TT := ah_TT_in (tb_2 (List.mem_of_getElem? (i := 199) rfl)) rfl
theorem wu_118 : Cond.instantiable RX9 4 ∈ ah_TT := ah_TT_in (tb_2 (List.mem_of_getElem? (i := 200) rfl)) rfl
theorem wu_119 : Cond.initialized RX9 ∈ ah_TT := ah_TT_in (tb_1 (List.mem_of_getElem? (i := 17) rfl)) rfl
theorem wu_120 : Cond.instanceMethod yX9_init ∈ ah_TT := ah_TT_in (tb_2 (List.mem_of_getElem? (i := 202) rfl)) rfl
theorem wu_121 : Cond.code yX9_init cX9_init 4 none ∈ ah_TT := ah_TT_in (tb_2 (List.mem_of_getElem? (i := 203) rfl)) rfl
theorem wu_122 : Cond.methodLink RX4 42 yX9_init ∈ ah_TT := ah_TT_in (tb_2 (List.mem_of_getElem? (i := 201) rfl)) rfl
theorem wu_123 : Cond.classLink RX4 43 RX5 ∈ ah_TT := ah_TT_in (tb_2 (List.mem_of_getElem? (i := 210) rfl)) rfl
theorem wu_124 : Cond.instantiable RX5 4 ∈ ah_TT := ah_TT_in (tb_2 (List.mem_of_getElem? (i := 211) rfl)) rfl
theorem wu_125 : Cond.initialized RX5 ∈ ah_TT := ah_TT_in (tb_1 (List.mem_of_getElem? (i := 18) rfl)) rfl
theorem wu_126 : Cond.instanceMethod yX5_init ∈ ah_TT := ah_TT_in (tb_2 (List.mem_of_getElem? (i := 213) rfl)) rfl
theorem wu_127 : Cond.code yX5_init cX5_init 4 none ∈ ah_TT := ah_TT_in (tb_2 (List.mem_of_getElem? (i := 214) rfl)) rfl
theorem wu_128 : Cond.methodLink RX4 45 yX5_init ∈ ah_TT := ah_TT_in (tb_2 (List.mem_of_getElem? (i := 212) rfl)) rfl
theorem wu_129 : Cond.classLink RX4 46 RX3 ∈ ah_TT := ah_TT_in (tb_2 (List.mem_of_getElem? (i := 221) rfl)) rfl
theorem wu_130 : Cond.instantiable RX3 4 ∈ ah_TT := ah_TT_in (tb_2 (List.mem_of_getElem? (i := 222) rfl)) rfl
theorem wu_131 : Cond.initialized RX3 ∈ ah_TT := ah_TT_in (tb_1 (List.mem_of_getElem? (i := 19) rfl)) rfl
theorem wu_132 : Cond.instanceMethod yX3_init ∈ ah_TT := ah_TT_in (tb_2 (List.mem_of_getElem? (i := 224) rfl)) rfl
theorem wu_133 : Cond.code yX3_init cX3_init 4 none ∈ ah_TT := ah_TT_in (tb_2 (List.mem_of_getElem? (i := 225) rfl)) rfl
theorem wu_134 : Cond.methodLink RX4 48 yX3_init ∈ ah_TT := ah_TT_in (tb_2 (List.mem_of_getElem? (i := 223) rfl)) rfl
theorem wu_135 : Cond.classLink RX4 49 RX8 ∈ ah_TT := ah_TT_in (tb_2 (List.mem_of_getElem? (i := 232) rfl)) rfl
theorem wu_136 : Cond.methodLink RX4 51 yX8_init ∈ ah_TT := ah_TT_in (tb_2 (List.mem_of_getElem? (i := 233) rfl)) rfl
theorem wu_137 : Cond.methodLink RX0 47 yX4_singles ∈ ah_TT := ah_TT_in (tb_2 (List.mem_of_getElem? (i := 179) rfl)) rfl
theorem wu_138 : Cond.instanceMethod yX4_singles ∈ ah_TT := ah_TT_in (tb_2 (List.mem_of_getElem? (i := 180) rfl)) rfl
theorem wu_139 : Cond.selects RX4 yX4_singles yX4_singles ∈ ah_TT := ah_TT_in (tb_2 (List.mem_of_getElem? (i := 181) rfl)) rfl
theorem wu_140 : Cond.code yX4_singles cX4_singles 1 (some .int) ∈ ah_TT := ah_TT_in (tb_2 (List.mem_of_getElem? (i := 182) rfl)) rfl
theorem wu_141 : Cond.methodLink RX0 52 Lib.Math.min.name ∈ ah_TT := ah_TT_in (tb_2 (List.mem_of_getElem? (i := 183) rfl)) rfl
theorem wu_142 : Cond.static Lib.Math.min.name ∈ ah_TT := ah_TT_in (tb_2 (List.mem_of_getElem? (i := 111) rfl)) rfl
theorem wu_143 : Cond.initialized RJ9 ∈ ah_TT := ah_TT_in (tb_1 (List.mem_of_getElem? (i := 12) rfl)) rfl
theorem wu_144 : Cond.code Lib.Math.min.name Lib.Math.min.code 2 (some .int) ∈ ah_TT := ah_TT_in (tb_2 (List.mem_of_getElem? (i := 112) rfl)) rfl
theorem wu_145 : Cond.methodLink RX0 58 yX4_singleAt ∈ ah_TT := ah_TT_in (tb_2 (List.mem_of_getElem? (i := 184) rfl)) rfl
theorem wu_146 : Cond.instanceMethod yX4_singleAt ∈ ah_TT := ah_TT_in (tb_2 (List.mem_of_getElem? (i := 185) rfl)) rfl
theorem wu_147 : Cond.selects RX4 yX4_singleAt yX4_singleAt ∈ ah_TT := ah_TT_in (tb_2 (List.mem_of_getElem? (i := 186) rfl)) rfl
theorem wu_148 : Cond.code yX4_singleAt cX4_singleAt 6 (some (.object "GloveSaint$Single")) ∈ ah_TT := ah_TT_in (tb_2 (List.mem_of_getElem? (i := 187) rfl)) rfl
theorem wu_149 : Cond.methodLink RX0 62 yX7_clear ∈ ah_TT := ah_TT_in (tb_2 (List.mem_of_getElem? (i := 234) rfl)) rfl
theorem wu_150 : Cond.instanceMethod yX7_clear ∈ ah_TT := ah_TT_in (tb_2 (List.mem_of_getElem? (i := 235) rfl)) rfl
theorem wu_151 : Cond.selects RX7 yX7_clear yX7_clear ∈ ah_TT := ah_TT_in (tb_2 (List.mem_of_getElem? (i := 236) rfl)) rfl
theorem wu_152 : Cond.code yX7_clear cX7_clear 1 none ∈ ah_TT := ah_TT_in (tb_2 (List.mem_of_getElem? (i := 237) rfl)) rfl
theorem wu_153 : Cond.methodLink RX11 62 yX4_isDrawer ∈ ah_TT := ah_TT_in (tb_2 (List.mem_of_getElem? (i := 170) rfl)) rfl
theorem wu_154 : Cond.instanceMethod yX4_isDrawer ∈ ah_TT := ah_TT_in (tb_2 (List.mem_of_getElem? (i := 171) rfl)) rfl
theorem wu_155 : Cond.selects RX4 yX4_isDrawer yX4_isDrawer ∈ ah_TT := ah_TT_in (tb_2 (List.mem_of_getElem? (i := 172) rfl)) rfl
theorem wu_156 : Cond.code yX4_isDrawer cX4_isDrawer 1 (some .boolean) ∈ ah_TT := ah_TT_in (tb_2 (List.mem_of_getElem? (i := 173) rfl)) rfl
theorem wu_157 : Cond.methodLink RX11 66 yX0_fillFrom ∈ ah_TT := ah_TT_in (tb_2 (List.mem_of_getElem? (i := 175) rfl)) rfl
theorem wu_158 : Cond.instanceMethod yX0_fillFrom ∈ ah_TT := ah_TT_in (tb_2 (List.mem_of_getElem? (i := 176) rfl)) rfl
theorem wu_159 : Cond.selects RX0 yX0_fillFrom yX0_fillFrom ∈ ah_TT := ah_TT_in (tb_2 (List.mem_of_getElem? (i := 177) rfl)) rfl
theorem wu_160 : Cond.code yX0_fillFrom cX0_fillFrom 3 none ∈ ah_TT := ah_TT_in (tb_2 (List.mem_of_getElem? (i := 178) rfl)) rfl
theorem wu_161 : Cond.methodLink RX11 55 yX4_clear ∈ ah_TT := ah_TT_in (tb_2 (List.mem_of_getElem? (i := 63) rfl)) rfl
theorem wu_162 : Cond.instanceMethod yX4_clear ∈ ah_TT := ah_TT_in (tb_2 (List.mem_of_getElem? (i := 64) rfl)) rfl
theorem wu_163 : Cond.selects RX4 yX4_clear yX4_clear ∈ ah_TT := ah_TT_in (tb_2 (List.mem_of_getElem? (i := 65) rfl)) rfl
theorem wu_164 : Cond.code yX4_clear cX4_clear 1 none ∈ ah_TT := ah_TT_in (tb_2 (List.mem_of_getElem? (i := 66) rfl)) rfl
theorem wu_165 : Cond.fieldLink RX11 70 RX2 "isThere" "Z" ∈ ah_TT := ah_TT_in (tb_1 (List.mem_of_getElem? (i := 172) rfl)) rfl
theorem wu_166 : Cond.fieldLink RX11 74 RX0 "size" "I" ∈ ah_TT := ah_TT_in (tb_1 (List.mem_of_getElem? (i := 131) rfl)) rfl
theorem ugX4_11 : ah_Fg RX4 11 [4] 0 := by
  intro ci h
  simp only [List.mem_cons, List.not_mem_nil, or_false] at h
  subst h
  exact ⟨RX4, TX4, 2, RX4, rfl, inX4, by decide, wu_25, Or.inl rfl⟩
theorem uqX0_24 : ah_Fp RX0 24 [0] 2 .int := by
  intro ci h
  simp only [List.mem_cons, List.not_mem_nil, or_false] at h
  subst h
  exact ⟨RX0, TX0, 8, RX0, tyX0, rfl, inX0, by decide, wu_36, Or.inl rfl, tyX0_ok, nmX0, rfl, by decide⟩
theorem ugX0_24 : ah_Fg RX0 24 [0] 2 := by
  intro ci h
  simp only [List.mem_cons, List.not_mem_nil, or_false] at h
  subst h
  exact ⟨RX0, TX0, 8, RX0, rfl, inX0, by decide, wu_36, Or.inl rfl⟩
theorem uqX0_28 : ah_Fp RX0 28 [0] 3 .int := by
  intro ci h
  simp only [List.mem_cons, List.not_mem_nil, or_false] at h
  subst h
  exact ⟨RX0, TX0, 8, RX0, tyX0, rfl, inX0, by decide, wu_37, Or.inl rfl, tyX0_ok, nmX0, rfl, by decide⟩
theorem uqX0_31 : ah_Fp RX0 31 [0] 4 .int := by
  intro ci h
  simp only [List.mem_cons, List.not_mem_nil, or_false] at h
  subst h
  exact ⟨RX0, TX0, 8, RX0, tyX0, rfl, inX0, by decide, wu_38, Or.inl rfl, tyX0_ok, nmX0, rfl, by decide⟩
theorem uqX0_34 : ah_Fp RX0 34 [0] 5 .int := by
  intro ci h
  simp only [List.mem_cons, List.not_mem_nil, or_false] at h
  subst h
  exact ⟨RX0, TX0, 8, RX0, tyX0, rfl, inX0, by decide, wu_39, Or.inl rfl, tyX0_ok, nmX0, rfl, by decide⟩
theorem uqX0_37 : ah_Fp RX0 37 [0] 6 .int := by
  intro ci h
  simp only [List.mem_cons, List.not_mem_nil, or_false] at h
  subst h
  exact ⟨RX0, TX0, 8, RX0, tyX0, rfl, inX0, by decide, wu_40, Or.inl rfl, tyX0_ok, nmX0, rfl, by decide⟩
theorem ugX0_20 : ah_Fg RX0 20 [0] 1 := by
  intro ci h
  simp only [List.mem_cons, List.not_mem_nil, or_false] at h
  subst h
  exact ⟨RX0, TX0, 8, RX0, rfl, inX0, by decide, wu_35, Or.inl rfl⟩
theorem ugX11_10 : ah_Fg RX11 10 [11] 0 := by
  intro ci h
  simp only [List.mem_cons, List.not_mem_nil, or_false] at h
  subst h
  exact ⟨RX11, TX11, 6, RX11, rfl, inX11, by decide, wu_70, Or.inl rfl⟩
theorem ugX11_19 : ah_Fg RX11 19 [11] 1 := by
  intro ci h
  simp only [List.mem_cons, List.not_mem_nil, or_false] at h
  subst h
  exact ⟨RX11, TX11, 6, RX11, rfl, inX11, by decide, wu_77, Or.inl rfl⟩
theorem ugX11_26 : ah_Fg RX11 26 [11] 2 := by
  intro ci h
  simp only [List.mem_cons, List.not_mem_nil, or_false] at h
  subst h
  exact ⟨RX11, TX11, 6, RX11, rfl, inX11, by decide, wu_83, Or.inl rfl⟩
theorem uqX11_70 : ah_Fp RX11 70 [2] 0 .boolean := by
  intro ci h
  simp only [List.mem_cons, List.not_mem_nil, or_false] at h
  subst h
  exact ⟨RX2, TX2, 9, RX2, tyX2, rfl, inX2, by decide, wu_165, Or.inl rfl, tyX2_ok, nmX2, rfl, by decide⟩
theorem ugX11_44 : ah_Fg RX11 44 [11] 5 := by
  intro ci h
  simp only [List.mem_cons, List.not_mem_nil, or_false] at h
  subst h
  exact ⟨RX11, TX11, 6, RX11, rfl, inX11, by decide, wu_96, Or.inl rfl⟩
theorem uqX11_44 : ah_Fp RX11 44 [11] 5 .int := by
  intro ci h
  simp only [List.mem_cons, List.not_mem_nil, or_false] at h
  subst h
  exact ⟨RX11, TX11, 6, RX11, tyX11, rfl, inX11, by decide, wu_96, Or.inl rfl, tyX11_ok, nmX11, rfl, by decide⟩
theorem ugX11_74 : ah_Fg RX11 74 [0] 2 := by
  intro ci h
  simp only [List.mem_cons, List.not_mem_nil, or_false] at h
  subst h
  exact ⟨RX0, TX0, 8, RX0, rfl, inX0, by decide, wu_166, Or.inl rfl⟩
def kX4_singleAt (f lim : Nat) : List (Nat × ah_S) := [
  (42, ah_push (.ref 1000) 44),
  (84, at_new lim 1 [.int 0, .int 0, .int 0, .int 0] 87),
  (97, at_new lim 9 [.int 0, .int 0, .int 0, .int 0] 100),
  (110, at_new lim 5 [.int 0, .int 0, .int 0, .int 0] 113),
  (123, at_new lim 3 [.int 0, .int 0, .int 0, .int 0] 126),
  (136, at_new lim 8 [.int 0, .int 0, .int 0, .int 0] 139),
  (0, ah_ild 1 1),
  (1, ah_push (.int (5)) 2),
  (2, ah_bin (fun x y => x * y) 3),
  (3, ah_ist 2 4),
  (4, ah_ald 0 5),
  (5, ah_gfr [4] 0 8),
  (8, ah_ild 2 9),
  (9, ah_push (.int (1)) 10),
  (10, ah_bin (fun x y => x + y) 11),
  (11, ah_iald 0 12),
  (12, ah_push (.int (48)) 14),
  (14, ah_bin (fun x y => x - y) 15),
  (15, ah_ist 3 16),
  (16, ah_ald 0 17),
  (17, ah_gfr [4] 0 20),
  (20, ah_ild 2 21),
  (21, ah_push (.int (2)) 22),
  (22, ah_bin (fun x y => x + y) 23),
  (23, ah_iald 0 24),
  (24, ah_push (.int (48)) 26),
  (26, ah_bin (fun x y => x - y) 27),
  (27, ah_ist 4 29),
  (29, ah_ald 0 30),
  (30, ah_gfr [4] 0 33),
  (33, ah_ild 2 34),
  (34, ah_push (.int (3)) 35),
  (35, ah_bin (fun x y => x + y) 36),
  (36, ah_iald 0 37),
  (37, ah_push (.int (48)) 39),
  (39, ah_bin (fun x y => x - y) 40),
  (40, ah_lim 42 [0, 2, 3, 4, 5] (ah_ist 5 42)),
  (44, ah_ald 0 45),
  (45, ah_gfr [4] 0 48),
  (48, ah_ild 2 49),
  (49, ah_iald 0 50),
  (50, ah_un (fun x => (x.toUInt32 % 65536).toInt32) 51),
  (51, at_ixs lim 54),
  (54, ah_lim 136 [3, 4, 5] (ah_lim 123 [3, 4, 5] (ah_lim 110 [3, 4, 5] (ah_lim 97 [3, 4, 5] (ah_lim 84 [3, 4, 5] (ah_sw [(1, 84), (2, 97), (3, 110), (4, 123)] 136)))))),
  (87, ah_dupR 88),
  (88, ah_ild 3 89),
  (89, ah_ild 4 91),
  (91, ah_ild 5 93),
  (93, at_cI (aX1_init f) lim 0 4 96),
  (96, at_aret),
  (100, ah_dupR 101),
  (101, ah_ild 3 102),
  (102, ah_ild 4 104),
  (104, ah_ild 5 106),
  (106, at_cI (aX9_init f) lim 0 4 109),
  (109, at_aret),
  (113, ah_dupR 114),
  (114, ah_ild 3 115),
  (115, ah_ild 4 117),
  (117, ah_ild 5 119),
  (119, at_cI (aX5_init f) lim 0 4 122),
  (122, at_aret),
  (126, ah_dupR 127),
  (127, ah_ild 3 128),
  (128, ah_ild 4 130),
  (130, ah_ild 5 132),
  (132, at_cI (aX3_init f) lim 0 4 135),
  (135, at_aret),
  (139, ah_dupR 140),
  (140, ah_ild 3 141),
  (141, ah_ild 4 143),
  (143, ah_ild 5 145),
  (145, at_cI (aX8_init f) lim 0 4 148),
  (148, at_aret)]
def aX4_singleAt (f : Nat) : ah_F := fun as h => (ah_fun (kX4_singleAt f (h.length + 1)) 6 f as h).bind fun r => bif Nat.ble r.2.length (h.length + 1) then some r else none
set_option maxRecDepth 100000 in
set_option maxHeartbeats 4000000 in
theorem mX4_singleAt {l : Launch} {s0 : State} {D : va_G} {tc : Nat → ClassId} {A : Nat → Prop} (hA : ∀ q, A q → s0.heap.size ≤ q) (hN : at_N0 s0) (f : Nat) : at_Met l s0 D tc A yX4_singleAt cX4_singleAt 6 (some (.object "GloveSaint$Single")) 8 400 1 (fun ad => ah_W0 s0 ad A) (aX4_singleAt f) :=
  at_met (code := kX4_singleAt f) hA (by decide) (fun p e s m args below meth c res ad0 n0 hW C hA2 hnm hmc =>
  ah_cons (at_str C hW dX4_singleAt_42) ((ah_cons (at_newo C hA2 ⟨Nat.le_refl _, Nat.le_refl _⟩ rfl dX4_singleAt_84 (ci := 1) (fs := [.int 0, .int 0, .int 0, .int 0]) rfl inX1 tyX1 tyX1_ok wu_114 wu_115 wu_12 (fun j hj => by rcases (show j = 0 ∨ j = 1 ∨ j = 2 ∨ j = 3 by omega) with rfl | rfl | rfl | rfl <;> rfl) (fun _ => rfl) (by decide)) (ah_cons (at_newo C hA2 ⟨Nat.le_refl _, Nat.le_refl _⟩ rfl dX4_singleAt_97 (ci := 9) (fs := [.int 0, .int 0, .int 0, .int 0]) rfl inX9 tyX9 tyX9_ok wu_117 wu_118 wu_119 (fun j hj => by rcases (show j = 0 ∨ j = 1 ∨ j = 2 ∨ j = 3 by omega) with rfl | rfl | rfl | rfl <;> rfl) (fun _ => rfl) (by decide)) (ah_cons (at_newo C hA2 ⟨Nat.le_refl _, Nat.le_refl _⟩ rfl dX4_singleAt_110 (ci := 5) (fs := [.int 0, .int 0, .int 0, .int 0]) rfl inX5 tyX5 tyX5_ok wu_123 wu_124 wu_125 (fun j hj => by rcases (show j = 0 ∨ j = 1 ∨ j = 2 ∨ j = 3 by omega) with rfl | rfl | rfl | rfl <;> rfl) (fun _ => rfl) (by decide)) (ah_cons (at_newo C hA2 ⟨Nat.le_refl _, Nat.le_refl _⟩ rfl dX4_singleAt_123 (ci := 3) (fs := [.int 0, .int 0, .int 0, .int 0]) rfl inX3 tyX3 tyX3_ok wu_129 wu_130 wu_131 (fun j hj => by rcases (show j = 0 ∨ j = 1 ∨ j = 2 ∨ j = 3 by omega) with rfl | rfl | rfl | rfl <;> rfl) (fun _ => rfl) (by decide)) (ah_cons (at_newo C hA2 ⟨Nat.le_refl _, Nat.le_refl _⟩ rfl dX4_singleAt_136 (ci := 8) (fs := [.int 0, .int 0, .int 0, .int 0]) rfl inX8 tyX8 tyX8_ok wu_135 wu_42 wu_8 (fun j hj => by rcases (show j = 0 ∨ j = 1 ∨ j = 2 ∨ j = 3 by omega) with rfl | rfl | rfl | rfl <;> rfl) (fun _ => rfl) (by decide)) (ah_cons (at_iload_n C dX4_singleAt_0 rfl) (ah_cons (at_iconst C dX4_singleAt_1 (by decide)) (ah_cons (at_imul C dX4_singleAt_2) (ah_cons (at_istore_n C dX4_singleAt_3 rfl (by decide)) (ah_cons (at_aload_n C dX4_singleAt_4 rfl) (ah_cons (at_gfr C dX4_singleAt_5 ugX4_11) (ah_cons (at_iload_n C dX4_singleAt_8 rfl) (ah_cons (at_iconst C dX4_singleAt_9 (by decide)) (ah_cons (at_iadd C dX4_singleAt_10) (ah_cons (at_iald C dX4_singleAt_11) (ah_cons (at_bipush C dX4_singleAt_12 (by decide)) (ah_cons (at_isub C dX4_singleAt_14) (ah_cons (at_istore_n C dX4_singleAt_15 rfl (by decide)) (ah_cons (at_aload_n C dX4_singleAt_16 rfl) (ah_cons (at_gfr C dX4_singleAt_17 ugX4_11) (ah_cons (at_iload_n C dX4_singleAt_20 rfl) (ah_cons (at_iconst C dX4_singleAt_21 (by decide)) (ah_cons (at_iadd C dX4_singleAt_22) (ah_cons (at_iald C dX4_singleAt_23) (ah_cons (at_bipush C dX4_singleAt_24 (by decide)) (ah_cons (at_isub C dX4_singleAt_26) (ah_cons (at_istore C dX4_singleAt_27 (by decide)) (ah_cons (at_aload_n C dX4_singleAt_29 rfl) (ah_cons (at_gfr C dX4_singleAt_30 ugX4_11) (ah_cons (at_iload_n C dX4_singleAt_33 rfl) (ah_cons (at_iconst C dX4_singleAt_34 (by decide)) (ah_cons (at_iadd C dX4_singleAt_35) (ah_cons (at_iald C dX4_singleAt_36) (ah_cons (at_bipush C dX4_singleAt_37 (by decide)) (ah_cons (at_isub C dX4_singleAt_39) (ah_cons (at_lim (at_istore C dX4_singleAt_40 (by decide))) (ah_cons (at_aload_n C dX4_singleAt_44 rfl) (ah_cons (at_gfr C dX4_singleAt_45 ugX4_11) (ah_cons (at_iload_n C dX4_singleAt_48 rfl) (ah_cons (at_iald C dX4_singleAt_49) (ah_cons (at_i2c C dX4_singleAt_50) (ah_cons (at_idx C hW ⟨Nat.le_refl _, Nat.le_refl _⟩ rfl dX4_singleAt_51 wu_113 ⟨Nat.le_of_ble_eq_true rfl, Nat.le_of_ble_eq_true rfl⟩) (ah_cons (at_lim (at_lim (at_lim (at_lim (at_lim (at_tsw C dX4_singleAt_54 (by decide) (by decide) (by decide))))))) (ah_cons (at_dupR C dX4_singleAt_87) (ah_cons (at_iload_n C dX4_singleAt_88 rfl) (ah_cons (at_iload C dX4_singleAt_89) (ah_cons (at_iload C dX4_singleAt_91) (ah_cons (at_ctor (n := 3) C hA2 ⟨Nat.le_refl _, Nat.le_refl _⟩ rfl (mX1_init hA hN f) dX4_singleAt_93 wu_116 wu_11 wu_12 wu_13 rfl ⟨by decide, by decide, by decide⟩ ⟨Nat.le_of_ble_eq_true rfl, Nat.le_of_ble_eq_true rfl⟩) (ah_cons (at_aretS C hmc rfl dX4_singleAt_96) (ah_cons (at_dupR C dX4_singleAt_100) (ah_cons (at_iload_n C dX4_singleAt_101 rfl) (ah_cons (at_iload C dX4_singleAt_102) (ah_cons (at_iload C dX4_singleAt_104) (ah_cons (at_ctor (n := 3) C hA2 ⟨Nat.le_refl _, Nat.le_refl _⟩ rfl (mX9_init hA hN f) dX4_singleAt_106 wu_122 wu_120 wu_119 wu_121 rfl ⟨by decide, by decide, by decide⟩ ⟨Nat.le_of_ble_eq_true rfl, Nat.le_of_ble_eq_true rfl⟩) (ah_cons (at_aretS C hmc rfl dX4_singleAt_109) (ah_cons (at_dupR C dX4_singleAt_113) (ah_cons (at_iload_n C dX4_singleAt_114 rfl) (ah_cons (at_iload C dX4_singleAt_115) (ah_cons (at_iload C dX4_singleAt_117) (ah_cons (at_ctor (n := 3) C hA2 ⟨Nat.le_refl _, Nat.le_refl _⟩ rfl (mX5_init hA hN f) dX4_singleAt_119 wu_128 wu_126 wu_125 wu_127 rfl ⟨by decide, by decide, by decide⟩ ⟨Nat.le_of_ble_eq_true rfl, Nat.le_of_ble_eq_true rfl⟩) (ah_cons (at_aretS C hmc rfl dX4_singleAt_122) (ah_cons (at_dupR C dX4_singleAt_126) (ah_cons (at_iload_n C dX4_singleAt_127 rfl) (ah_cons (at_iload C dX4_singleAt_128) (ah_cons (at_iload C dX4_singleAt_130) (ah_cons (at_ctor (n := 3) C hA2 ⟨Nat.le_refl _, Nat.le_refl _⟩ rfl (mX3_init hA hN f) dX4_singleAt_132 wu_134 wu_132 wu_131 wu_133 rfl ⟨by decide, by decide, by decide⟩ ⟨Nat.le_of_ble_eq_true rfl, Nat.le_of_ble_eq_true rfl⟩) (ah_cons (at_aretS C hmc rfl dX4_singleAt_135) (ah_cons (at_dupR C dX4_singleAt_139) (ah_cons (at_iload_n C dX4_singleAt_140 rfl) (ah_cons (at_iload C dX4_singleAt_141) (ah_cons (at_iload C dX4_singleAt_143) (ah_cons (at_ctor (n := 3) C hA2 ⟨Nat.le_refl _, Nat.le_refl _⟩ rfl (mX8_init hA hN f) dX4_singleAt_145 wu_136 wu_7 wu_8 wu_9 rfl ⟨by decide, by decide, by decide⟩ ⟨Nat.le_of_ble_eq_true rfl, Nat.le_of_ble_eq_true rfl⟩) (ah_cons (at_aretS C hmc rfl dX4_singleAt_148) ah_nil)))))))))))))))))))))))))))))))))))))))))))))))))))))))))))))))))))))))))))
def kX0_fillFrom (d f lim : Nat) : List (Nat × ah_S) := [
  (15, ah_ild 2 16),
  (0, ah_ald 0 1),
  (1, ah_ald 1 2),
  (2, at_nI 4 (aX4_singles f) lim 0 1 5),
  (5, ah_push (.int (7)) 7),
  (7, at_mn lim 10),
  (10, ah_pfi [0] 2 13),
  (13, ah_push (.int (0)) 14),
  (14, ah_lim 15 [0, 1, 2] (ah_ist 2 15)),
  (16, ah_ald 0 17),
  (17, ah_gfi [0] 2 20),
  (20, ah_clt 23 40),
  (23, ah_ald 0 24),
  (24, ah_gfr [0] 0 27),
  (27, ah_ild 2 28),
  (28, ah_ald 1 29),
  (29, ah_ild 2 30),
  (30, at_nR 4 (aX4_singleAt f) lim 1 2 33),
  (33, at_ast2 34),
  (34, ah_inc 2 (1) 37),
  (37, ah_lim 15 [0, 1, 2] (ah_goto 15)),
  (40, ah_ald 0 41),
  (41, ah_push (.int (0)) 42),
  (42, ah_pfi [0] 3 45),
  (45, ah_ald 0 46),
  (46, ah_push (.int (0)) 47),
  (47, ah_pfi [0] 4 50),
  (50, ah_ald 0 51),
  (51, ah_push (.int (0)) 52),
  (52, ah_pfi [0] 5 55),
  (55, ah_ald 0 56),
  (56, ah_push (.int (0)) 57),
  (57, ah_pfi [0] 6 60),
  (60, ah_ald 0 61),
  (61, ah_gfr [0] 1 64),
  (64, at_nV 7 (aX7_clear f) lim 0 1 67),
  (67, ah_vret)]
def aX0_fillFrom (d f : Nat) : ah_F := fun as h => (ah_fun (kX0_fillFrom d f (h.length + d)) 3 f as h).bind fun r => bif Nat.ble r.2.length (h.length + d) then some r else none
set_option maxRecDepth 100000 in
set_option maxHeartbeats 4000000 in
theorem mX0_fillFrom {l : Launch} {s0 : State} {D : va_G} {tc : Nat → ClassId} {A : Nat → Prop} (hA : ∀ q, A q → s0.heap.size ≤ q) (hN : at_N0 s0) (hN1 : at_N1 s0) (d : Nat) (f : Nat) : at_Met l s0 D tc A yX0_fillFrom cX0_fillFrom 3 none 9 425 d (fun ad => ah_W0 s0 ad A) (aX0_fillFrom d f) :=
  at_met (code := kX0_fillFrom d f) hA (by decide) (fun p e s m args below meth c res ad0 n0 hW C hA2 hnm hmc =>
  ah_cons (at_iload_n C dX0_fillFrom_15 rfl) ((ah_cons (at_aload_n C dX0_fillFrom_0 rfl) (ah_cons (at_aload_n C dX0_fillFrom_1 rfl) (ah_cons (at_ofI (at_vN (n := 0) C ⟨Nat.le_refl _, Nat.le_refl _⟩ rfl (fun ad ha => mX4_singles (at_W0 ha hW) f) dX0_fillFrom_2 (ci := 4) rfl wu_137 wu_138 wu_139 wu_67 wu_140 ⟨by decide, by decide, by decide, by decide⟩ ⟨Nat.le_of_ble_eq_true rfl, Nat.le_of_ble_eq_true rfl⟩)) (ah_cons (at_bipush C dX0_fillFrom_5 (by decide)) (ah_cons (at_min C ⟨Nat.le_refl _, Nat.le_refl _⟩ rfl dX0_fillFrom_7 wu_141 wu_142 wu_143 wu_144 ⟨Nat.le_of_ble_eq_true rfl, Nat.le_of_ble_eq_true rfl⟩) (ah_cons (at_pfi0 C dX0_fillFrom_10 uqX0_24) (ah_cons (at_iconst C dX0_fillFrom_13 (by decide)) (ah_cons (at_lim (at_istore_n C dX0_fillFrom_14 rfl (by decide))) (ah_cons (at_aload_n C dX0_fillFrom_16 rfl) (ah_cons (at_gfi C dX0_fillFrom_17 ugX0_24) (ah_cons (at_icmp_ge C dX0_fillFrom_20 (by decide)) (ah_cons (at_aload_n C dX0_fillFrom_23 rfl) (ah_cons (at_gfr C dX0_fillFrom_24 ugX0_11) (ah_cons (at_iload_n C dX0_fillFrom_27 rfl) (ah_cons (at_aload_n C dX0_fillFrom_28 rfl) (ah_cons (at_iload_n C dX0_fillFrom_29 rfl) (ah_cons (at_ofR (at_vA (n := 1) C hA2 ⟨Nat.le_refl _, Nat.le_refl _⟩ rfl (mX4_singleAt hA hN f) (fun ad ha => at_W0 ha hW) dX0_fillFrom_30 (ci := 4) rfl wu_145 wu_146 wu_147 wu_67 wu_148 ⟨by decide, by decide, by decide, by decide⟩ ⟨Nat.le_of_ble_eq_true rfl, Nat.le_of_ble_eq_true rfl⟩)) (ah_cons (at_aast2 C hN1 dX0_fillFrom_33) (ah_cons (at_iinc C dX0_fillFrom_34 (by decide) (by decide)) (ah_cons (at_lim (at_goto C dX0_fillFrom_37 (by decide))) (ah_cons (at_aload_n C dX0_fillFrom_40 rfl) (ah_cons (at_iconst C dX0_fillFrom_41 (by decide)) (ah_cons (at_pfi0 C dX0_fillFrom_42 uqX0_28) (ah_cons (at_aload_n C dX0_fillFrom_45 rfl) (ah_cons (at_iconst C dX0_fillFrom_46 (by decide)) (ah_cons (at_pfi0 C dX0_fillFrom_47 uqX0_31) (ah_cons (at_aload_n C dX0_fillFrom_50 rfl) (ah_cons (at_iconst C dX0_fillFrom_51 (by decide)) (ah_cons (at_pfi0 C dX0_fillFrom_52 uqX0_34) (ah_cons (at_aload_n C dX0_fillFrom_55 rfl) (ah_cons (at_iconst C dX0_fillFrom_56 (by decide)) (ah_cons (at_pfi0 C dX0_fillFrom_57 uqX0_37) (ah_cons (at_aload_n C dX0_fillFrom_60 rfl) (ah_cons (at_gfr C dX0_fillFrom_61 ugX0_20) (ah_cons (at_ofV (at_vN (n := 0) C ⟨Nat.le_refl _, Nat.le_refl _⟩ rfl (fun ad ha => mX7_clear (at_W0 ha hW) f) dX0_fillFrom_64 (ci := 7) rfl wu_149 wu_150 wu_151 wu_32 wu_152 ⟨by decide, by decide, by decide, by decide⟩ ⟨Nat.le_of_ble_eq_true rfl, Nat.le_of_ble_eq_true rfl⟩)) (ah_cons (at_vret C hmc rfl dX0_fillFrom_67) ah_nil))))))))))))))))))))))))))))))))))))))
def kX11_drawer (d f lim : Nat) : List (Nat × ah_S) := [
  (0, ah_ald 0 1),
  (1, ah_gfr [11] 0 4),
  (4, at_nI 4 (aX4_isDrawer f) lim 0 1 7),
  (7, ah_zeq 10 13),
  (10, ah_push (.int (-103)) 12),
  (12, ah_iret),
  (13, ah_ald 0 14),
  (14, ah_gfr [11] 1 17),
  (17, ah_ald 0 18),
  (18, ah_gfr [11] 0 21),
  (21, at_nV 0 (aX0_fillFrom d f) lim d 2 24),
  (24, ah_ald 0 25),
  (25, ah_gfr [11] 0 28),
  (28, at_nV 4 (aX4_clear f) lim 0 1 31),
  (31, ah_ald 0 32),
  (32, ah_gfr [11] 2 35),
  (35, ah_push (.int (0)) 36),
  (36, ah_pfz [2] 0 39),
  (39, ah_ald 0 40),
  (40, ah_dupR 41),
  (41, ah_gfi [11] 5 44),
  (44, ah_push (.int (1)) 45),
  (45, ah_bin (fun x y => x + y) 46),
  (46, ah_pfi [11] 5 49),
  (49, ah_ald 0 50),
  (50, ah_gfr [11] 1 53),
  (53, ah_gfi [0] 2 56),
  (56, ah_iret)]
def aX11_drawer (d f : Nat) : ah_F := fun as h => (ah_fun (kX11_drawer d f (h.length + d)) 1 f as h).bind fun r => bif Nat.ble r.2.length (h.length + d) then some r else none
set_option maxRecDepth 100000 in
set_option maxHeartbeats 4000000 in
theorem mX11_drawer {l : Launch} {s0 : State} {D : va_G} {tc : Nat → ClassId} {A : Nat → Prop} (hA : ∀ q, A q → s0.heap.size ≤ q) (hN : at_N0 s0) (hN1 : at_N1 s0) (d : Nat) (f : Nat) : at_Met l s0 D tc A yX11_drawer cX11_drawer 1 (some .int) 11 462 d (fun ad => ah_W0 s0 ad A) (aX11_drawer d f) :=
  at_met (code := kX11_drawer d f) hA (by decide) (fun p e s m args below meth c res ad0 n0 hW C hA2 hnm hmc =>
  ah_cons (at_aload_n C dX11_drawer_0 rfl) ((ah_cons (at_gfr C dX11_drawer_1 ugX11_10) (ah_cons (at_ofI (at_vN (n := 0) C ⟨Nat.le_refl _, Nat.le_refl _⟩ rfl (fun ad ha => mX4_isDrawer (at_W0 ha hW) f) dX11_drawer_4 (ci := 4) rfl wu_153 wu_154 wu_155 wu_67 wu_156 ⟨by decide, by decide, by decide, by decide⟩ ⟨Nat.le_of_ble_eq_true rfl, Nat.le_of_ble_eq_true rfl⟩)) (ah_cons (at_if_ne C dX11_drawer_7 (by decide)) (ah_cons (at_bipush C dX11_drawer_10 (by decide)) (ah_cons (at_iret C hmc rfl dX11_drawer_12) (ah_cons (at_aload_n C dX11_drawer_13 rfl) (ah_cons (at_gfr C dX11_drawer_14 ugX11_19) (ah_cons (at_aload_n C dX11_drawer_17 rfl) (ah_cons (at_gfr C dX11_drawer_18 ugX11_10) (ah_cons (at_ofV (at_vA (n := 1) C hA2 ⟨Nat.le_refl _, Nat.le_refl _⟩ rfl (mX0_fillFrom hA hN hN1 d f) (fun ad ha => at_W0 ha hW) dX11_drawer_21 (ci := 0) rfl wu_157 wu_158 wu_159 wu_73 wu_160 ⟨by decide, by decide, by decide, by decide⟩ ⟨Nat.le_of_ble_eq_true rfl, Nat.le_of_ble_eq_true rfl⟩)) (ah_cons (at_aload_n C dX11_drawer_24 rfl) (ah_cons (at_gfr C dX11_drawer_25 ugX11_10) (ah_cons (at_ofV (at_vN (n := 0) C ⟨Nat.le_refl _, Nat.le_refl _⟩ rfl (fun ad ha => mX4_clear (at_W0 ha hW) f) dX11_drawer_28 (ci := 4) rfl wu_161 wu_162 wu_163 wu_67 wu_164 ⟨by decide, by decide, by decide, by decide⟩ ⟨Nat.le_of_ble_eq_true rfl, Nat.le_of_ble_eq_true rfl⟩)) (ah_cons (at_aload_n C dX11_drawer_31 rfl) (ah_cons (at_gfr C dX11_drawer_32 ugX11_26) (ah_cons (at_iconst C dX11_drawer_35 (by decide)) (ah_cons (at_pfz0 C dX11_drawer_36 uqX11_70) (ah_cons (at_aload_n C dX11_drawer_39 rfl) (ah_cons (at_dupR C dX11_drawer_40) (ah_cons (at_gfi C dX11_drawer_41 ugX11_44) (ah_cons (at_iconst C dX11_drawer_44 (by decide)) (ah_cons (at_iadd C dX11_drawer_45) (ah_cons (at_pfi0 C dX11_drawer_46 uqX11_44) (ah_cons (at_aload_n C dX11_drawer_49 rfl) (ah_cons (at_gfr C dX11_drawer_50 ugX11_19) (ah_cons (at_gfi C dX11_drawer_53 ugX11_74) (ah_cons (at_iret C hmc rfl dX11_drawer_56) ah_nil)))))))))))))))))))))))))))))
