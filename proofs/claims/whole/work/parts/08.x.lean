def kX0_isMissing (f : Nat) : List (Nat × ah_S) := [
  (0, ah_ald 0 1),
  (1, ah_gfi [0] 2 4),
  (4, ah_zeq 7 11),
  (7, ah_push (.int (1)) 8),
  (8, ah_goto 12),
  (11, ah_push (.int (0)) 12),
  (12, ah_zret)]
def aX0_isMissing (f : Nat) : ah_F := ah_fun (kX0_isMissing f) 1 f
set_option maxRecDepth 100000 in
set_option maxHeartbeats 4000000 in
theorem mX0_isMissing {l : Launch} {s0 : State} {D : va_G} {tc : Nat → ClassId} {ad : Nat → Nat} {A : Nat → Prop} (hW : ah_W0 s0 ad A) (f : Nat) : ah_Met l s0 D tc ad A yX0_isMissing cX0_isMissing 1 (some .boolean) 0 0 (aX0_isMissing f) := by
  refine ah_met hW.1 (by decide) (fun p e s m args below meth c res C => ?_)
  refine ah_cons (as_aload_n C dX0_isMissing_0 rfl) ?_
  refine ah_cons (as_gfi C dX0_isMissing_1 fgX0_24) ?_
  refine ah_cons (as_if_ne C dX0_isMissing_4 (by decide)) ?_
  refine ah_cons (as_iconst C dX0_isMissing_7 (by decide)) ?_
  refine ah_cons (as_goto C dX0_isMissing_8 (by decide)) ?_
  refine ah_cons (as_iconst C dX0_isMissing_11 (by decide)) ?_
  refine ah_cons (as_zret C rfl dX0_isMissing_12) ?_
  exact ah_nil
def kX0_has (f : Nat) : List (Nat × ah_S) := [
  (0, ah_ild 1 1),
  (1, ah_zlt 16 4),
  (4, ah_ild 1 5),
  (5, ah_ald 0 6),
  (6, ah_gfi [0] 2 9),
  (9, ah_clt 12 16),
  (12, ah_push (.int (1)) 13),
  (13, ah_goto 17),
  (16, ah_push (.int (0)) 17),
  (17, ah_zret)]
def aX0_has (f : Nat) : ah_F := ah_fun (kX0_has f) 2 f
set_option maxRecDepth 100000 in
set_option maxHeartbeats 4000000 in
theorem mX0_has {l : Launch} {s0 : State} {D : va_G} {tc : Nat → ClassId} {ad : Nat → Nat} {A : Nat → Prop} (hW : ah_W0 s0 ad A) (f : Nat) : ah_Met l s0 D tc ad A yX0_has cX0_has 2 (some .boolean) 0 0 (aX0_has f) := by
  refine ah_met hW.1 (by decide) (fun p e s m args below meth c res C => ?_)
  refine ah_cons (as_iload_n C dX0_has_0 rfl) ?_
  refine ah_cons (as_if_lt C dX0_has_1 (by decide)) ?_
  refine ah_cons (as_iload_n C dX0_has_4 rfl) ?_
  refine ah_cons (as_aload_n C dX0_has_5 rfl) ?_
  refine ah_cons (as_gfi C dX0_has_6 fgX0_24) ?_
  refine ah_cons (as_icmp_ge C dX0_has_9 (by decide)) ?_
  refine ah_cons (as_iconst C dX0_has_12 (by decide)) ?_
  refine ah_cons (as_goto C dX0_has_13 (by decide)) ?_
  refine ah_cons (as_iconst C dX0_has_16 (by decide)) ?_
  refine ah_cons (as_zret C rfl dX0_has_17) ?_
  exact ah_nil
def kX0_hasTwo (f : Nat) : List (Nat × ah_S) := [
  (0, ah_ald 0 1),
  (1, ah_ild 1 2),
  (2, ah_vI [(0, aX0_has f)] 2 5),
  (5, ah_zeq 25 8),
  (8, ah_ald 0 9),
  (9, ah_ild 2 10),
  (10, ah_vI [(0, aX0_has f)] 2 13),
  (13, ah_zeq 25 16),
  (16, ah_ild 1 17),
  (17, ah_ild 2 18),
  (18, ah_ceq 25 21),
  (21, ah_push (.int (1)) 22),
  (22, ah_goto 26),
  (25, ah_push (.int (0)) 26),
  (26, ah_zret)]
def aX0_hasTwo (f : Nat) : ah_F := ah_fun (kX0_hasTwo f) 3 f
set_option maxRecDepth 100000 in
set_option maxHeartbeats 4000000 in
theorem mX0_hasTwo {l : Launch} {s0 : State} {D : va_G} {tc : Nat → ClassId} {ad : Nat → Nat} {A : Nat → Prop} (hW : ah_W0 s0 ad A) (f : Nat) : ah_Met l s0 D tc ad A yX0_hasTwo cX0_hasTwo 3 (some .boolean) 1 21 (aX0_hasTwo f) := by
  refine ah_met hW.1 (by decide) (fun p e s m args below meth c res C => ?_)
  refine ah_cons (as_aload_n C dX0_hasTwo_0 rfl) ?_
  refine ah_cons (as_iload_n C dX0_hasTwo_1 rfl) ?_
  refine ah_cons (as_vI (ah_t1 (ah_okV (n := 1) C (mX0_has hW f) dX0_hasTwo_2 (ci := 0) rfl wt_1 wt_3 wt_2 wt_4 wt_5 ⟨by decide, by decide, by decide, by decide⟩ ⟨by decide, by decide⟩) ah_t0)) ?_
  refine ah_cons (as_if_eq C dX0_hasTwo_5 (by decide)) ?_
  refine ah_cons (as_aload_n C dX0_hasTwo_8 rfl) ?_
  refine ah_cons (as_iload_n C dX0_hasTwo_9 rfl) ?_
  refine ah_cons (as_vI (ah_t1 (ah_okV (n := 1) C (mX0_has hW f) dX0_hasTwo_10 (ci := 0) rfl wt_1 wt_3 wt_2 wt_4 wt_5 ⟨by decide, by decide, by decide, by decide⟩ ⟨by decide, by decide⟩) ah_t0)) ?_
  refine ah_cons (as_if_eq C dX0_hasTwo_13 (by decide)) ?_
  refine ah_cons (as_iload_n C dX0_hasTwo_16 rfl) ?_
  refine ah_cons (as_iload_n C dX0_hasTwo_17 rfl) ?_
  refine ah_cons (as_icmp_eq C dX0_hasTwo_18 (by decide)) ?_
  refine ah_cons (as_iconst C dX0_hasTwo_21 (by decide)) ?_
  refine ah_cons (as_goto C dX0_hasTwo_22 (by decide)) ?_
  refine ah_cons (as_iconst C dX0_hasTwo_25 (by decide)) ?_
  refine ah_cons (as_zret C rfl dX0_hasTwo_26) ?_
  exact ah_nil
def kX0_isPaired (f : Nat) : List (Nat × ah_S) := [
  (0, ah_ald 0 1),
  (1, ah_ald 0 2),
  (2, ah_gfr [0] 0 5),
  (5, ah_ild 1 6),
  (6, ah_aald 2 7),
  (7, ah_gfi [1, 3, 5, 8, 9] 3 10),
  (10, ah_vI [(0, aX0_has f)] 2 13),
  (13, ah_zret)]
def aX0_isPaired (f : Nat) : ah_F := ah_fun (kX0_isPaired f) 2 f
set_option maxRecDepth 100000 in
set_option maxHeartbeats 4000000 in
theorem mX0_isPaired {l : Launch} {s0 : State} {D : va_G} {tc : Nat → ClassId} {ad : Nat → Nat} {A : Nat → Prop} (hW : ah_W0 s0 ad A) (f : Nat) : ah_Met l s0 D tc ad A yX0_isPaired cX0_isPaired 2 (some .boolean) 1 21 (aX0_isPaired f) := by
  refine ah_met hW.1 (by decide) (fun p e s m args below meth c res C => ?_)
  refine ah_cons (as_aload_n C dX0_isPaired_0 rfl) ?_
  refine ah_cons (as_aload_n C dX0_isPaired_1 rfl) ?_
  refine ah_cons (as_gfr C dX0_isPaired_2 fgX0_11) ?_
  refine ah_cons (as_iload_n C dX0_isPaired_5 rfl) ?_
  refine ah_cons (as_aald C dX0_isPaired_6 rfl rfl) ?_
  refine ah_cons (as_gfi C dX0_isPaired_7 fgX0_69) ?_
  refine ah_cons (as_vI (ah_t1 (ah_okV (n := 1) C (mX0_has hW f) dX0_isPaired_10 (ci := 0) rfl wt_1 wt_3 wt_2 wt_4 wt_5 ⟨by decide, by decide, by decide, by decide⟩ ⟨by decide, by decide⟩) ah_t0)) ?_
  refine ah_cons (as_zret C rfl dX0_isPaired_13) ?_
  exact ah_nil
def kX1_takes (f : Nat) : List (Nat × ah_S) := [
  (0, ah_ald 0 1),
  (1, ah_gfi [1, 3] 0 4),
  (4, ah_ald 1 5),
  (5, ah_gfi [1, 3, 5, 8, 9] 0 8),
  (8, ah_ceq 22 11),
  (11, ah_ald 1 12),
  (12, ah_inst [1, 3] [5, 8, 9] 15),
  (15, ah_zeq 22 18),
  (18, ah_push (.int (1)) 19),
  (19, ah_goto 23),
  (22, ah_push (.int (0)) 23),
  (23, ah_zret)]
def aX1_takes (f : Nat) : ah_F := ah_fun (kX1_takes f) 2 f
set_option maxRecDepth 100000 in
set_option maxHeartbeats 4000000 in
theorem mX1_takes {l : Launch} {s0 : State} {D : va_G} {tc : Nat → ClassId} {ad : Nat → Nat} {A : Nat → Prop} (hW : ah_W0 s0 ad A) (f : Nat) : ah_Met l s0 D tc ad A yX1_takes cX1_takes 2 (some .boolean) 0 0 (aX1_takes f) := by
  refine ah_met hW.1 (by decide) (fun p e s m args below meth c res C => ?_)
  refine ah_cons (as_aload_n C dX1_takes_0 rfl) ?_
  refine ah_cons (as_gfi C dX1_takes_1 fgX1_9) ?_
  refine ah_cons (as_aload_n C dX1_takes_4 rfl) ?_
  refine ah_cons (as_gfi C dX1_takes_5 fgX1_15) ?_
  refine ah_cons (as_icmp_eq C dX1_takes_8 (by decide)) ?_
  refine ah_cons (as_aload_n C dX1_takes_11 rfl) ?_
  refine ah_cons (as_inst C dX1_takes_12 (iqX1_10 hW)) ?_
  refine ah_cons (as_if_eq C dX1_takes_15 (by decide)) ?_
  refine ah_cons (as_iconst C dX1_takes_18 (by decide)) ?_
  refine ah_cons (as_goto C dX1_takes_19 (by decide)) ?_
  refine ah_cons (as_iconst C dX1_takes_22 (by decide)) ?_
  refine ah_cons (as_zret C rfl dX1_takes_23) ?_
  exact ah_nil
def kX5_takes (f : Nat) : List (Nat × ah_S) := [
  (0, ah_ald 0 1),
  (1, ah_gfi [5] 0 4),
  (4, ah_ald 1 5),
  (5, ah_gfi [1, 3, 5, 8, 9] 0 8),
  (8, ah_ceq 26 11),
  (11, ah_ald 0 12),
  (12, ah_gfi [5] 1 15),
  (15, ah_ald 1 16),
  (16, ah_gfi [1, 3, 5, 8, 9] 1 19),
  (19, ah_ceq 22 26),
  (22, ah_push (.int (1)) 23),
  (23, ah_goto 27),
  (26, ah_push (.int (0)) 27),
  (27, ah_zret)]
def aX5_takes (f : Nat) : ah_F := ah_fun (kX5_takes f) 2 f
set_option maxRecDepth 100000 in
set_option maxHeartbeats 4000000 in
theorem mX5_takes {l : Launch} {s0 : State} {D : va_G} {tc : Nat → ClassId} {ad : Nat → Nat} {A : Nat → Prop} (hW : ah_W0 s0 ad A) (f : Nat) : ah_Met l s0 D tc ad A yX5_takes cX5_takes 2 (some .boolean) 0 0 (aX5_takes f) := by
  refine ah_met hW.1 (by decide) (fun p e s m args below meth c res C => ?_)
  refine ah_cons (as_aload_n C dX5_takes_0 rfl) ?_
  refine ah_cons (as_gfi C dX5_takes_1 fgX5_9) ?_
  refine ah_cons (as_aload_n C dX5_takes_4 rfl) ?_
  refine ah_cons (as_gfi C dX5_takes_5 fgX5_15) ?_
  refine ah_cons (as_icmp_eq C dX5_takes_8 (by decide)) ?_
  refine ah_cons (as_aload_n C dX5_takes_11 rfl) ?_
  refine ah_cons (as_gfi C dX5_takes_12 fgX5_16) ?_
  refine ah_cons (as_aload_n C dX5_takes_15 rfl) ?_
  refine ah_cons (as_gfi C dX5_takes_16 fgX5_19) ?_
  refine ah_cons (as_icmp_ne C dX5_takes_19 (by decide)) ?_
  refine ah_cons (as_iconst C dX5_takes_22 (by decide)) ?_
  refine ah_cons (as_goto C dX5_takes_23 (by decide)) ?_
  refine ah_cons (as_iconst C dX5_takes_26 (by decide)) ?_
  refine ah_cons (as_zret C rfl dX5_takes_27) ?_
  exact ah_nil
def kX8_takes (f : Nat) : List (Nat × ah_S) := [
  (0, ah_ald 0 1),
  (1, ah_gfi [1, 3, 5, 8, 9] 0 4),
  (4, ah_ald 1 5),
  (5, ah_gfi [1, 3, 5, 8, 9] 0 8),
  (8, ah_ceq 15 11),
  (11, ah_push (.int (1)) 12),
  (12, ah_goto 16),
  (15, ah_push (.int (0)) 16),
  (16, ah_zret)]
def aX8_takes (f : Nat) : ah_F := ah_fun (kX8_takes f) 2 f
set_option maxRecDepth 100000 in
set_option maxHeartbeats 4000000 in
theorem mX8_takes {l : Launch} {s0 : State} {D : va_G} {tc : Nat → ClassId} {ad : Nat → Nat} {A : Nat → Prop} (hW : ah_W0 s0 ad A) (f : Nat) : ah_Met l s0 D tc ad A yX8_takes cX8_takes 2 (some .boolean) 0 0 (aX8_takes f) := by
  refine ah_met hW.1 (by decide) (fun p e s m args below meth c res C => ?_)
  refine ah_cons (as_aload_n C dX8_takes_0 rfl) ?_
  refine ah_cons (as_gfi C dX8_takes_1 fgX8_15) ?_
  refine ah_cons (as_aload_n C dX8_takes_4 rfl) ?_
  refine ah_cons (as_gfi C dX8_takes_5 fgX8_15) ?_
  refine ah_cons (as_icmp_eq C dX8_takes_8 (by decide)) ?_
  refine ah_cons (as_iconst C dX8_takes_11 (by decide)) ?_
  refine ah_cons (as_goto C dX8_takes_12 (by decide)) ?_
  refine ah_cons (as_iconst C dX8_takes_15 (by decide)) ?_
  refine ah_cons (as_zret C rfl dX8_takes_16) ?_
  exact ah_nil
def kX9_takes (f : Nat) : List (Nat × ah_S) := [
  (0, ah_ald 1 1),
  (1, ah_inst [9] [1, 3, 5, 8] 4),
  (4, ah_zret)]
def aX9_takes (f : Nat) : ah_F := ah_fun (kX9_takes f) 2 f
set_option maxRecDepth 100000 in
set_option maxHeartbeats 4000000 in
theorem mX9_takes {l : Launch} {s0 : State} {D : va_G} {tc : Nat → ClassId} {ad : Nat → Nat} {A : Nat → Prop} (hW : ah_W0 s0 ad A) (f : Nat) : ah_Met l s0 D tc ad A yX9_takes cX9_takes 2 (some .boolean) 0 0 (aX9_takes f) := by
  refine ah_met hW.1 (by decide) (fun p e s m args below meth c res C => ?_)
  refine ah_cons (as_aload_n C dX9_takes_0 rfl) ?_
  refine ah_cons (as_inst C dX9_takes_1 (iqX9_9 hW)) ?_
  refine ah_cons (as_zret C rfl dX9_takes_4) ?_
  exact ah_nil
def kX8_distanceTo (f : Nat) : List (Nat × ah_S) := [
  (0, ah_ald 0 1),
  (1, ah_gfi [1, 3, 5, 8, 9] 1 4),
  (4, ah_ald 1 5),
  (5, ah_gfi [1, 3, 5, 8, 9] 1 8),
  (8, ah_bin (fun x y => x - y) 9),
  (9, ah_abs 12),
  (12, ah_iret)]
def aX8_distanceTo (f : Nat) : ah_F := ah_fun (kX8_distanceTo f) 2 f
set_option maxRecDepth 100000 in
set_option maxHeartbeats 4000000 in
theorem mX8_distanceTo {l : Launch} {s0 : State} {D : va_G} {tc : Nat → ClassId} {ad : Nat → Nat} {A : Nat → Prop} (hW : ah_W0 s0 ad A) (f : Nat) : ah_Met l s0 D tc ad A yX8_distanceTo cX8_distanceTo 2 (some .int) 1 21 (aX8_distanceTo f) := by
  refine ah_met hW.1 (by decide) (fun p e s m args below meth c res C => ?_)
  refine ah_cons (as_aload_n C dX8_distanceTo_0 rfl) ?_
  refine ah_cons (as_gfi C dX8_distanceTo_1 fgX8_18) ?_
  refine ah_cons (as_aload_n C dX8_distanceTo_4 rfl) ?_
  refine ah_cons (as_gfi C dX8_distanceTo_5 fgX8_18) ?_
  refine ah_cons (as_isub C dX8_distanceTo_8) ?_
  refine ah_cons (as_abs C dX8_distanceTo_9 wt_21 wt_22 wt_23 wt_24 ⟨by decide, by decide⟩) ?_
  refine ah_cons (as_iret C rfl dX8_distanceTo_12) ?_
  exact ah_nil
def kX3_distanceTo (f : Nat) : List (Nat × ah_S) := [
  (0, ah_ald 0 1),
  (1, ah_gfi [3] 1 4),
  (4, ah_ald 1 5),
  (5, ah_gfi [1, 3, 5, 8, 9] 1 8),
  (8, ah_bin (fun x y => x - y) 9),
  (9, ah_abs 12),
  (12, ah_push (.int (2)) 13),
  (13, ah_div 14),
  (14, ah_iret)]
def aX3_distanceTo (f : Nat) : ah_F := ah_fun (kX3_distanceTo f) 2 f
set_option maxRecDepth 100000 in
set_option maxHeartbeats 4000000 in
theorem mX3_distanceTo {l : Launch} {s0 : State} {D : va_G} {tc : Nat → ClassId} {ad : Nat → Nat} {A : Nat → Prop} (hW : ah_W0 s0 ad A) (f : Nat) : ah_Met l s0 D tc ad A yX3_distanceTo cX3_distanceTo 2 (some .int) 1 21 (aX3_distanceTo f) := by
  refine ah_met hW.1 (by decide) (fun p e s m args below meth c res C => ?_)
  refine ah_cons (as_aload_n C dX3_distanceTo_0 rfl) ?_
  refine ah_cons (as_gfi C dX3_distanceTo_1 fgX3_9) ?_
  refine ah_cons (as_aload_n C dX3_distanceTo_4 rfl) ?_
  refine ah_cons (as_gfi C dX3_distanceTo_5 fgX3_15) ?_
  refine ah_cons (as_isub C dX3_distanceTo_8) ?_
  refine ah_cons (as_abs C dX3_distanceTo_9 wt_28 wt_22 wt_23 wt_24 ⟨by decide, by decide⟩) ?_
  refine ah_cons (as_iconst C dX3_distanceTo_12 (by decide)) ?_
  refine ah_cons (as_idiv C dX3_distanceTo_13) ?_
  refine ah_cons (as_iret C rfl dX3_distanceTo_14) ?_
  exact ah_nil
def kX0_likenessOf (f : Nat) : List (Nat × ah_S) := [
  (0, ah_ald 0 1),
  (1, ah_gfr [0] 0 4),
  (4, ah_ild 1 5),
  (5, ah_aald 2 6),
  (6, ah_rst 3 7),
  (7, ah_ald 0 8),
  (8, ah_gfr [0] 0 11),
  (11, ah_ild 2 12),
  (12, ah_aald 2 13),
  (13, ah_rst 4 15),
  (15, ah_ild 1 16),
  (16, ah_ild 2 17),
  (17, ah_ceq 38 20),
  (20, ah_ald 3 21),
  (21, ah_ald 4 23),
  (23, ah_vI [(1, aX1_takes f), (3, aX1_takes f), (5, aX5_takes f), (8, aX8_takes f), (9, aX9_takes f)] 2 26),
  (26, ah_zeq 38 29),
  (29, ah_ald 4 31),
  (31, ah_ald 3 32),
  (32, ah_vI [(1, aX1_takes f), (3, aX1_takes f), (5, aX5_takes f), (8, aX8_takes f), (9, aX9_takes f)] 2 35),
  (35, ah_zeq 38 40),
  (38, ah_push (.int (-1)) 39),
  (39, ah_iret),
  (40, ah_push (.int (18)) 42),
  (42, ah_ald 3 43),
  (43, ah_ald 4 45),
  (45, ah_vI [(1, aX8_distanceTo f), (3, aX3_distanceTo f), (5, aX8_distanceTo f), (8, aX8_distanceTo f), (9, aX8_distanceTo f)] 2 48),
  (48, ah_bin (fun x y => x - y) 49),
  (49, ah_ald 4 51),
  (51, ah_ald 3 52),
  (52, ah_vI [(1, aX8_distanceTo f), (3, aX3_distanceTo f), (5, aX8_distanceTo f), (8, aX8_distanceTo f), (9, aX8_distanceTo f)] 2 55),
  (55, ah_bin (fun x y => x - y) 56),
  (56, ah_iret)]
def aX0_likenessOf (f : Nat) : ah_F := ah_fun (kX0_likenessOf f) 5 f
set_option maxRecDepth 100000 in
set_option maxHeartbeats 4000000 in
theorem mX0_likenessOf {l : Launch} {s0 : State} {D : va_G} {tc : Nat → ClassId} {ad : Nat → Nat} {A : Nat → Prop} (hW : ah_W0 s0 ad A) (f : Nat) : ah_Met l s0 D tc ad A yX0_likenessOf cX0_likenessOf 5 (some .int) 2 42 (aX0_likenessOf f) := by
  refine ah_met hW.1 (by decide) (fun p e s m args below meth c res C => ?_)
  refine ah_cons (as_aload_n C dX0_likenessOf_0 rfl) ?_
  refine ah_cons (as_gfr C dX0_likenessOf_1 fgX0_11) ?_
  refine ah_cons (as_iload_n C dX0_likenessOf_4 rfl) ?_
  refine ah_cons (as_aald C dX0_likenessOf_5 rfl rfl) ?_
  refine ah_cons (as_astore_n C dX0_likenessOf_6 rfl (by decide)) ?_
  refine ah_cons (as_aload_n C dX0_likenessOf_7 rfl) ?_
  refine ah_cons (as_gfr C dX0_likenessOf_8 fgX0_11) ?_
  refine ah_cons (as_iload_n C dX0_likenessOf_11 rfl) ?_
  refine ah_cons (as_aald C dX0_likenessOf_12 rfl rfl) ?_
  refine ah_cons (as_astore C dX0_likenessOf_13 (by decide)) ?_
  refine ah_cons (as_iload_n C dX0_likenessOf_15 rfl) ?_
  refine ah_cons (as_iload_n C dX0_likenessOf_16 rfl) ?_
  refine ah_cons (as_icmp_eq C dX0_likenessOf_17 (by decide)) ?_
  refine ah_cons (as_aload_n C dX0_likenessOf_20 rfl) ?_
  refine ah_cons (as_aload C dX0_likenessOf_21) ?_
  refine ah_cons (as_vI (ah_t1 (ah_okU (n := 1) (x := yX8_takes) (owner := RX8) C (mX1_takes hW f) dX0_likenessOf_23 (ci := 1) rfl wt_29 wt_30 wt_31 wt_32 wt_33 wt_34 wt_35 wt_36 ⟨by decide, by decide, by decide⟩ ⟨by decide, by decide⟩) (ah_t1 (ah_okU (n := 1) (x := yX8_takes) (owner := RX8) C (mX1_takes hW f) dX0_likenessOf_23 (ci := 3) rfl wt_29 wt_30 wt_31 wt_37 wt_33 wt_34 wt_35 wt_36 ⟨by decide, by decide, by decide⟩ ⟨by decide, by decide⟩) (ah_t1 (ah_okU (n := 1) (x := yX8_takes) (owner := RX8) C (mX5_takes hW f) dX0_likenessOf_23 (ci := 5) rfl wt_29 wt_30 wt_31 wt_38 wt_39 wt_40 wt_41 wt_36 ⟨by decide, by decide, by decide⟩ ⟨by decide, by decide⟩) (ah_t1 (ah_okV (n := 1) C (mX8_takes hW f) dX0_likenessOf_23 (ci := 8) rfl wt_29 wt_31 wt_42 wt_43 wt_36 ⟨by decide, by decide, by decide, by decide⟩ ⟨by decide, by decide⟩) (ah_t1 (ah_okU (n := 1) (x := yX8_takes) (owner := RX8) C (mX9_takes hW f) dX0_likenessOf_23 (ci := 9) rfl wt_29 wt_30 wt_31 wt_44 wt_45 wt_46 wt_47 wt_36 ⟨by decide, by decide, by decide⟩ ⟨by decide, by decide⟩) ah_t0)))))) ?_
  refine ah_cons (as_if_eq C dX0_likenessOf_26 (by decide)) ?_
  refine ah_cons (as_aload C dX0_likenessOf_29) ?_
  refine ah_cons (as_aload_n C dX0_likenessOf_31 rfl) ?_
  refine ah_cons (as_vI (ah_t1 (ah_okU (n := 1) (x := yX8_takes) (owner := RX8) C (mX1_takes hW f) dX0_likenessOf_32 (ci := 1) rfl wt_29 wt_30 wt_31 wt_32 wt_33 wt_34 wt_35 wt_36 ⟨by decide, by decide, by decide⟩ ⟨by decide, by decide⟩) (ah_t1 (ah_okU (n := 1) (x := yX8_takes) (owner := RX8) C (mX1_takes hW f) dX0_likenessOf_32 (ci := 3) rfl wt_29 wt_30 wt_31 wt_37 wt_33 wt_34 wt_35 wt_36 ⟨by decide, by decide, by decide⟩ ⟨by decide, by decide⟩) (ah_t1 (ah_okU (n := 1) (x := yX8_takes) (owner := RX8) C (mX5_takes hW f) dX0_likenessOf_32 (ci := 5) rfl wt_29 wt_30 wt_31 wt_38 wt_39 wt_40 wt_41 wt_36 ⟨by decide, by decide, by decide⟩ ⟨by decide, by decide⟩) (ah_t1 (ah_okV (n := 1) C (mX8_takes hW f) dX0_likenessOf_32 (ci := 8) rfl wt_29 wt_31 wt_42 wt_43 wt_36 ⟨by decide, by decide, by decide, by decide⟩ ⟨by decide, by decide⟩) (ah_t1 (ah_okU (n := 1) (x := yX8_takes) (owner := RX8) C (mX9_takes hW f) dX0_likenessOf_32 (ci := 9) rfl wt_29 wt_30 wt_31 wt_44 wt_45 wt_46 wt_47 wt_36 ⟨by decide, by decide, by decide⟩ ⟨by decide, by decide⟩) ah_t0)))))) ?_
  refine ah_cons (as_if_ne C dX0_likenessOf_35 (by decide)) ?_
  refine ah_cons (as_iconst C dX0_likenessOf_38 (by decide)) ?_
  refine ah_cons (as_iret C rfl dX0_likenessOf_39) ?_
  refine ah_cons (as_bipush C dX0_likenessOf_40 (by decide)) ?_
  refine ah_cons (as_aload_n C dX0_likenessOf_42 rfl) ?_
  refine ah_cons (as_aload C dX0_likenessOf_43) ?_
  refine ah_cons (as_vI (ah_t1 (ah_okU (n := 1) (x := yX8_distanceTo) (owner := RX8) C (mX8_distanceTo hW f) dX0_likenessOf_45 (ci := 1) rfl wt_48 wt_49 wt_50 wt_51 wt_50 wt_43 wt_52 wt_52 ⟨by decide, by decide, by decide⟩ ⟨by decide, by decide⟩) (ah_t1 (ah_okU (n := 1) (x := yX8_distanceTo) (owner := RX8) C (mX3_distanceTo hW f) dX0_likenessOf_45 (ci := 3) rfl wt_48 wt_49 wt_50 wt_53 wt_54 wt_55 wt_56 wt_52 ⟨by decide, by decide, by decide⟩ ⟨by decide, by decide⟩) (ah_t1 (ah_okU (n := 1) (x := yX8_distanceTo) (owner := RX8) C (mX8_distanceTo hW f) dX0_likenessOf_45 (ci := 5) rfl wt_48 wt_49 wt_50 wt_57 wt_50 wt_43 wt_52 wt_52 ⟨by decide, by decide, by decide⟩ ⟨by decide, by decide⟩) (ah_t1 (ah_okV (n := 1) C (mX8_distanceTo hW f) dX0_likenessOf_45 (ci := 8) rfl wt_48 wt_50 wt_58 wt_43 wt_52 ⟨by decide, by decide, by decide, by decide⟩ ⟨by decide, by decide⟩) (ah_t1 (ah_okU (n := 1) (x := yX8_distanceTo) (owner := RX8) C (mX8_distanceTo hW f) dX0_likenessOf_45 (ci := 9) rfl wt_48 wt_49 wt_50 wt_59 wt_50 wt_43 wt_52 wt_52 ⟨by decide, by decide, by decide⟩ ⟨by decide, by decide⟩) ah_t0)))))) ?_
  refine ah_cons (as_isub C dX0_likenessOf_48) ?_
  refine ah_cons (as_aload C dX0_likenessOf_49) ?_
  refine ah_cons (as_aload_n C dX0_likenessOf_51 rfl) ?_
  refine ah_cons (as_vI (ah_t1 (ah_okU (n := 1) (x := yX8_distanceTo) (owner := RX8) C (mX8_distanceTo hW f) dX0_likenessOf_52 (ci := 1) rfl wt_48 wt_49 wt_50 wt_51 wt_50 wt_43 wt_52 wt_52 ⟨by decide, by decide, by decide⟩ ⟨by decide, by decide⟩) (ah_t1 (ah_okU (n := 1) (x := yX8_distanceTo) (owner := RX8) C (mX3_distanceTo hW f) dX0_likenessOf_52 (ci := 3) rfl wt_48 wt_49 wt_50 wt_53 wt_54 wt_55 wt_56 wt_52 ⟨by decide, by decide, by decide⟩ ⟨by decide, by decide⟩) (ah_t1 (ah_okU (n := 1) (x := yX8_distanceTo) (owner := RX8) C (mX8_distanceTo hW f) dX0_likenessOf_52 (ci := 5) rfl wt_48 wt_49 wt_50 wt_57 wt_50 wt_43 wt_52 wt_52 ⟨by decide, by decide, by decide⟩ ⟨by decide, by decide⟩) (ah_t1 (ah_okV (n := 1) C (mX8_distanceTo hW f) dX0_likenessOf_52 (ci := 8) rfl wt_48 wt_50 wt_58 wt_43 wt_52 ⟨by decide, by decide, by decide, by decide⟩ ⟨by decide, by decide⟩) (ah_t1 (ah_okU (n := 1) (x := yX8_distanceTo) (owner := RX8) C (mX8_distanceTo hW f) dX0_likenessOf_52 (ci := 9) rfl wt_48 wt_49 wt_50 wt_59 wt_50 wt_43 wt_52 wt_52 ⟨by decide, by decide, by decide⟩ ⟨by decide, by decide⟩) ah_t0)))))) ?_
  refine ah_cons (as_isub C dX0_likenessOf_55) ?_
  refine ah_cons (as_iret C rfl dX0_likenessOf_56) ?_
  exact ah_nil
def kX0_mayPair (f : Nat) : List (Nat × ah_S) := [
  (0, ah_ald 0 1),
  (1, ah_ild 1 2),
  (2, ah_ild 2 3),
  (3, ah_vI [(0, aX0_likenessOf f)] 3 6),
  (6, ah_push (.int (-1)) 7),
  (7, ah_ceq 14 10),
  (10, ah_push (.int (1)) 11),
  (11, ah_goto 15),
  (14, ah_push (.int (0)) 15),
  (15, ah_zret)]
def aX0_mayPair (f : Nat) : ah_F := ah_fun (kX0_mayPair f) 3 f
set_option maxRecDepth 100000 in
set_option maxHeartbeats 4000000 in
theorem mX0_mayPair {l : Launch} {s0 : State} {D : va_G} {tc : Nat → ClassId} {ad : Nat → Nat} {A : Nat → Prop} (hW : ah_W0 s0 ad A) (f : Nat) : ah_Met l s0 D tc ad A yX0_mayPair cX0_mayPair 3 (some .boolean) 3 66 (aX0_mayPair f) := by
  refine ah_met hW.1 (by decide) (fun p e s m args below meth c res C => ?_)
  refine ah_cons (as_aload_n C dX0_mayPair_0 rfl) ?_
  refine ah_cons (as_iload_n C dX0_mayPair_1 rfl) ?_
  refine ah_cons (as_iload_n C dX0_mayPair_2 rfl) ?_
  refine ah_cons (as_vI (ah_t1 (ah_okV (n := 2) C (mX0_likenessOf hW f) dX0_mayPair_3 (ci := 0) rfl wt_60 wt_62 wt_61 wt_4 wt_63 ⟨by decide, by decide, by decide, by decide⟩ ⟨by decide, by decide⟩) ah_t0)) ?_
  refine ah_cons (as_iconst C dX0_mayPair_6 (by decide)) ?_
  refine ah_cons (as_icmp_eq C dX0_mayPair_7 (by decide)) ?_
  refine ah_cons (as_iconst C dX0_mayPair_10 (by decide)) ?_
  refine ah_cons (as_goto C dX0_mayPair_11 (by decide)) ?_
  refine ah_cons (as_iconst C dX0_mayPair_14 (by decide)) ?_
  refine ah_cons (as_zret C rfl dX0_mayPair_15) ?_
  exact ah_nil
def kX0_likenessAt (f : Nat) : List (Nat × ah_S) := [
  (0, ah_ald 0 1),
  (1, ah_gfr [0] 0 4),
  (4, ah_ild 1 5),
  (5, ah_aald 2 6),
  (6, ah_gfi [1, 3, 5, 8, 9] 1 9),
  (9, ah_ist 4 11),
  (11, ah_ald 0 12),
  (12, ah_gfr [0] 0 15),
  (15, ah_ild 1 16),
  (16, ah_aald 2 17),
  (17, ah_ild 2 18),
  (18, ah_pfi [1, 3, 5, 8, 9] 1 21),
  (21, ah_ald 0 22),
  (22, ah_ild 1 23),
  (23, ah_ild 3 24),
  (24, ah_vI [(0, aX0_likenessOf f)] 3 27),
  (27, ah_ist 5 29),
  (29, ah_ald 0 30),
  (30, ah_gfr [0] 0 33),
  (33, ah_ild 1 34),
  (34, ah_aald 2 35),
  (35, ah_ild 4 37),
  (37, ah_pfi [1, 3, 5, 8, 9] 1 40),
  (40, ah_ild 5 42),
  (42, ah_iret)]
def aX0_likenessAt (f : Nat) : ah_F := ah_fun (kX0_likenessAt f) 6 f
set_option maxRecDepth 100000 in
set_option maxHeartbeats 4000000 in
theorem mX0_likenessAt {l : Launch} {s0 : State} {D : va_G} {tc : Nat → ClassId} {ad : Nat → Nat} {A : Nat → Prop} (hW : ah_W0 s0 ad A) (f : Nat) : ah_Met l s0 D tc ad A yX0_likenessAt cX0_likenessAt 6 (some .int) 3 66 (aX0_likenessAt f) := by
  refine ah_met hW.1 (by decide) (fun p e s m args below meth c res C => ?_)
  refine ah_cons (as_aload_n C dX0_likenessAt_0 rfl) ?_
  refine ah_cons (as_gfr C dX0_likenessAt_1 fgX0_11) ?_
  refine ah_cons (as_iload_n C dX0_likenessAt_4 rfl) ?_
  refine ah_cons (as_aald C dX0_likenessAt_5 rfl rfl) ?_
  refine ah_cons (as_gfi C dX0_likenessAt_6 fgX0_83) ?_
  refine ah_cons (as_istore C dX0_likenessAt_9 (by decide)) ?_
  refine ah_cons (as_aload_n C dX0_likenessAt_11 rfl) ?_
  refine ah_cons (as_gfr C dX0_likenessAt_12 fgX0_11) ?_
  refine ah_cons (as_iload_n C dX0_likenessAt_15 rfl) ?_
  refine ah_cons (as_aald C dX0_likenessAt_16 rfl rfl) ?_
  refine ah_cons (as_iload_n C dX0_likenessAt_17 rfl) ?_
  refine ah_cons (as_pfi C dX0_likenessAt_18 fpX0_83) ?_
  refine ah_cons (as_aload_n C dX0_likenessAt_21 rfl) ?_
  refine ah_cons (as_iload_n C dX0_likenessAt_22 rfl) ?_
  refine ah_cons (as_iload_n C dX0_likenessAt_23 rfl) ?_
  refine ah_cons (as_vI (ah_t1 (ah_okV (n := 2) C (mX0_likenessOf hW f) dX0_likenessAt_24 (ci := 0) rfl wt_60 wt_62 wt_61 wt_4 wt_63 ⟨by decide, by decide, by decide, by decide⟩ ⟨by decide, by decide⟩) ah_t0)) ?_
  refine ah_cons (as_istore C dX0_likenessAt_27 (by decide)) ?_
  refine ah_cons (as_aload_n C dX0_likenessAt_29 rfl) ?_
  refine ah_cons (as_gfr C dX0_likenessAt_30 fgX0_11) ?_
  refine ah_cons (as_iload_n C dX0_likenessAt_33 rfl) ?_
  refine ah_cons (as_aald C dX0_likenessAt_34 rfl rfl) ?_
  refine ah_cons (as_iload C dX0_likenessAt_35) ?_
  refine ah_cons (as_pfi C dX0_likenessAt_37 fpX0_83) ?_
  refine ah_cons (as_iload C dX0_likenessAt_40) ?_
  refine ah_cons (as_iret C rfl dX0_likenessAt_42) ?_
  exact ah_nil
def kX0_matchesOf (f : Nat) : List (Nat × ah_S) := [
  (4, ah_ild 3 5),
  (0, ah_push (.int (0)) 1),
  (1, ah_ist 2 2),
  (2, ah_push (.int (0)) 3),
  (3, ah_lim 4 [0, 1, 2, 3] (ah_ist 3 4)),
  (5, ah_ald 0 6),
  (6, ah_gfi [0] 2 9),
  (9, ah_clt 12 33),
  (12, ah_ald 0 13),
  (13, ah_ild 1 14),
  (14, ah_ild 3 15),
  (15, ah_vI [(0, aX0_mayPair f)] 3 18),
  (18, ah_zeq 27 21),
  (21, ah_ild 2 22),
  (22, ah_push (.int (1)) 23),
  (23, ah_ild 3 24),
  (24, ah_bin (fun x y => x <<< (y &&& 31)) 25),
  (25, ah_bin (fun x y => x ||| y) 26),
  (26, ah_ist 2 27),
  (27, ah_inc 3 (1) 30),
  (30, ah_lim 4 [0, 1, 2, 3] (ah_goto 4)),
  (33, ah_ild 2 34),
  (34, ah_iret)]
def aX0_matchesOf (f : Nat) : ah_F := ah_fun (kX0_matchesOf f) 4 f
set_option maxRecDepth 100000 in
set_option maxHeartbeats 4000000 in
theorem mX0_matchesOf {l : Launch} {s0 : State} {D : va_G} {tc : Nat → ClassId} {ad : Nat → Nat} {A : Nat → Prop} (hW : ah_W0 s0 ad A) (f : Nat) : ah_Met l s0 D tc ad A yX0_matchesOf cX0_matchesOf 4 (some .int) 4 88 (aX0_matchesOf f) := by
  refine ah_met hW.1 (by decide) (fun p e s m args below meth c res C => ?_)
  refine ah_cons (as_iload_n C dX0_matchesOf_4 rfl) ?_
  refine ah_cons (as_iconst C dX0_matchesOf_0 (by decide)) ?_
  refine ah_cons (as_istore_n C dX0_matchesOf_1 rfl (by decide)) ?_
  refine ah_cons (as_iconst C dX0_matchesOf_2 (by decide)) ?_
  refine ah_cons (as_lim (as_istore_n C dX0_matchesOf_3 rfl (by decide))) ?_
  refine ah_cons (as_aload_n C dX0_matchesOf_5 rfl) ?_
  refine ah_cons (as_gfi C dX0_matchesOf_6 fgX0_24) ?_
  refine ah_cons (as_icmp_ge C dX0_matchesOf_9 (by decide)) ?_
  refine ah_cons (as_aload_n C dX0_matchesOf_12 rfl) ?_
  refine ah_cons (as_iload_n C dX0_matchesOf_13 rfl) ?_
  refine ah_cons (as_iload_n C dX0_matchesOf_14 rfl) ?_
  refine ah_cons (as_vI (ah_t1 (ah_okV (n := 2) C (mX0_mayPair hW f) dX0_matchesOf_15 (ci := 0) rfl wt_65 wt_67 wt_66 wt_4 wt_68 ⟨by decide, by decide, by decide, by decide⟩ ⟨by decide, by decide⟩) ah_t0)) ?_
  refine ah_cons (as_if_eq C dX0_matchesOf_18 (by decide)) ?_
  refine ah_cons (as_iload_n C dX0_matchesOf_21 rfl) ?_
  refine ah_cons (as_iconst C dX0_matchesOf_22 (by decide)) ?_
  refine ah_cons (as_iload_n C dX0_matchesOf_23 rfl) ?_
  refine ah_cons (as_ishl C dX0_matchesOf_24) ?_
  refine ah_cons (as_ior C dX0_matchesOf_25) ?_
  refine ah_cons (as_istore_n C dX0_matchesOf_26 rfl (by decide)) ?_
  refine ah_cons (as_iinc C dX0_matchesOf_27 (by decide) (by decide)) ?_
  refine ah_cons (as_lim (as_goto C dX0_matchesOf_30 (by decide))) ?_
  refine ah_cons (as_iload_n C dX0_matchesOf_33 rfl) ?_
  refine ah_cons (as_iret C rfl dX0_matchesOf_34) ?_
  exact ah_nil
def kX0_favouriteOf (f : Nat) : List (Nat × ah_S) := [
  (7, ah_ild 4 9),
  (0, ah_push (.int (-1)) 1),
  (1, ah_ist 2 2),
  (2, ah_push (.int (-1)) 3),
  (3, ah_ist 3 4),
  (4, ah_push (.int (0)) 5),
  (5, ah_lim 7 [0, 1, 2, 3, 4] (ah_ist 4 7)),
  (9, ah_ald 0 10),
  (10, ah_gfi [0] 2 13),
  (13, ah_clt 16 43),
  (16, ah_ald 0 17),
  (17, ah_ild 1 18),
  (18, ah_ild 4 20),
  (20, ah_vI [(0, aX0_likenessOf f)] 3 23),
  (23, ah_ist 5 25),
  (25, ah_ild 5 27),
  (27, ah_ild 3 28),
  (28, ah_cgt 31 37),
  (31, ah_ild 5 33),
  (33, ah_ist 3 34),
  (34, ah_ild 4 36),
  (36, ah_ist 2 37),
  (37, ah_inc 4 (1) 40),
  (40, ah_lim 7 [0, 1, 2, 3, 4] (ah_goto 7)),
  (43, ah_ild 2 44),
  (44, ah_iret)]
def aX0_favouriteOf (f : Nat) : ah_F := ah_fun (kX0_favouriteOf f) 6 f
set_option maxRecDepth 100000 in
set_option maxHeartbeats 4000000 in
theorem mX0_favouriteOf {l : Launch} {s0 : State} {D : va_G} {tc : Nat → ClassId} {ad : Nat → Nat} {A : Nat → Prop} (hW : ah_W0 s0 ad A) (f : Nat) : ah_Met l s0 D tc ad A yX0_favouriteOf cX0_favouriteOf 6 (some .int) 3 66 (aX0_favouriteOf f) := by
  refine ah_met hW.1 (by decide) (fun p e s m args below meth c res C => ?_)
  refine ah_cons (as_iload C dX0_favouriteOf_7) ?_
  refine ah_cons (as_iconst C dX0_favouriteOf_0 (by decide)) ?_
  refine ah_cons (as_istore_n C dX0_favouriteOf_1 rfl (by decide)) ?_
  refine ah_cons (as_iconst C dX0_favouriteOf_2 (by decide)) ?_
  refine ah_cons (as_istore_n C dX0_favouriteOf_3 rfl (by decide)) ?_
  refine ah_cons (as_iconst C dX0_favouriteOf_4 (by decide)) ?_
  refine ah_cons (as_lim (as_istore C dX0_favouriteOf_5 (by decide))) ?_
  refine ah_cons (as_aload_n C dX0_favouriteOf_9 rfl) ?_
  refine ah_cons (as_gfi C dX0_favouriteOf_10 fgX0_24) ?_
  refine ah_cons (as_icmp_ge C dX0_favouriteOf_13 (by decide)) ?_
  refine ah_cons (as_aload_n C dX0_favouriteOf_16 rfl) ?_
  refine ah_cons (as_iload_n C dX0_favouriteOf_17 rfl) ?_
  refine ah_cons (as_iload C dX0_favouriteOf_18) ?_
  refine ah_cons (as_vI (ah_t1 (ah_okV (n := 2) C (mX0_likenessOf hW f) dX0_favouriteOf_20 (ci := 0) rfl wt_60 wt_62 wt_61 wt_4 wt_63 ⟨by decide, by decide, by decide, by decide⟩ ⟨by decide, by decide⟩) ah_t0)) ?_
  refine ah_cons (as_istore C dX0_favouriteOf_23 (by decide)) ?_
  refine ah_cons (as_iload C dX0_favouriteOf_25) ?_
  refine ah_cons (as_iload_n C dX0_favouriteOf_27 rfl) ?_
  refine ah_cons (as_icmp_le C dX0_favouriteOf_28 (by decide)) ?_
  refine ah_cons (as_iload C dX0_favouriteOf_31) ?_
  refine ah_cons (as_istore_n C dX0_favouriteOf_33 rfl (by decide)) ?_
  refine ah_cons (as_iload C dX0_favouriteOf_34) ?_
  refine ah_cons (as_istore_n C dX0_favouriteOf_36 rfl (by decide)) ?_
  refine ah_cons (as_iinc C dX0_favouriteOf_37 (by decide) (by decide)) ?_
  refine ah_cons (as_lim (as_goto C dX0_favouriteOf_40 (by decide))) ?_
  refine ah_cons (as_iload_n C dX0_favouriteOf_43 rfl) ?_
  refine ah_cons (as_iret C rfl dX0_favouriteOf_44) ?_
  exact ah_nil
def kX0_seersAt (f : Nat) : List (Nat × ah_S) := [
  (5, ah_ild 4 7),
  (0, ah_push (.int (0)) 1),
  (1, ah_ist 3 2),
  (2, ah_push (.int (0)) 3),
  (3, ah_lim 5 [0, 1, 2, 3, 4] (ah_ist 4 5)),
  (7, ah_ald 0 8),
  (8, ah_gfi [0] 2 11),
  (11, ah_clt 14 73),
  (14, ah_ald 0 15),
  (15, ah_gfr [0] 0 18),
  (18, ah_ild 4 20),
  (20, ah_aald 2 21),
  (21, ah_gfi [1, 3, 5, 8, 9] 2 24),
  (24, ah_ild 2 25),
  (25, ah_bin (fun x y => x - y) 26),
  (26, ah_abs 29),
  (29, ah_push (.int (1)) 30),
  (30, ah_cgt 37 33),
  (33, ah_push (.int (1)) 34),
  (34, ah_goto 38),
  (37, ah_push (.int (0)) 38),
  (38, ah_ist 5 40),
  (40, ah_ild 5 42),
  (42, ah_zeq 67 45),
  (45, ah_ald 0 46),
  (46, ah_ild 4 48),
  (48, ah_vI [(0, aX0_isPaired f)] 2 51),
  (51, ah_zeq 54 67),
  (54, ah_ald 0 55),
  (55, ah_ild 1 56),
  (56, ah_ild 4 58),
  (58, ah_vI [(0, aX0_mayPair f)] 3 61),
  (61, ah_zeq 67 64),
  (64, ah_inc 3 (1) 67),
  (67, ah_inc 4 (1) 70),
  (70, ah_lim 5 [0, 1, 2, 3, 4] (ah_goto 5)),
  (73, ah_ild 3 74),
  (74, ah_iret)]
def aX0_seersAt (f : Nat) : ah_F := ah_fun (kX0_seersAt f) 6 f
set_option maxRecDepth 100000 in
set_option maxHeartbeats 4000000 in
theorem mX0_seersAt {l : Launch} {s0 : State} {D : va_G} {tc : Nat → ClassId} {ad : Nat → Nat} {A : Nat → Prop} (hW : ah_W0 s0 ad A) (f : Nat) : ah_Met l s0 D tc ad A yX0_seersAt cX0_seersAt 6 (some .int) 4 88 (aX0_seersAt f) := by
  refine ah_met hW.1 (by decide) (fun p e s m args below meth c res C => ?_)
  refine ah_cons (as_iload C dX0_seersAt_5) ?_
  refine ah_cons (as_iconst C dX0_seersAt_0 (by decide)) ?_
  refine ah_cons (as_istore_n C dX0_seersAt_1 rfl (by decide)) ?_
  refine ah_cons (as_iconst C dX0_seersAt_2 (by decide)) ?_
  refine ah_cons (as_lim (as_istore C dX0_seersAt_3 (by decide))) ?_
  refine ah_cons (as_aload_n C dX0_seersAt_7 rfl) ?_
  refine ah_cons (as_gfi C dX0_seersAt_8 fgX0_24) ?_
  refine ah_cons (as_icmp_ge C dX0_seersAt_11 (by decide)) ?_
  refine ah_cons (as_aload_n C dX0_seersAt_14 rfl) ?_
  refine ah_cons (as_gfr C dX0_seersAt_15 fgX0_11) ?_
  refine ah_cons (as_iload C dX0_seersAt_18) ?_
  refine ah_cons (as_aald C dX0_seersAt_20 rfl rfl) ?_
  refine ah_cons (as_gfi C dX0_seersAt_21 fgX0_88) ?_
  refine ah_cons (as_iload_n C dX0_seersAt_24 rfl) ?_
  refine ah_cons (as_isub C dX0_seersAt_25) ?_
  refine ah_cons (as_abs C dX0_seersAt_26 wt_70 wt_22 wt_23 wt_24 ⟨by decide, by decide⟩) ?_
  refine ah_cons (as_iconst C dX0_seersAt_29 (by decide)) ?_
  refine ah_cons (as_icmp_gt C dX0_seersAt_30 (by decide)) ?_
  refine ah_cons (as_iconst C dX0_seersAt_33 (by decide)) ?_
  refine ah_cons (as_goto C dX0_seersAt_34 (by decide)) ?_
  refine ah_cons (as_iconst C dX0_seersAt_37 (by decide)) ?_
  refine ah_cons (as_istore C dX0_seersAt_38 (by decide)) ?_
  refine ah_cons (as_iload C dX0_seersAt_40) ?_
  refine ah_cons (as_if_eq C dX0_seersAt_42 (by decide)) ?_
  refine ah_cons (as_aload_n C dX0_seersAt_45 rfl) ?_
  refine ah_cons (as_iload C dX0_seersAt_46) ?_
  refine ah_cons (as_vI (ah_t1 (ah_okV (n := 1) C (mX0_isPaired hW f) dX0_seersAt_48 (ci := 0) rfl wt_71 wt_73 wt_72 wt_4 wt_74 ⟨by decide, by decide, by decide, by decide⟩ ⟨by decide, by decide⟩) ah_t0)) ?_
  refine ah_cons (as_if_ne C dX0_seersAt_51 (by decide)) ?_
  refine ah_cons (as_aload_n C dX0_seersAt_54 rfl) ?_
  refine ah_cons (as_iload_n C dX0_seersAt_55 rfl) ?_
  refine ah_cons (as_iload C dX0_seersAt_56) ?_
  refine ah_cons (as_vI (ah_t1 (ah_okV (n := 2) C (mX0_mayPair hW f) dX0_seersAt_58 (ci := 0) rfl wt_65 wt_67 wt_66 wt_4 wt_68 ⟨by decide, by decide, by decide, by decide⟩ ⟨by decide, by decide⟩) ah_t0)) ?_
  refine ah_cons (as_if_eq C dX0_seersAt_61 (by decide)) ?_
  refine ah_cons (as_iinc C dX0_seersAt_64 (by decide) (by decide)) ?_
  refine ah_cons (as_iinc C dX0_seersAt_67 (by decide) (by decide)) ?_
  refine ah_cons (as_lim (as_goto C dX0_seersAt_70 (by decide))) ?_
  refine ah_cons (as_iload_n C dX0_seersAt_73 rfl) ?_
  refine ah_cons (as_iret C rfl dX0_seersAt_74) ?_
  exact ah_nil
def kX0_spikeOf (f : Nat) : List (Nat × ah_S) := [
  (7, ah_ild 4 9),
  (0, ah_push (.int (0)) 1),
  (1, ah_ist 2 2),
  (2, ah_push (.int (-1)) 3),
  (3, ah_ist 3 4),
  (4, ah_push (.int (0)) 5),
  (5, ah_lim 7 [0, 1, 2, 3, 4] (ah_ist 4 7)),
  (9, ah_push (.int (6)) 11),
  (11, ah_clt 14 41),
  (14, ah_ald 0 15),
  (15, ah_ild 1 16),
  (16, ah_ild 4 18),
  (18, ah_vI [(0, aX0_seersAt f)] 3 21),
  (21, ah_ist 5 23),
  (23, ah_ild 5 25),
  (25, ah_ild 3 26),
  (26, ah_cgt 29 35),
  (29, ah_ild 5 31),
  (31, ah_ist 3 32),
  (32, ah_ild 4 34),
  (34, ah_ist 2 35),
  (35, ah_inc 4 (1) 38),
  (38, ah_lim 7 [0, 1, 2, 3, 4] (ah_goto 7)),
  (41, ah_ild 2 42),
  (42, ah_iret)]
def aX0_spikeOf (f : Nat) : ah_F := ah_fun (kX0_spikeOf f) 6 f
set_option maxRecDepth 100000 in
set_option maxHeartbeats 4000000 in
theorem mX0_spikeOf {l : Launch} {s0 : State} {D : va_G} {tc : Nat → ClassId} {ad : Nat → Nat} {A : Nat → Prop} (hW : ah_W0 s0 ad A) (f : Nat) : ah_Met l s0 D tc ad A yX0_spikeOf cX0_spikeOf 6 (some .int) 5 113 (aX0_spikeOf f) := by
  refine ah_met hW.1 (by decide) (fun p e s m args below meth c res C => ?_)
  refine ah_cons (as_iload C dX0_spikeOf_7) ?_
  refine ah_cons (as_iconst C dX0_spikeOf_0 (by decide)) ?_
  refine ah_cons (as_istore_n C dX0_spikeOf_1 rfl (by decide)) ?_
  refine ah_cons (as_iconst C dX0_spikeOf_2 (by decide)) ?_
  refine ah_cons (as_istore_n C dX0_spikeOf_3 rfl (by decide)) ?_
  refine ah_cons (as_iconst C dX0_spikeOf_4 (by decide)) ?_
  refine ah_cons (as_lim (as_istore C dX0_spikeOf_5 (by decide))) ?_
  refine ah_cons (as_bipush C dX0_spikeOf_9 (by decide)) ?_
  refine ah_cons (as_icmp_ge C dX0_spikeOf_11 (by decide)) ?_
  refine ah_cons (as_aload_n C dX0_spikeOf_14 rfl) ?_
  refine ah_cons (as_iload_n C dX0_spikeOf_15 rfl) ?_
  refine ah_cons (as_iload C dX0_spikeOf_16) ?_
  refine ah_cons (as_vI (ah_t1 (ah_okV (n := 2) C (mX0_seersAt hW f) dX0_spikeOf_18 (ci := 0) rfl wt_75 wt_77 wt_76 wt_4 wt_78 ⟨by decide, by decide, by decide, by decide⟩ ⟨by decide, by decide⟩) ah_t0)) ?_
  refine ah_cons (as_istore C dX0_spikeOf_21 (by decide)) ?_
  refine ah_cons (as_iload C dX0_spikeOf_23) ?_
  refine ah_cons (as_iload_n C dX0_spikeOf_25 rfl) ?_
  refine ah_cons (as_icmp_le C dX0_spikeOf_26 (by decide)) ?_
  refine ah_cons (as_iload C dX0_spikeOf_29) ?_
  refine ah_cons (as_istore_n C dX0_spikeOf_31 rfl (by decide)) ?_
  refine ah_cons (as_iload C dX0_spikeOf_32) ?_
  refine ah_cons (as_istore_n C dX0_spikeOf_34 rfl (by decide)) ?_
  refine ah_cons (as_iinc C dX0_spikeOf_35 (by decide) (by decide)) ?_
  refine ah_cons (as_lim (as_goto C dX0_spikeOf_38 (by decide))) ?_
  refine ah_cons (as_iload_n C dX0_spikeOf_41 rfl) ?_
  refine ah_cons (as_iret C rfl dX0_spikeOf_42) ?_
  exact ah_nil
def kX0_carryTo (f : Nat) : List (Nat × ah_S) := [
  (0, ah_ald 0 1),
  (1, ah_gfr [0] 0 4),
  (4, ah_ild 1 5),
  (5, ah_aald 2 6),
  (6, ah_gfi [1, 3, 5, 8, 9] 2 9),
  (9, ah_ild 2 10),
  (10, ah_bin (fun x y => x - y) 11),
  (11, ah_abs 14),
  (14, ah_ist 3 15),
  (15, ah_ald 0 16),
  (16, ah_gfr [0] 0 19),
  (19, ah_ild 1 20),
  (20, ah_aald 2 21),
  (21, ah_ild 2 22),
  (22, ah_pfi [1, 3, 5, 8, 9] 2 25),
  (25, ah_ald 0 26),
  (26, ah_dupR 27),
  (27, ah_gfi [0] 3 30),
  (30, ah_ild 3 31),
  (31, ah_bin (fun x y => x + y) 32),
  (32, ah_pfi [0] 3 35),
  (35, ah_ild 3 36),
  (36, ah_iret)]
def aX0_carryTo (f : Nat) : ah_F := ah_fun (kX0_carryTo f) 4 f
set_option maxRecDepth 100000 in
set_option maxHeartbeats 4000000 in
theorem mX0_carryTo {l : Launch} {s0 : State} {D : va_G} {tc : Nat → ClassId} {ad : Nat → Nat} {A : Nat → Prop} (hW : ah_W0 s0 ad A) (f : Nat) : ah_Met l s0 D tc ad A yX0_carryTo cX0_carryTo 4 (some .int) 1 21 (aX0_carryTo f) := by
  refine ah_met hW.1 (by decide) (fun p e s m args below meth c res C => ?_)
  refine ah_cons (as_aload_n C dX0_carryTo_0 rfl) ?_
  refine ah_cons (as_gfr C dX0_carryTo_1 fgX0_11) ?_
  refine ah_cons (as_iload_n C dX0_carryTo_4 rfl) ?_
  refine ah_cons (as_aald C dX0_carryTo_5 rfl rfl) ?_
  refine ah_cons (as_gfi C dX0_carryTo_6 fgX0_88) ?_
  refine ah_cons (as_iload_n C dX0_carryTo_9 rfl) ?_
  refine ah_cons (as_isub C dX0_carryTo_10) ?_
  refine ah_cons (as_abs C dX0_carryTo_11 wt_70 wt_22 wt_23 wt_24 ⟨by decide, by decide⟩) ?_
  refine ah_cons (as_istore_n C dX0_carryTo_14 rfl (by decide)) ?_
  refine ah_cons (as_aload_n C dX0_carryTo_15 rfl) ?_
  refine ah_cons (as_gfr C dX0_carryTo_16 fgX0_11) ?_
  refine ah_cons (as_iload_n C dX0_carryTo_19 rfl) ?_
  refine ah_cons (as_aald C dX0_carryTo_20 rfl rfl) ?_
  refine ah_cons (as_iload_n C dX0_carryTo_21 rfl) ?_
  refine ah_cons (as_pfi C dX0_carryTo_22 fpX0_88) ?_
  refine ah_cons (as_aload_n C dX0_carryTo_25 rfl) ?_
  refine ah_cons (as_dupR C dX0_carryTo_26) ?_
  refine ah_cons (as_gfi C dX0_carryTo_27 fgX0_28) ?_
  refine ah_cons (as_iload_n C dX0_carryTo_30 rfl) ?_
  refine ah_cons (as_iadd C dX0_carryTo_31) ?_
  refine ah_cons (as_pfi C dX0_carryTo_32 fpX0_28) ?_
  refine ah_cons (as_iload_n C dX0_carryTo_35 rfl) ?_
  refine ah_cons (as_iret C rfl dX0_carryTo_36) ?_
  exact ah_nil
def kX0_canMeet (f : Nat) : List (Nat × ah_S) := [
  (0, ah_ald 0 1),
  (1, ah_ild 1 2),
  (2, ah_vI [(0, aX0_isPaired f)] 2 5),
  (5, ah_zeq 8 50),
  (8, ah_ald 0 9),
  (9, ah_ild 2 10),
  (10, ah_vI [(0, aX0_isPaired f)] 2 13),
  (13, ah_zeq 16 50),
  (16, ah_ald 0 17),
  (17, ah_ild 1 18),
  (18, ah_ild 2 19),
  (19, ah_vI [(0, aX0_mayPair f)] 3 22),
  (22, ah_zeq 50 25),
  (25, ah_ald 0 26),
  (26, ah_gfr [0] 0 29),
  (29, ah_ild 1 30),
  (30, ah_aald 2 31),
  (31, ah_gfi [1, 3, 5, 8, 9] 2 34),
  (34, ah_ald 0 35),
  (35, ah_gfr [0] 0 38),
  (38, ah_ild 2 39),
  (39, ah_aald 2 40),
  (40, ah_gfi [1, 3, 5, 8, 9] 2 43),
  (43, ah_ceq 46 50),
  (46, ah_push (.int (1)) 47),
  (47, ah_goto 51),
  (50, ah_push (.int (0)) 51),
  (51, ah_zret)]
def aX0_canMeet (f : Nat) : ah_F := ah_fun (kX0_canMeet f) 3 f
set_option maxRecDepth 100000 in
set_option maxHeartbeats 4000000 in
theorem mX0_canMeet {l : Launch} {s0 : State} {D : va_G} {tc : Nat → ClassId} {ad : Nat → Nat} {A : Nat → Prop} (hW : ah_W0 s0 ad A) (f : Nat) : ah_Met l s0 D tc ad A yX0_canMeet cX0_canMeet 3 (some .boolean) 4 88 (aX0_canMeet f) := by
  refine ah_met hW.1 (by decide) (fun p e s m args below meth c res C => ?_)
  refine ah_cons (as_aload_n C dX0_canMeet_0 rfl) ?_
  refine ah_cons (as_iload_n C dX0_canMeet_1 rfl) ?_
  refine ah_cons (as_vI (ah_t1 (ah_okV (n := 1) C (mX0_isPaired hW f) dX0_canMeet_2 (ci := 0) rfl wt_71 wt_73 wt_72 wt_4 wt_74 ⟨by decide, by decide, by decide, by decide⟩ ⟨by decide, by decide⟩) ah_t0)) ?_
  refine ah_cons (as_if_ne C dX0_canMeet_5 (by decide)) ?_
  refine ah_cons (as_aload_n C dX0_canMeet_8 rfl) ?_
  refine ah_cons (as_iload_n C dX0_canMeet_9 rfl) ?_
  refine ah_cons (as_vI (ah_t1 (ah_okV (n := 1) C (mX0_isPaired hW f) dX0_canMeet_10 (ci := 0) rfl wt_71 wt_73 wt_72 wt_4 wt_74 ⟨by decide, by decide, by decide, by decide⟩ ⟨by decide, by decide⟩) ah_t0)) ?_
  refine ah_cons (as_if_ne C dX0_canMeet_13 (by decide)) ?_
  refine ah_cons (as_aload_n C dX0_canMeet_16 rfl) ?_
  refine ah_cons (as_iload_n C dX0_canMeet_17 rfl) ?_
  refine ah_cons (as_iload_n C dX0_canMeet_18 rfl) ?_
  refine ah_cons (as_vI (ah_t1 (ah_okV (n := 2) C (mX0_mayPair hW f) dX0_canMeet_19 (ci := 0) rfl wt_65 wt_67 wt_66 wt_4 wt_68 ⟨by decide, by decide, by decide, by decide⟩ ⟨by decide, by decide⟩) ah_t0)) ?_
  refine ah_cons (as_if_eq C dX0_canMeet_22 (by decide)) ?_
  refine ah_cons (as_aload_n C dX0_canMeet_25 rfl) ?_
  refine ah_cons (as_gfr C dX0_canMeet_26 fgX0_11) ?_
  refine ah_cons (as_iload_n C dX0_canMeet_29 rfl) ?_
  refine ah_cons (as_aald C dX0_canMeet_30 rfl rfl) ?_
  refine ah_cons (as_gfi C dX0_canMeet_31 fgX0_88) ?_
  refine ah_cons (as_aload_n C dX0_canMeet_34 rfl) ?_
  refine ah_cons (as_gfr C dX0_canMeet_35 fgX0_11) ?_
  refine ah_cons (as_iload_n C dX0_canMeet_38 rfl) ?_
  refine ah_cons (as_aald C dX0_canMeet_39 rfl rfl) ?_
  refine ah_cons (as_gfi C dX0_canMeet_40 fgX0_88) ?_
  refine ah_cons (as_icmp_ne C dX0_canMeet_43 (by decide)) ?_
  refine ah_cons (as_iconst C dX0_canMeet_46 (by decide)) ?_
  refine ah_cons (as_goto C dX0_canMeet_47 (by decide)) ?_
  refine ah_cons (as_iconst C dX0_canMeet_50 (by decide)) ?_
  refine ah_cons (as_zret C rfl dX0_canMeet_51) ?_
  exact ah_nil
def kX0_pairUp (f : Nat) : List (Nat × ah_S) := [
  (0, ah_ald 0 1),
  (1, ah_gfr [0] 0 4),
  (4, ah_ild 1 5),
  (5, ah_aald 2 6),
  (6, ah_ild 2 7),
  (7, ah_pfi [1, 3, 5, 8, 9] 3 10),
  (10, ah_ald 0 11),
  (11, ah_gfr [0] 0 14),
  (14, ah_ild 2 15),
  (15, ah_aald 2 16),
  (16, ah_ild 1 17),
  (17, ah_pfi [1, 3, 5, 8, 9] 3 20),
  (20, ah_vret)]
def aX0_pairUp (f : Nat) : ah_F := ah_fun (kX0_pairUp f) 3 f
set_option maxRecDepth 100000 in
set_option maxHeartbeats 4000000 in
theorem mX0_pairUp {l : Launch} {s0 : State} {D : va_G} {tc : Nat → ClassId} {ad : Nat → Nat} {A : Nat → Prop} (hW : ah_W0 s0 ad A) (f : Nat) : ah_Met l s0 D tc ad A yX0_pairUp cX0_pairUp 3 none 0 0 (aX0_pairUp f) := by
  refine ah_met hW.1 (by decide) (fun p e s m args below meth c res C => ?_)
  refine ah_cons (as_aload_n C dX0_pairUp_0 rfl) ?_
  refine ah_cons (as_gfr C dX0_pairUp_1 fgX0_11) ?_
  refine ah_cons (as_iload_n C dX0_pairUp_4 rfl) ?_
  refine ah_cons (as_aald C dX0_pairUp_5 rfl rfl) ?_
  refine ah_cons (as_iload_n C dX0_pairUp_6 rfl) ?_
  refine ah_cons (as_pfi C dX0_pairUp_7 fpX0_69) ?_
  refine ah_cons (as_aload_n C dX0_pairUp_10 rfl) ?_
  refine ah_cons (as_gfr C dX0_pairUp_11 fgX0_11) ?_
  refine ah_cons (as_iload_n C dX0_pairUp_14 rfl) ?_
  refine ah_cons (as_aald C dX0_pairUp_15 rfl rfl) ?_
  refine ah_cons (as_iload_n C dX0_pairUp_16 rfl) ?_
  refine ah_cons (as_pfi C dX0_pairUp_17 fpX0_69) ?_
  refine ah_cons (as_vret C rfl dX0_pairUp_20) ?_
  exact ah_nil
def kX0_separate (f : Nat) : List (Nat × ah_S) := [
  (0, ah_ald 0 1),
  (1, ah_gfr [0] 0 4),
  (4, ah_ild 1 5),
  (5, ah_aald 2 6),
  (6, ah_gfi [1, 3, 5, 8, 9] 3 9),
  (9, ah_ist 2 10),
  (10, ah_ald 0 11),
  (11, ah_ild 2 12),
  (12, ah_vI [(0, aX0_has f)] 2 15),
  (15, ah_zeq 28 18),
  (18, ah_ald 0 19),
  (19, ah_gfr [0] 0 22),
  (22, ah_ild 2 23),
  (23, ah_aald 2 24),
  (24, ah_push (.int (-1)) 25),
  (25, ah_pfi [1, 3, 5, 8, 9] 3 28),
  (28, ah_ald 0 29),
  (29, ah_gfr [0] 0 32),
  (32, ah_ild 1 33),
  (33, ah_aald 2 34),
  (34, ah_push (.int (-1)) 35),
  (35, ah_pfi [1, 3, 5, 8, 9] 3 38),
  (38, ah_vret)]
def aX0_separate (f : Nat) : ah_F := ah_fun (kX0_separate f) 3 f
set_option maxRecDepth 100000 in
set_option maxHeartbeats 4000000 in
theorem mX0_separate {l : Launch} {s0 : State} {D : va_G} {tc : Nat → ClassId} {ad : Nat → Nat} {A : Nat → Prop} (hW : ah_W0 s0 ad A) (f : Nat) : ah_Met l s0 D tc ad A yX0_separate cX0_separate 3 none 1 21 (aX0_separate f) := by
  refine ah_met hW.1 (by decide) (fun p e s m args below meth c res C => ?_)
  refine ah_cons (as_aload_n C dX0_separate_0 rfl) ?_
  refine ah_cons (as_gfr C dX0_separate_1 fgX0_11) ?_
  refine ah_cons (as_iload_n C dX0_separate_4 rfl) ?_
  refine ah_cons (as_aald C dX0_separate_5 rfl rfl) ?_
  refine ah_cons (as_gfi C dX0_separate_6 fgX0_69) ?_
  refine ah_cons (as_istore_n C dX0_separate_9 rfl (by decide)) ?_
  refine ah_cons (as_aload_n C dX0_separate_10 rfl) ?_
  refine ah_cons (as_iload_n C dX0_separate_11 rfl) ?_
  refine ah_cons (as_vI (ah_t1 (ah_okV (n := 1) C (mX0_has hW f) dX0_separate_12 (ci := 0) rfl wt_1 wt_3 wt_2 wt_4 wt_5 ⟨by decide, by decide, by decide, by decide⟩ ⟨by decide, by decide⟩) ah_t0)) ?_
  refine ah_cons (as_if_eq C dX0_separate_15 (by decide)) ?_
  refine ah_cons (as_aload_n C dX0_separate_18 rfl) ?_
  refine ah_cons (as_gfr C dX0_separate_19 fgX0_11) ?_
  refine ah_cons (as_iload_n C dX0_separate_22 rfl) ?_
  refine ah_cons (as_aald C dX0_separate_23 rfl rfl) ?_
  refine ah_cons (as_iconst C dX0_separate_24 (by decide)) ?_
  refine ah_cons (as_pfi C dX0_separate_25 fpX0_69) ?_
  refine ah_cons (as_aload_n C dX0_separate_28 rfl) ?_
  refine ah_cons (as_gfr C dX0_separate_29 fgX0_11) ?_
  refine ah_cons (as_iload_n C dX0_separate_32 rfl) ?_
  refine ah_cons (as_aald C dX0_separate_33 rfl rfl) ?_
  refine ah_cons (as_iconst C dX0_separate_34 (by decide)) ?_
  refine ah_cons (as_pfi C dX0_separate_35 fpX0_69) ?_
  refine ah_cons (as_vret C rfl dX0_separate_38) ?_
  exact ah_nil
def kX0_newMateOf (f : Nat) : List (Nat × ah_S) := [
  (14, ah_ild 2 15),
  (0, ah_ald 0 1),
  (1, ah_gfr [0] 7 4),
  (4, ah_ild 1 5),
  (5, ah_iald 0 6),
  (6, ah_push (.int (-1)) 7),
  (7, ah_ceq 10 12),
  (10, ah_push (.int (-1)) 11),
  (11, ah_iret),
  (12, ah_push (.int (0)) 13),
  (13, ah_lim 14 [0, 1, 2] (ah_ist 2 14)),
  (15, ah_ald 0 16),
  (16, ah_gfi [0] 2 19),
  (19, ah_clt 22 77),
  (22, ah_ald 0 23),
  (23, ah_gfr [0] 7 26),
  (26, ah_ild 2 27),
  (27, ah_iald 0 28),
  (28, ah_push (.int (-1)) 29),
  (29, ah_ceq 46 32),
  (32, ah_ald 0 33),
  (33, ah_gfr [0] 7 36),
  (36, ah_ild 2 37),
  (37, ah_iald 0 38),
  (38, ah_ild 1 39),
  (39, ah_ceq 46 42),
  (42, ah_push (.int (1)) 43),
  (43, ah_goto 47),
  (46, ah_push (.int (0)) 47),
  (47, ah_ist 3 48),
  (48, ah_ild 3 49),
  (49, ah_zeq 71 52),
  (52, ah_ald 0 53),
  (53, ah_ild 2 54),
  (54, ah_vI [(0, aX0_isPaired f)] 2 57),
  (57, ah_zeq 60 71),
  (60, ah_ald 0 61),
  (61, ah_ild 1 62),
  (62, ah_ild 2 63),
  (63, ah_vI [(0, aX0_mayPair f)] 3 66),
  (66, ah_zeq 71 69),
  (69, ah_ild 2 70),
  (70, ah_iret),
  (71, ah_inc 2 (1) 74),
  (74, ah_lim 14 [0, 1, 2] (ah_goto 14)),
  (77, ah_push (.int (-1)) 78),
  (78, ah_iret)]
def aX0_newMateOf (f : Nat) : ah_F := ah_fun (kX0_newMateOf f) 4 f
set_option maxRecDepth 100000 in
set_option maxHeartbeats 4000000 in
theorem mX0_newMateOf {l : Launch} {s0 : State} {D : va_G} {tc : Nat → ClassId} {ad : Nat → Nat} {A : Nat → Prop} (hW : ah_W0 s0 ad A) (f : Nat) : ah_Met l s0 D tc ad A yX0_newMateOf cX0_newMateOf 4 (some .int) 4 88 (aX0_newMateOf f) := by
  refine ah_met hW.1 (by decide) (fun p e s m args below meth c res C => ?_)
  refine ah_cons (as_iload_n C dX0_newMateOf_14 rfl) ?_
  refine ah_cons (as_aload_n C dX0_newMateOf_0 rfl) ?_
  refine ah_cons (as_gfr C dX0_newMateOf_1 fgX0_40) ?_
  refine ah_cons (as_iload_n C dX0_newMateOf_4 rfl) ?_
  refine ah_cons (as_iald C dX0_newMateOf_5) ?_
  refine ah_cons (as_iconst C dX0_newMateOf_6 (by decide)) ?_
  refine ah_cons (as_icmp_ne C dX0_newMateOf_7 (by decide)) ?_
  refine ah_cons (as_iconst C dX0_newMateOf_10 (by decide)) ?_
  refine ah_cons (as_iret C rfl dX0_newMateOf_11) ?_
  refine ah_cons (as_iconst C dX0_newMateOf_12 (by decide)) ?_
  refine ah_cons (as_lim (as_istore_n C dX0_newMateOf_13 rfl (by decide))) ?_
  refine ah_cons (as_aload_n C dX0_newMateOf_15 rfl) ?_
  refine ah_cons (as_gfi C dX0_newMateOf_16 fgX0_24) ?_
  refine ah_cons (as_icmp_ge C dX0_newMateOf_19 (by decide)) ?_
  refine ah_cons (as_aload_n C dX0_newMateOf_22 rfl) ?_
  refine ah_cons (as_gfr C dX0_newMateOf_23 fgX0_40) ?_
  refine ah_cons (as_iload_n C dX0_newMateOf_26 rfl) ?_
  refine ah_cons (as_iald C dX0_newMateOf_27) ?_
  refine ah_cons (as_iconst C dX0_newMateOf_28 (by decide)) ?_
  refine ah_cons (as_icmp_eq C dX0_newMateOf_29 (by decide)) ?_
  refine ah_cons (as_aload_n C dX0_newMateOf_32 rfl) ?_
  refine ah_cons (as_gfr C dX0_newMateOf_33 fgX0_40) ?_
  refine ah_cons (as_iload_n C dX0_newMateOf_36 rfl) ?_
  refine ah_cons (as_iald C dX0_newMateOf_37) ?_
  refine ah_cons (as_iload_n C dX0_newMateOf_38 rfl) ?_
  refine ah_cons (as_icmp_eq C dX0_newMateOf_39 (by decide)) ?_
  refine ah_cons (as_iconst C dX0_newMateOf_42 (by decide)) ?_
  refine ah_cons (as_goto C dX0_newMateOf_43 (by decide)) ?_
  refine ah_cons (as_iconst C dX0_newMateOf_46 (by decide)) ?_
  refine ah_cons (as_istore_n C dX0_newMateOf_47 rfl (by decide)) ?_
  refine ah_cons (as_iload_n C dX0_newMateOf_48 rfl) ?_
  refine ah_cons (as_if_eq C dX0_newMateOf_49 (by decide)) ?_
  refine ah_cons (as_aload_n C dX0_newMateOf_52 rfl) ?_
  refine ah_cons (as_iload_n C dX0_newMateOf_53 rfl) ?_
  refine ah_cons (as_vI (ah_t1 (ah_okV (n := 1) C (mX0_isPaired hW f) dX0_newMateOf_54 (ci := 0) rfl wt_71 wt_73 wt_72 wt_4 wt_74 ⟨by decide, by decide, by decide, by decide⟩ ⟨by decide, by decide⟩) ah_t0)) ?_
  refine ah_cons (as_if_ne C dX0_newMateOf_57 (by decide)) ?_
  refine ah_cons (as_aload_n C dX0_newMateOf_60 rfl) ?_
  refine ah_cons (as_iload_n C dX0_newMateOf_61 rfl) ?_
  refine ah_cons (as_iload_n C dX0_newMateOf_62 rfl) ?_
  refine ah_cons (as_vI (ah_t1 (ah_okV (n := 2) C (mX0_mayPair hW f) dX0_newMateOf_63 (ci := 0) rfl wt_65 wt_67 wt_66 wt_4 wt_68 ⟨by decide, by decide, by decide, by decide⟩ ⟨by decide, by decide⟩) ah_t0)) ?_
  refine ah_cons (as_if_eq C dX0_newMateOf_66 (by decide)) ?_
  refine ah_cons (as_iload_n C dX0_newMateOf_69 rfl) ?_
  refine ah_cons (as_iret C rfl dX0_newMateOf_70) ?_
  refine ah_cons (as_iinc C dX0_newMateOf_71 (by decide) (by decide)) ?_
  refine ah_cons (as_lim (as_goto C dX0_newMateOf_74 (by decide))) ?_
  refine ah_cons (as_iconst C dX0_newMateOf_77 (by decide)) ?_
  refine ah_cons (as_iret C rfl dX0_newMateOf_78) ?_
  exact ah_nil
def kX0_swapMates (f : Nat) : List (Nat × ah_S) := [
  (2, ah_ild 1 3),
  (43, ah_ild 1 44),
  (0, ah_push (.int (0)) 1),
  (1, ah_lim 2 [0, 1] (ah_ist 1 2)),
  (3, ah_ald 0 4),
  (4, ah_gfi [0] 2 7),
  (7, ah_clt 10 41),
  (10, ah_ald 0 11),
  (11, ah_gfr [0] 7 14),
  (14, ah_ild 1 15),
  (15, ah_ald 0 16),
  (16, ah_gfr [0] 0 19),
  (19, ah_ild 1 20),
  (20, ah_aald 2 21),
  (21, ah_gfi [1, 3, 5, 8, 9] 3 24),
  (24, ah_iast 25),
  (25, ah_ald 0 26),
  (26, ah_gfr [0] 0 29),
  (29, ah_ild 1 30),
  (30, ah_aald 2 31),
  (31, ah_push (.int (-1)) 32),
  (32, ah_pfi [1, 3, 5, 8, 9] 3 35),
  (35, ah_inc 1 (1) 38),
  (38, ah_lim 2 [0, 1] (ah_goto 2)),
  (41, ah_push (.int (0)) 42),
  (42, ah_lim 43 [0, 1] (ah_ist 1 43)),
  (44, ah_ald 0 45),
  (45, ah_gfi [0] 2 48),
  (48, ah_clt 51 86),
  (51, ah_ald 0 52),
  (52, ah_ild 1 53),
  (53, ah_vI [(0, aX0_isPaired f)] 2 56),
  (56, ah_zeq 63 59),
  (59, ah_push (.int (-1)) 60),
  (60, ah_goto 68),
  (63, ah_ald 0 64),
  (64, ah_ild 1 65),
  (65, ah_vI [(0, aX0_newMateOf f)] 2 68),
  (68, ah_ist 2 69),
  (69, ah_ild 2 70),
  (70, ah_push (.int (-1)) 71),
  (71, ah_ceq 80 74),
  (74, ah_ald 0 75),
  (75, ah_ild 1 76),
  (76, ah_ild 2 77),
  (77, ah_vV [(0, aX0_pairUp f)] 3 80),
  (80, ah_inc 1 (1) 83),
  (83, ah_lim 43 [0, 1] (ah_goto 43)),
  (86, ah_vret)]
def aX0_swapMates (f : Nat) : ah_F := ah_fun (kX0_swapMates f) 3 f
set_option maxRecDepth 100000 in
set_option maxHeartbeats 4000000 in
theorem mX0_swapMates {l : Launch} {s0 : State} {D : va_G} {tc : Nat → ClassId} {ad : Nat → Nat} {A : Nat → Prop} (hW : ah_W0 s0 ad A) (f : Nat) : ah_Met l s0 D tc ad A yX0_swapMates cX0_swapMates 3 none 5 111 (aX0_swapMates f) := by
  refine ah_met hW.1 (by decide) (fun p e s m args below meth c res C => ?_)
  refine ah_cons (as_iload_n C dX0_swapMates_2 rfl) ?_
  refine ah_cons (as_iload_n C dX0_swapMates_43 rfl) ?_
  refine ah_cons (as_iconst C dX0_swapMates_0 (by decide)) ?_
  refine ah_cons (as_lim (as_istore_n C dX0_swapMates_1 rfl (by decide))) ?_
  refine ah_cons (as_aload_n C dX0_swapMates_3 rfl) ?_
  refine ah_cons (as_gfi C dX0_swapMates_4 fgX0_24) ?_
  refine ah_cons (as_icmp_ge C dX0_swapMates_7 (by decide)) ?_
  refine ah_cons (as_aload_n C dX0_swapMates_10 rfl) ?_
  refine ah_cons (as_gfr C dX0_swapMates_11 fgX0_40) ?_
  refine ah_cons (as_iload_n C dX0_swapMates_14 rfl) ?_
  refine ah_cons (as_aload_n C dX0_swapMates_15 rfl) ?_
  refine ah_cons (as_gfr C dX0_swapMates_16 fgX0_11) ?_
  refine ah_cons (as_iload_n C dX0_swapMates_19 rfl) ?_
  refine ah_cons (as_aald C dX0_swapMates_20 rfl rfl) ?_
  refine ah_cons (as_gfi C dX0_swapMates_21 fgX0_69) ?_
  refine ah_cons (as_iast C dX0_swapMates_24) ?_
  refine ah_cons (as_aload_n C dX0_swapMates_25 rfl) ?_
  refine ah_cons (as_gfr C dX0_swapMates_26 fgX0_11) ?_
  refine ah_cons (as_iload_n C dX0_swapMates_29 rfl) ?_
  refine ah_cons (as_aald C dX0_swapMates_30 rfl rfl) ?_
  refine ah_cons (as_iconst C dX0_swapMates_31 (by decide)) ?_
  refine ah_cons (as_pfi C dX0_swapMates_32 fpX0_69) ?_
  refine ah_cons (as_iinc C dX0_swapMates_35 (by decide) (by decide)) ?_
  refine ah_cons (as_lim (as_goto C dX0_swapMates_38 (by decide))) ?_
  refine ah_cons (as_iconst C dX0_swapMates_41 (by decide)) ?_
  refine ah_cons (as_lim (as_istore_n C dX0_swapMates_42 rfl (by decide))) ?_
  refine ah_cons (as_aload_n C dX0_swapMates_44 rfl) ?_
  refine ah_cons (as_gfi C dX0_swapMates_45 fgX0_24) ?_
  refine ah_cons (as_icmp_ge C dX0_swapMates_48 (by decide)) ?_
  refine ah_cons (as_aload_n C dX0_swapMates_51 rfl) ?_
  refine ah_cons (as_iload_n C dX0_swapMates_52 rfl) ?_
  refine ah_cons (as_vI (ah_t1 (ah_okV (n := 1) C (mX0_isPaired hW f) dX0_swapMates_53 (ci := 0) rfl wt_71 wt_73 wt_72 wt_4 wt_74 ⟨by decide, by decide, by decide, by decide⟩ ⟨by decide, by decide⟩) ah_t0)) ?_
  refine ah_cons (as_if_eq C dX0_swapMates_56 (by decide)) ?_
  refine ah_cons (as_iconst C dX0_swapMates_59 (by decide)) ?_
  refine ah_cons (as_goto C dX0_swapMates_60 (by decide)) ?_
  refine ah_cons (as_aload_n C dX0_swapMates_63 rfl) ?_
  refine ah_cons (as_iload_n C dX0_swapMates_64 rfl) ?_
  refine ah_cons (as_vI (ah_t1 (ah_okV (n := 1) C (mX0_newMateOf hW f) dX0_swapMates_65 (ci := 0) rfl wt_81 wt_83 wt_82 wt_4 wt_84 ⟨by decide, by decide, by decide, by decide⟩ ⟨by decide, by decide⟩) ah_t0)) ?_
  refine ah_cons (as_istore_n C dX0_swapMates_68 rfl (by decide)) ?_
  refine ah_cons (as_iload_n C dX0_swapMates_69 rfl) ?_
  refine ah_cons (as_iconst C dX0_swapMates_70 (by decide)) ?_
  refine ah_cons (as_icmp_eq C dX0_swapMates_71 (by decide)) ?_
  refine ah_cons (as_aload_n C dX0_swapMates_74 rfl) ?_
  refine ah_cons (as_iload_n C dX0_swapMates_75 rfl) ?_
  refine ah_cons (as_iload_n C dX0_swapMates_76 rfl) ?_
  refine ah_cons (as_vV (ah_t1 (ah_okV (n := 2) C (mX0_pairUp hW f) dX0_swapMates_77 (ci := 0) rfl wt_85 wt_87 wt_86 wt_4 wt_88 ⟨by decide, by decide, by decide, by decide⟩ ⟨by decide, by decide⟩) ah_t0)) ?_
  refine ah_cons (as_iinc C dX0_swapMates_80 (by decide) (by decide)) ?_
  refine ah_cons (as_lim (as_goto C dX0_swapMates_83 (by decide))) ?_
  refine ah_cons (as_vret C rfl dX0_swapMates_86) ?_
  exact ah_nil
def kX0_roundFrom (f : Nat) : List (Nat × ah_S) := [
  (8, ah_ild 4 10),
  (0, ah_push (.int (6)) 2),
  (2, ah_ist 2 3),
  (3, ah_push (.int (-1)) 4),
  (4, ah_ist 3 5),
  (5, ah_push (.int (0)) 6),
  (6, ah_lim 8 [0, 1, 2, 3, 4] (ah_ist 4 8)),
  (10, ah_ald 0 11),
  (11, ah_gfi [0] 2 14),
  (14, ah_clt 17 62),
  (17, ah_ald 0 18),
  (18, ah_ild 4 20),
  (20, ah_vI [(0, aX0_isPaired f)] 2 23),
  (23, ah_zeq 26 56),
  (26, ah_ild 2 27),
  (27, ah_ald 0 28),
  (28, ah_gfr [0] 0 31),
  (31, ah_ild 4 33),
  (33, ah_aald 2 34),
  (34, ah_gfi [1, 3, 5, 8, 9] 2 37),
  (37, ah_min 40),
  (40, ah_ist 2 41),
  (41, ah_ild 3 42),
  (42, ah_ald 0 43),
  (43, ah_gfr [0] 0 46),
  (46, ah_ild 4 48),
  (48, ah_aald 2 49),
  (49, ah_gfi [1, 3, 5, 8, 9] 2 52),
  (52, ah_max 55),
  (55, ah_ist 3 56),
  (56, ah_inc 4 (1) 59),
  (59, ah_lim 8 [0, 1, 2, 3, 4] (ah_goto 8)),
  (62, ah_ild 3 63),
  (63, ah_push (.int (-1)) 64),
  (64, ah_ceq 67 69),
  (67, ah_push (.int (0)) 68),
  (68, ah_iret),
  (69, ah_push (.int (0)) 70),
  (70, ah_ild 1 71),
  (71, ah_ild 2 72),
  (72, ah_bin (fun x y => x - y) 73),
  (73, ah_max 76),
  (76, ah_ist 4 78),
  (78, ah_push (.int (0)) 79),
  (79, ah_ild 3 80),
  (80, ah_ild 1 81),
  (81, ah_bin (fun x y => x - y) 82),
  (82, ah_max 85),
  (85, ah_ist 5 87),
  (87, ah_ild 4 89),
  (89, ah_ild 5 91),
  (91, ah_bin (fun x y => x + y) 92),
  (92, ah_ild 4 94),
  (94, ah_ild 5 96),
  (96, ah_min 99),
  (99, ah_bin (fun x y => x + y) 100),
  (100, ah_iret)]
def aX0_roundFrom (f : Nat) : ah_F := ah_fun (kX0_roundFrom f) 6 f
set_option maxRecDepth 100000 in
set_option maxHeartbeats 4000000 in
theorem mX0_roundFrom {l : Launch} {s0 : State} {D : va_G} {tc : Nat → ClassId} {ad : Nat → Nat} {A : Nat → Prop} (hW : ah_W0 s0 ad A) (f : Nat) : ah_Met l s0 D tc ad A yX0_roundFrom cX0_roundFrom 6 (some .int) 2 42 (aX0_roundFrom f) := by
  refine ah_met hW.1 (by decide) (fun p e s m args below meth c res C => ?_)
  refine ah_cons (as_iload C dX0_roundFrom_8) ?_
  refine ah_cons (as_bipush C dX0_roundFrom_0 (by decide)) ?_
  refine ah_cons (as_istore_n C dX0_roundFrom_2 rfl (by decide)) ?_
  refine ah_cons (as_iconst C dX0_roundFrom_3 (by decide)) ?_
  refine ah_cons (as_istore_n C dX0_roundFrom_4 rfl (by decide)) ?_
  refine ah_cons (as_iconst C dX0_roundFrom_5 (by decide)) ?_
  refine ah_cons (as_lim (as_istore C dX0_roundFrom_6 (by decide))) ?_
  refine ah_cons (as_aload_n C dX0_roundFrom_10 rfl) ?_
  refine ah_cons (as_gfi C dX0_roundFrom_11 fgX0_24) ?_
  refine ah_cons (as_icmp_ge C dX0_roundFrom_14 (by decide)) ?_
  refine ah_cons (as_aload_n C dX0_roundFrom_17 rfl) ?_
  refine ah_cons (as_iload C dX0_roundFrom_18) ?_
  refine ah_cons (as_vI (ah_t1 (ah_okV (n := 1) C (mX0_isPaired hW f) dX0_roundFrom_20 (ci := 0) rfl wt_71 wt_73 wt_72 wt_4 wt_74 ⟨by decide, by decide, by decide, by decide⟩ ⟨by decide, by decide⟩) ah_t0)) ?_
  refine ah_cons (as_if_ne C dX0_roundFrom_23 (by decide)) ?_
  refine ah_cons (as_iload_n C dX0_roundFrom_26 rfl) ?_
  refine ah_cons (as_aload_n C dX0_roundFrom_27 rfl) ?_
  refine ah_cons (as_gfr C dX0_roundFrom_28 fgX0_11) ?_
  refine ah_cons (as_iload C dX0_roundFrom_31) ?_
  refine ah_cons (as_aald C dX0_roundFrom_33 rfl rfl) ?_
  refine ah_cons (as_gfi C dX0_roundFrom_34 fgX0_88) ?_
  refine ah_cons (as_min C dX0_roundFrom_37 wt_89 wt_90 wt_23 wt_91 ⟨by decide, by decide⟩) ?_
  refine ah_cons (as_istore_n C dX0_roundFrom_40 rfl (by decide)) ?_
  refine ah_cons (as_iload_n C dX0_roundFrom_41 rfl) ?_
  refine ah_cons (as_aload_n C dX0_roundFrom_42 rfl) ?_
  refine ah_cons (as_gfr C dX0_roundFrom_43 fgX0_11) ?_
  refine ah_cons (as_iload C dX0_roundFrom_46) ?_
  refine ah_cons (as_aald C dX0_roundFrom_48 rfl rfl) ?_
  refine ah_cons (as_gfi C dX0_roundFrom_49 fgX0_88) ?_
  refine ah_cons (as_max C dX0_roundFrom_52 wt_92 wt_93 wt_23 wt_94 ⟨by decide, by decide⟩) ?_
  refine ah_cons (as_istore_n C dX0_roundFrom_55 rfl (by decide)) ?_
  refine ah_cons (as_iinc C dX0_roundFrom_56 (by decide) (by decide)) ?_
  refine ah_cons (as_lim (as_goto C dX0_roundFrom_59 (by decide))) ?_
  refine ah_cons (as_iload_n C dX0_roundFrom_62 rfl) ?_
  refine ah_cons (as_iconst C dX0_roundFrom_63 (by decide)) ?_
  refine ah_cons (as_icmp_ne C dX0_roundFrom_64 (by decide)) ?_
  refine ah_cons (as_iconst C dX0_roundFrom_67 (by decide)) ?_
  refine ah_cons (as_iret C rfl dX0_roundFrom_68) ?_
  refine ah_cons (as_iconst C dX0_roundFrom_69 (by decide)) ?_
  refine ah_cons (as_iload_n C dX0_roundFrom_70 rfl) ?_
  refine ah_cons (as_iload_n C dX0_roundFrom_71 rfl) ?_
  refine ah_cons (as_isub C dX0_roundFrom_72) ?_
  refine ah_cons (as_max C dX0_roundFrom_73 wt_92 wt_93 wt_23 wt_94 ⟨by decide, by decide⟩) ?_
  refine ah_cons (as_istore C dX0_roundFrom_76 (by decide)) ?_
  refine ah_cons (as_iconst C dX0_roundFrom_78 (by decide)) ?_
  refine ah_cons (as_iload_n C dX0_roundFrom_79 rfl) ?_
  refine ah_cons (as_iload_n C dX0_roundFrom_80 rfl) ?_
  refine ah_cons (as_isub C dX0_roundFrom_81) ?_
  refine ah_cons (as_max C dX0_roundFrom_82 wt_92 wt_93 wt_23 wt_94 ⟨by decide, by decide⟩) ?_
  refine ah_cons (as_istore C dX0_roundFrom_85 (by decide)) ?_
  refine ah_cons (as_iload C dX0_roundFrom_87) ?_
  refine ah_cons (as_iload C dX0_roundFrom_89) ?_
  refine ah_cons (as_iadd C dX0_roundFrom_91) ?_
  refine ah_cons (as_iload C dX0_roundFrom_92) ?_
  refine ah_cons (as_iload C dX0_roundFrom_94) ?_
  refine ah_cons (as_min C dX0_roundFrom_96 wt_89 wt_90 wt_23 wt_91 ⟨by decide, by decide⟩) ?_
  refine ah_cons (as_iadd C dX0_roundFrom_99) ?_
  refine ah_cons (as_iret C rfl dX0_roundFrom_100) ?_
  exact ah_nil
def kX0_pairs (f : Nat) : List (Nat × ah_S) := [
  (4, ah_ild 2 5),
  (0, ah_push (.int (0)) 1),
  (1, ah_ist 1 2),
  (2, ah_push (.int (0)) 3),
  (3, ah_lim 4 [0, 1, 2] (ah_ist 2 4)),
  (5, ah_ald 0 6),
  (6, ah_gfi [0] 2 9),
  (9, ah_clt 12 34),
  (12, ah_ald 0 13),
  (13, ah_gfr [0] 0 16),
  (16, ah_ild 2 17),
  (17, ah_aald 2 18),
  (18, ah_gfi [1, 3, 5, 8, 9] 3 21),
  (21, ah_ild 2 22),
  (22, ah_cgt 25 28),
  (25, ah_inc 1 (1) 28),
  (28, ah_inc 2 (1) 31),
  (31, ah_lim 4 [0, 1, 2] (ah_goto 4)),
  (34, ah_ild 1 35),
  (35, ah_iret)]
def aX0_pairs (f : Nat) : ah_F := ah_fun (kX0_pairs f) 3 f
set_option maxRecDepth 100000 in
set_option maxHeartbeats 4000000 in
theorem mX0_pairs {l : Launch} {s0 : State} {D : va_G} {tc : Nat → ClassId} {ad : Nat → Nat} {A : Nat → Prop} (hW : ah_W0 s0 ad A) (f : Nat) : ah_Met l s0 D tc ad A yX0_pairs cX0_pairs 3 (some .int) 0 0 (aX0_pairs f) := by
  refine ah_met hW.1 (by decide) (fun p e s m args below meth c res C => ?_)
  refine ah_cons (as_iload_n C dX0_pairs_4 rfl) ?_
  refine ah_cons (as_iconst C dX0_pairs_0 (by decide)) ?_
  refine ah_cons (as_istore_n C dX0_pairs_1 rfl (by decide)) ?_
  refine ah_cons (as_iconst C dX0_pairs_2 (by decide)) ?_
  refine ah_cons (as_lim (as_istore_n C dX0_pairs_3 rfl (by decide))) ?_
  refine ah_cons (as_aload_n C dX0_pairs_5 rfl) ?_
  refine ah_cons (as_gfi C dX0_pairs_6 fgX0_24) ?_
  refine ah_cons (as_icmp_ge C dX0_pairs_9 (by decide)) ?_
  refine ah_cons (as_aload_n C dX0_pairs_12 rfl) ?_
  refine ah_cons (as_gfr C dX0_pairs_13 fgX0_11) ?_
  refine ah_cons (as_iload_n C dX0_pairs_16 rfl) ?_
  refine ah_cons (as_aald C dX0_pairs_17 rfl rfl) ?_
  refine ah_cons (as_gfi C dX0_pairs_18 fgX0_69) ?_
  refine ah_cons (as_iload_n C dX0_pairs_21 rfl) ?_
  refine ah_cons (as_icmp_le C dX0_pairs_22 (by decide)) ?_
  refine ah_cons (as_iinc C dX0_pairs_25 (by decide) (by decide)) ?_
  refine ah_cons (as_iinc C dX0_pairs_28 (by decide) (by decide)) ?_
  refine ah_cons (as_lim (as_goto C dX0_pairs_31 (by decide))) ?_
  refine ah_cons (as_iload_n C dX0_pairs_34 rfl) ?_
  refine ah_cons (as_iret C rfl dX0_pairs_35) ?_
  exact ah_nil
def kX0_likenessOfPairs (f : Nat) : List (Nat × ah_S) := [
  (4, ah_ild 2 5),
  (0, ah_push (.int (0)) 1),
  (1, ah_ist 1 2),
  (2, ah_push (.int (0)) 3),
  (3, ah_lim 4 [0, 1, 2] (ah_ist 2 4)),
  (5, ah_ald 0 6),
  (6, ah_gfi [0] 2 9),
  (9, ah_clt 12 50),
  (12, ah_ald 0 13),
  (13, ah_gfr [0] 0 16),
  (16, ah_ild 2 17),
  (17, ah_aald 2 18),
  (18, ah_gfi [1, 3, 5, 8, 9] 3 21),
  (21, ah_ist 3 22),
  (22, ah_ald 0 23),
  (23, ah_ild 3 24),
  (24, ah_vI [(0, aX0_has f)] 2 27),
  (27, ah_zeq 44 30),
  (30, ah_ild 3 31),
  (31, ah_ild 2 32),
  (32, ah_cgt 35 44),
  (35, ah_ild 1 36),
  (36, ah_ald 0 37),
  (37, ah_ild 2 38),
  (38, ah_ild 3 39),
  (39, ah_vI [(0, aX0_likenessOf f)] 3 42),
  (42, ah_bin (fun x y => x + y) 43),
  (43, ah_ist 1 44),
  (44, ah_inc 2 (1) 47),
  (47, ah_lim 4 [0, 1, 2] (ah_goto 4)),
  (50, ah_ild 1 51),
  (51, ah_iret)]
def aX0_likenessOfPairs (f : Nat) : ah_F := ah_fun (kX0_likenessOfPairs f) 4 f
set_option maxRecDepth 100000 in
set_option maxHeartbeats 4000000 in
theorem mX0_likenessOfPairs {l : Launch} {s0 : State} {D : va_G} {tc : Nat → ClassId} {ad : Nat → Nat} {A : Nat → Prop} (hW : ah_W0 s0 ad A) (f : Nat) : ah_Met l s0 D tc ad A yX0_likenessOfPairs cX0_likenessOfPairs 4 (some .int) 3 66 (aX0_likenessOfPairs f) := by
  refine ah_met hW.1 (by decide) (fun p e s m args below meth c res C => ?_)
  refine ah_cons (as_iload_n C dX0_likenessOfPairs_4 rfl) ?_
  refine ah_cons (as_iconst C dX0_likenessOfPairs_0 (by decide)) ?_
  refine ah_cons (as_istore_n C dX0_likenessOfPairs_1 rfl (by decide)) ?_
  refine ah_cons (as_iconst C dX0_likenessOfPairs_2 (by decide)) ?_
  refine ah_cons (as_lim (as_istore_n C dX0_likenessOfPairs_3 rfl (by decide))) ?_
  refine ah_cons (as_aload_n C dX0_likenessOfPairs_5 rfl) ?_
  refine ah_cons (as_gfi C dX0_likenessOfPairs_6 fgX0_24) ?_
  refine ah_cons (as_icmp_ge C dX0_likenessOfPairs_9 (by decide)) ?_
  refine ah_cons (as_aload_n C dX0_likenessOfPairs_12 rfl) ?_
  refine ah_cons (as_gfr C dX0_likenessOfPairs_13 fgX0_11) ?_
  refine ah_cons (as_iload_n C dX0_likenessOfPairs_16 rfl) ?_
  refine ah_cons (as_aald C dX0_likenessOfPairs_17 rfl rfl) ?_
  refine ah_cons (as_gfi C dX0_likenessOfPairs_18 fgX0_69) ?_
  refine ah_cons (as_istore_n C dX0_likenessOfPairs_21 rfl (by decide)) ?_
  refine ah_cons (as_aload_n C dX0_likenessOfPairs_22 rfl) ?_
  refine ah_cons (as_iload_n C dX0_likenessOfPairs_23 rfl) ?_
  refine ah_cons (as_vI (ah_t1 (ah_okV (n := 1) C (mX0_has hW f) dX0_likenessOfPairs_24 (ci := 0) rfl wt_1 wt_3 wt_2 wt_4 wt_5 ⟨by decide, by decide, by decide, by decide⟩ ⟨by decide, by decide⟩) ah_t0)) ?_
  refine ah_cons (as_if_eq C dX0_likenessOfPairs_27 (by decide)) ?_
  refine ah_cons (as_iload_n C dX0_likenessOfPairs_30 rfl) ?_
  refine ah_cons (as_iload_n C dX0_likenessOfPairs_31 rfl) ?_
  refine ah_cons (as_icmp_le C dX0_likenessOfPairs_32 (by decide)) ?_
  refine ah_cons (as_iload_n C dX0_likenessOfPairs_35 rfl) ?_
  refine ah_cons (as_aload_n C dX0_likenessOfPairs_36 rfl) ?_
  refine ah_cons (as_iload_n C dX0_likenessOfPairs_37 rfl) ?_
  refine ah_cons (as_iload_n C dX0_likenessOfPairs_38 rfl) ?_
  refine ah_cons (as_vI (ah_t1 (ah_okV (n := 2) C (mX0_likenessOf hW f) dX0_likenessOfPairs_39 (ci := 0) rfl wt_60 wt_62 wt_61 wt_4 wt_63 ⟨by decide, by decide, by decide, by decide⟩ ⟨by decide, by decide⟩) ah_t0)) ?_
  refine ah_cons (as_iadd C dX0_likenessOfPairs_42) ?_
  refine ah_cons (as_istore_n C dX0_likenessOfPairs_43 rfl (by decide)) ?_
  refine ah_cons (as_iinc C dX0_likenessOfPairs_44 (by decide) (by decide)) ?_
  refine ah_cons (as_lim (as_goto C dX0_likenessOfPairs_47 (by decide))) ?_
  refine ah_cons (as_iload_n C dX0_likenessOfPairs_50 rfl) ?_
  refine ah_cons (as_iret C rfl dX0_likenessOfPairs_51) ?_
  exact ah_nil
def kJ6_bitCount_0f7a4 (f : Nat) : List (Nat × ah_S) := [
  (10, ah_ild 0 11),
  (24, ah_ild 0 25),
  (34, ah_ild 0 35),
  (41, ah_ild 0 42),
  (48, ah_ild 0 49),
  (0, ah_ild 0 1),
  (1, ah_ild 0 2),
  (2, ah_push (.int (1)) 3),
  (3, ah_bin (fun x y => (x.toUInt32 >>> (y.toUInt32 &&& Int32.toUInt32 31)).toInt32) 4),
  (4, ah_push (.int (1431655765)) 7),
  (7, ah_bin (fun x y => x &&& y) 8),
  (8, ah_bin (fun x y => x - y) 9),
  (9, ah_lim 10 [0] (ah_ist 0 10)),
  (11, ah_push (.int (858993459)) 14),
  (14, ah_bin (fun x y => x &&& y) 15),
  (15, ah_ild 0 16),
  (16, ah_push (.int (2)) 17),
  (17, ah_bin (fun x y => (x.toUInt32 >>> (y.toUInt32 &&& Int32.toUInt32 31)).toInt32) 18),
  (18, ah_push (.int (858993459)) 21),
  (21, ah_bin (fun x y => x &&& y) 22),
  (22, ah_bin (fun x y => x + y) 23),
  (23, ah_lim 24 [0] (ah_ist 0 24)),
  (25, ah_ild 0 26),
  (26, ah_push (.int (4)) 27),
  (27, ah_bin (fun x y => (x.toUInt32 >>> (y.toUInt32 &&& Int32.toUInt32 31)).toInt32) 28),
  (28, ah_bin (fun x y => x + y) 29),
  (29, ah_push (.int (252645135)) 32),
  (32, ah_bin (fun x y => x &&& y) 33),
  (33, ah_lim 34 [0] (ah_ist 0 34)),
  (35, ah_ild 0 36),
  (36, ah_push (.int (8)) 38),
  (38, ah_bin (fun x y => (x.toUInt32 >>> (y.toUInt32 &&& Int32.toUInt32 31)).toInt32) 39),
  (39, ah_bin (fun x y => x + y) 40),
  (40, ah_lim 41 [0] (ah_ist 0 41)),
  (42, ah_ild 0 43),
  (43, ah_push (.int (16)) 45),
  (45, ah_bin (fun x y => (x.toUInt32 >>> (y.toUInt32 &&& Int32.toUInt32 31)).toInt32) 46),
  (46, ah_bin (fun x y => x + y) 47),
  (47, ah_lim 48 [0] (ah_ist 0 48)),
  (49, ah_push (.int (63)) 51),
  (51, ah_bin (fun x y => x &&& y) 52),
  (52, ah_iret)]
def aJ6_bitCount_0f7a4 (f : Nat) : ah_F := ah_fun (kJ6_bitCount_0f7a4 f) 1 f
set_option maxRecDepth 100000 in
set_option maxHeartbeats 4000000 in
theorem mJ6_bitCount_0f7a4 {l : Launch} {s0 : State} {D : va_G} {tc : Nat → ClassId} {ad : Nat → Nat} {A : Nat → Prop} (hW : ah_W0 s0 ad A) (f : Nat) : ah_Met l s0 D tc ad A yJ6_bitCount_0f7a4 cJ6_bitCount_0f7a4 1 (some .int) 0 0 (aJ6_bitCount_0f7a4 f) := by
  refine ah_met hW.1 (by decide) (fun p e s m args below meth c res C => ?_)
  refine ah_cons (as_iload_n C dJ6_bitCount_0f7a4_10 rfl) ?_
  refine ah_cons (as_iload_n C dJ6_bitCount_0f7a4_24 rfl) ?_
  refine ah_cons (as_iload_n C dJ6_bitCount_0f7a4_34 rfl) ?_
  refine ah_cons (as_iload_n C dJ6_bitCount_0f7a4_41 rfl) ?_
  refine ah_cons (as_iload_n C dJ6_bitCount_0f7a4_48 rfl) ?_
  refine ah_cons (as_iload_n C dJ6_bitCount_0f7a4_0 rfl) ?_
  refine ah_cons (as_iload_n C dJ6_bitCount_0f7a4_1 rfl) ?_
  refine ah_cons (as_iconst C dJ6_bitCount_0f7a4_2 (by decide)) ?_
  refine ah_cons (as_iushr C dJ6_bitCount_0f7a4_3) ?_
  refine ah_cons (as_ldcw C dJ6_bitCount_0f7a4_4 wt_95) ?_
  refine ah_cons (as_iand C dJ6_bitCount_0f7a4_7) ?_
  refine ah_cons (as_isub C dJ6_bitCount_0f7a4_8) ?_
  refine ah_cons (as_lim (as_istore_n C dJ6_bitCount_0f7a4_9 rfl (by decide))) ?_
  refine ah_cons (as_ldcw C dJ6_bitCount_0f7a4_11 wt_96) ?_
  refine ah_cons (as_iand C dJ6_bitCount_0f7a4_14) ?_
  refine ah_cons (as_iload_n C dJ6_bitCount_0f7a4_15 rfl) ?_
  refine ah_cons (as_iconst C dJ6_bitCount_0f7a4_16 (by decide)) ?_
  refine ah_cons (as_iushr C dJ6_bitCount_0f7a4_17) ?_
  refine ah_cons (as_ldcw C dJ6_bitCount_0f7a4_18 wt_96) ?_
  refine ah_cons (as_iand C dJ6_bitCount_0f7a4_21) ?_
  refine ah_cons (as_iadd C dJ6_bitCount_0f7a4_22) ?_
  refine ah_cons (as_lim (as_istore_n C dJ6_bitCount_0f7a4_23 rfl (by decide))) ?_
  refine ah_cons (as_iload_n C dJ6_bitCount_0f7a4_25 rfl) ?_
  refine ah_cons (as_iconst C dJ6_bitCount_0f7a4_26 (by decide)) ?_
  refine ah_cons (as_iushr C dJ6_bitCount_0f7a4_27) ?_
  refine ah_cons (as_iadd C dJ6_bitCount_0f7a4_28) ?_
  refine ah_cons (as_ldcw C dJ6_bitCount_0f7a4_29 wt_97) ?_
  refine ah_cons (as_iand C dJ6_bitCount_0f7a4_32) ?_
  refine ah_cons (as_lim (as_istore_n C dJ6_bitCount_0f7a4_33 rfl (by decide))) ?_
  refine ah_cons (as_iload_n C dJ6_bitCount_0f7a4_35 rfl) ?_
  refine ah_cons (as_bipush C dJ6_bitCount_0f7a4_36 (by decide)) ?_
  refine ah_cons (as_iushr C dJ6_bitCount_0f7a4_38) ?_
  refine ah_cons (as_iadd C dJ6_bitCount_0f7a4_39) ?_
  refine ah_cons (as_lim (as_istore_n C dJ6_bitCount_0f7a4_40 rfl (by decide))) ?_
  refine ah_cons (as_iload_n C dJ6_bitCount_0f7a4_42 rfl) ?_
  refine ah_cons (as_bipush C dJ6_bitCount_0f7a4_43 (by decide)) ?_
  refine ah_cons (as_iushr C dJ6_bitCount_0f7a4_45) ?_
  refine ah_cons (as_iadd C dJ6_bitCount_0f7a4_46) ?_
  refine ah_cons (as_lim (as_istore_n C dJ6_bitCount_0f7a4_47 rfl (by decide))) ?_
  refine ah_cons (as_bipush C dJ6_bitCount_0f7a4_49 (by decide)) ?_
  refine ah_cons (as_iand C dJ6_bitCount_0f7a4_51) ?_
  refine ah_cons (as_iret C rfl dJ6_bitCount_0f7a4_52) ?_
  exact ah_nil
def kX0_matches (f : Nat) : List (Nat × ah_S) := [
  (4, ah_ild 2 5),
  (0, ah_push (.int (0)) 1),
  (1, ah_ist 1 2),
  (2, ah_push (.int (0)) 3),
  (3, ah_lim 4 [0, 1, 2] (ah_ist 2 4)),
  (5, ah_ald 0 6),
  (6, ah_gfi [0] 2 9),
  (9, ah_clt 12 29),
  (12, ah_ild 1 13),
  (13, ah_ald 0 14),
  (14, ah_ild 2 15),
  (15, ah_vI [(0, aX0_matchesOf f)] 2 18),
  (18, ah_sI (aJ6_bitCount_0f7a4 f) 1 21),
  (21, ah_bin (fun x y => x + y) 22),
  (22, ah_ist 1 23),
  (23, ah_inc 2 (1) 26),
  (26, ah_lim 4 [0, 1, 2] (ah_goto 4)),
  (29, ah_ild 1 30),
  (30, ah_push (.int (2)) 31),
  (31, ah_div 32),
  (32, ah_iret)]
def aX0_matches (f : Nat) : ah_F := ah_fun (kX0_matches f) 3 f
set_option maxRecDepth 100000 in
set_option maxHeartbeats 4000000 in
theorem mX0_matches {l : Launch} {s0 : State} {D : va_G} {tc : Nat → ClassId} {ad : Nat → Nat} {A : Nat → Prop} (hW : ah_W0 s0 ad A) (f : Nat) : ah_Met l s0 D tc ad A yX0_matches cX0_matches 3 (some .int) 5 111 (aX0_matches f) := by
  refine ah_met hW.1 (by decide) (fun p e s m args below meth c res C => ?_)
  refine ah_cons (as_iload_n C dX0_matches_4 rfl) ?_
  refine ah_cons (as_iconst C dX0_matches_0 (by decide)) ?_
  refine ah_cons (as_istore_n C dX0_matches_1 rfl (by decide)) ?_
  refine ah_cons (as_iconst C dX0_matches_2 (by decide)) ?_
  refine ah_cons (as_lim (as_istore_n C dX0_matches_3 rfl (by decide))) ?_
  refine ah_cons (as_aload_n C dX0_matches_5 rfl) ?_
  refine ah_cons (as_gfi C dX0_matches_6 fgX0_24) ?_
  refine ah_cons (as_icmp_ge C dX0_matches_9 (by decide)) ?_
  refine ah_cons (as_iload_n C dX0_matches_12 rfl) ?_
  refine ah_cons (as_aload_n C dX0_matches_13 rfl) ?_
  refine ah_cons (as_iload_n C dX0_matches_14 rfl) ?_
  refine ah_cons (as_vI (ah_t1 (ah_okV (n := 1) C (mX0_matchesOf hW f) dX0_matches_15 (ci := 0) rfl wt_98 wt_100 wt_99 wt_4 wt_101 ⟨by decide, by decide, by decide, by decide⟩ ⟨by decide, by decide⟩) ah_t0)) ?_
  refine ah_cons (as_sI C (mJ6_bitCount_0f7a4 hW f) dX0_matches_18 wt_102 wt_103 wt_104 wt_105 ⟨by decide, by decide, by decide⟩ ⟨by decide, by decide⟩) ?_
  refine ah_cons (as_iadd C dX0_matches_21) ?_
  refine ah_cons (as_istore_n C dX0_matches_22 rfl (by decide)) ?_
  refine ah_cons (as_iinc C dX0_matches_23 (by decide) (by decide)) ?_
  refine ah_cons (as_lim (as_goto C dX0_matches_26 (by decide))) ?_
  refine ah_cons (as_iload_n C dX0_matches_29 rfl) ?_
  refine ah_cons (as_iconst C dX0_matches_30 (by decide)) ?_
  refine ah_cons (as_idiv C dX0_matches_31) ?_
  refine ah_cons (as_iret C rfl dX0_matches_32) ?_
  exact ah_nil
def kX0_matchesAlone (f : Nat) : List (Nat × ah_S) := [
  (4, ah_ild 2 5),
  (16, ah_ild 3 17),
  (0, ah_push (.int (0)) 1),
  (1, ah_ist 1 2),
  (2, ah_push (.int (0)) 3),
  (3, ah_lim 4 [0, 1, 2] (ah_ist 2 4)),
  (5, ah_ald 0 6),
  (6, ah_gfi [0] 2 9),
  (9, ah_clt 12 64),
  (12, ah_ild 2 13),
  (13, ah_push (.int (1)) 14),
  (14, ah_bin (fun x y => x + y) 15),
  (15, ah_lim 16 [0, 1, 2, 3] (ah_ist 3 16)),
  (17, ah_ald 0 18),
  (18, ah_gfi [0] 2 21),
  (21, ah_clt 24 58),
  (24, ah_ald 0 25),
  (25, ah_ild 2 26),
  (26, ah_vI [(0, aX0_isPaired f)] 2 29),
  (29, ah_zeq 32 52),
  (32, ah_ald 0 33),
  (33, ah_ild 3 34),
  (34, ah_vI [(0, aX0_isPaired f)] 2 37),
  (37, ah_zeq 40 52),
  (40, ah_ald 0 41),
  (41, ah_ild 2 42),
  (42, ah_ild 3 43),
  (43, ah_vI [(0, aX0_mayPair f)] 3 46),
  (46, ah_zeq 52 49),
  (49, ah_inc 1 (1) 52),
  (52, ah_inc 3 (1) 55),
  (55, ah_lim 16 [0, 1, 2, 3] (ah_goto 16)),
  (58, ah_inc 2 (1) 61),
  (61, ah_lim 4 [0, 1, 2] (ah_goto 4)),
  (64, ah_ild 1 65),
  (65, ah_iret)]
def aX0_matchesAlone (f : Nat) : ah_F := ah_fun (kX0_matchesAlone f) 4 f
set_option maxRecDepth 100000 in
set_option maxHeartbeats 4000000 in
theorem mX0_matchesAlone {l : Launch} {s0 : State} {D : va_G} {tc : Nat → ClassId} {ad : Nat → Nat} {A : Nat → Prop} (hW : ah_W0 s0 ad A) (f : Nat) : ah_Met l s0 D tc ad A yX0_matchesAlone cX0_matchesAlone 4 (some .int) 4 88 (aX0_matchesAlone f) := by
  refine ah_met hW.1 (by decide) (fun p e s m args below meth c res C => ?_)
  refine ah_cons (as_iload_n C dX0_matchesAlone_4 rfl) ?_
  refine ah_cons (as_iload_n C dX0_matchesAlone_16 rfl) ?_
  refine ah_cons (as_iconst C dX0_matchesAlone_0 (by decide)) ?_
  refine ah_cons (as_istore_n C dX0_matchesAlone_1 rfl (by decide)) ?_
  refine ah_cons (as_iconst C dX0_matchesAlone_2 (by decide)) ?_
  refine ah_cons (as_lim (as_istore_n C dX0_matchesAlone_3 rfl (by decide))) ?_
  refine ah_cons (as_aload_n C dX0_matchesAlone_5 rfl) ?_
  refine ah_cons (as_gfi C dX0_matchesAlone_6 fgX0_24) ?_
  refine ah_cons (as_icmp_ge C dX0_matchesAlone_9 (by decide)) ?_
  refine ah_cons (as_iload_n C dX0_matchesAlone_12 rfl) ?_
  refine ah_cons (as_iconst C dX0_matchesAlone_13 (by decide)) ?_
  refine ah_cons (as_iadd C dX0_matchesAlone_14) ?_
  refine ah_cons (as_lim (as_istore_n C dX0_matchesAlone_15 rfl (by decide))) ?_
  refine ah_cons (as_aload_n C dX0_matchesAlone_17 rfl) ?_
  refine ah_cons (as_gfi C dX0_matchesAlone_18 fgX0_24) ?_
  refine ah_cons (as_icmp_ge C dX0_matchesAlone_21 (by decide)) ?_
  refine ah_cons (as_aload_n C dX0_matchesAlone_24 rfl) ?_
  refine ah_cons (as_iload_n C dX0_matchesAlone_25 rfl) ?_
  refine ah_cons (as_vI (ah_t1 (ah_okV (n := 1) C (mX0_isPaired hW f) dX0_matchesAlone_26 (ci := 0) rfl wt_71 wt_73 wt_72 wt_4 wt_74 ⟨by decide, by decide, by decide, by decide⟩ ⟨by decide, by decide⟩) ah_t0)) ?_
  refine ah_cons (as_if_ne C dX0_matchesAlone_29 (by decide)) ?_
  refine ah_cons (as_aload_n C dX0_matchesAlone_32 rfl) ?_
  refine ah_cons (as_iload_n C dX0_matchesAlone_33 rfl) ?_
  refine ah_cons (as_vI (ah_t1 (ah_okV (n := 1) C (mX0_isPaired hW f) dX0_matchesAlone_34 (ci := 0) rfl wt_71 wt_73 wt_72 wt_4 wt_74 ⟨by decide, by decide, by decide, by decide⟩ ⟨by decide, by decide⟩) ah_t0)) ?_
  refine ah_cons (as_if_ne C dX0_matchesAlone_37 (by decide)) ?_
  refine ah_cons (as_aload_n C dX0_matchesAlone_40 rfl) ?_
  refine ah_cons (as_iload_n C dX0_matchesAlone_41 rfl) ?_
  refine ah_cons (as_iload_n C dX0_matchesAlone_42 rfl) ?_
  refine ah_cons (as_vI (ah_t1 (ah_okV (n := 2) C (mX0_mayPair hW f) dX0_matchesAlone_43 (ci := 0) rfl wt_65 wt_67 wt_66 wt_4 wt_68 ⟨by decide, by decide, by decide, by decide⟩ ⟨by decide, by decide⟩) ah_t0)) ?_
  refine ah_cons (as_if_eq C dX0_matchesAlone_46 (by decide)) ?_
  refine ah_cons (as_iinc C dX0_matchesAlone_49 (by decide) (by decide)) ?_
  refine ah_cons (as_iinc C dX0_matchesAlone_52 (by decide) (by decide)) ?_
  refine ah_cons (as_lim (as_goto C dX0_matchesAlone_55 (by decide))) ?_
  refine ah_cons (as_iinc C dX0_matchesAlone_58 (by decide) (by decide)) ?_
  refine ah_cons (as_lim (as_goto C dX0_matchesAlone_61 (by decide))) ?_
  refine ah_cons (as_iload_n C dX0_matchesAlone_64 rfl) ?_
  refine ah_cons (as_iret C rfl dX0_matchesAlone_65) ?_
  exact ah_nil
def kX0_alone (f : Nat) : List (Nat × ah_S) := [
  (4, ah_ild 3 5),
  (0, ah_push (.int (0)) 1),
  (1, ah_ist 2 2),
  (2, ah_push (.int (0)) 3),
  (3, ah_lim 4 [0, 1, 2, 3] (ah_ist 3 4)),
  (5, ah_ald 0 6),
  (6, ah_gfi [0] 2 9),
  (9, ah_clt 12 42),
  (12, ah_ald 0 13),
  (13, ah_ild 3 14),
  (14, ah_vI [(0, aX0_isPaired f)] 2 17),
  (17, ah_zeq 20 36),
  (20, ah_ald 0 21),
  (21, ah_gfr [0] 0 24),
  (24, ah_ild 3 25),
  (25, ah_aald 2 26),
  (26, ah_gfi [1, 3, 5, 8, 9] 0 29),
  (29, ah_ild 1 30),
  (30, ah_ceq 33 36),
  (33, ah_inc 2 (1) 36),
  (36, ah_inc 3 (1) 39),
  (39, ah_lim 4 [0, 1, 2, 3] (ah_goto 4)),
  (42, ah_ild 2 43),
  (43, ah_iret)]
def aX0_alone (f : Nat) : ah_F := ah_fun (kX0_alone f) 4 f
set_option maxRecDepth 100000 in
set_option maxHeartbeats 4000000 in
theorem mX0_alone {l : Launch} {s0 : State} {D : va_G} {tc : Nat → ClassId} {ad : Nat → Nat} {A : Nat → Prop} (hW : ah_W0 s0 ad A) (f : Nat) : ah_Met l s0 D tc ad A yX0_alone cX0_alone 4 (some .int) 2 42 (aX0_alone f) := by
  refine ah_met hW.1 (by decide) (fun p e s m args below meth c res C => ?_)
  refine ah_cons (as_iload_n C dX0_alone_4 rfl) ?_
  refine ah_cons (as_iconst C dX0_alone_0 (by decide)) ?_
  refine ah_cons (as_istore_n C dX0_alone_1 rfl (by decide)) ?_
  refine ah_cons (as_iconst C dX0_alone_2 (by decide)) ?_
  refine ah_cons (as_lim (as_istore_n C dX0_alone_3 rfl (by decide))) ?_
  refine ah_cons (as_aload_n C dX0_alone_5 rfl) ?_
  refine ah_cons (as_gfi C dX0_alone_6 fgX0_24) ?_
  refine ah_cons (as_icmp_ge C dX0_alone_9 (by decide)) ?_
  refine ah_cons (as_aload_n C dX0_alone_12 rfl) ?_
  refine ah_cons (as_iload_n C dX0_alone_13 rfl) ?_
  refine ah_cons (as_vI (ah_t1 (ah_okV (n := 1) C (mX0_isPaired hW f) dX0_alone_14 (ci := 0) rfl wt_71 wt_73 wt_72 wt_4 wt_74 ⟨by decide, by decide, by decide, by decide⟩ ⟨by decide, by decide⟩) ah_t0)) ?_
  refine ah_cons (as_if_ne C dX0_alone_17 (by decide)) ?_
  refine ah_cons (as_aload_n C dX0_alone_20 rfl) ?_
  refine ah_cons (as_gfr C dX0_alone_21 fgX0_11) ?_
  refine ah_cons (as_iload_n C dX0_alone_24 rfl) ?_
  refine ah_cons (as_aald C dX0_alone_25 rfl rfl) ?_
  refine ah_cons (as_gfi C dX0_alone_26 fgX0_122) ?_
  refine ah_cons (as_iload_n C dX0_alone_29 rfl) ?_
  refine ah_cons (as_icmp_ne C dX0_alone_30 (by decide)) ?_
  refine ah_cons (as_iinc C dX0_alone_33 (by decide) (by decide)) ?_
  refine ah_cons (as_iinc C dX0_alone_36 (by decide) (by decide)) ?_
  refine ah_cons (as_lim (as_goto C dX0_alone_39 (by decide))) ?_
  refine ah_cons (as_iload_n C dX0_alone_42 rfl) ?_
  refine ah_cons (as_iret C rfl dX0_alone_43) ?_
  exact ah_nil
def kX0_twosAlone (f : Nat) : List (Nat × ah_S) := [
  (0, ah_ald 0 1),
  (1, ah_push (.int (0)) 2),
  (2, ah_vI [(0, aX0_alone f)] 2 5),
  (5, ah_ald 0 6),
  (6, ah_push (.int (1)) 7),
  (7, ah_vI [(0, aX0_alone f)] 2 10),
  (10, ah_bin (fun x y => x + y) 11),
  (11, ah_ist 1 12),
  (12, ah_ild 1 13),
  (13, ah_ild 1 14),
  (14, ah_push (.int (1)) 15),
  (15, ah_bin (fun x y => x - y) 16),
  (16, ah_bin (fun x y => x * y) 17),
  (17, ah_push (.int (2)) 18),
  (18, ah_div 19),
  (19, ah_iret)]
def aX0_twosAlone (f : Nat) : ah_F := ah_fun (kX0_twosAlone f) 2 f
set_option maxRecDepth 100000 in
set_option maxHeartbeats 4000000 in
theorem mX0_twosAlone {l : Launch} {s0 : State} {D : va_G} {tc : Nat → ClassId} {ad : Nat → Nat} {A : Nat → Prop} (hW : ah_W0 s0 ad A) (f : Nat) : ah_Met l s0 D tc ad A yX0_twosAlone cX0_twosAlone 2 (some .int) 3 65 (aX0_twosAlone f) := by
  refine ah_met hW.1 (by decide) (fun p e s m args below meth c res C => ?_)
  refine ah_cons (as_aload_n C dX0_twosAlone_0 rfl) ?_
  refine ah_cons (as_iconst C dX0_twosAlone_1 (by decide)) ?_
  refine ah_cons (as_vI (ah_t1 (ah_okV (n := 1) C (mX0_alone hW f) dX0_twosAlone_2 (ci := 0) rfl wt_107 wt_109 wt_108 wt_4 wt_110 ⟨by decide, by decide, by decide, by decide⟩ ⟨by decide, by decide⟩) ah_t0)) ?_
  refine ah_cons (as_aload_n C dX0_twosAlone_5 rfl) ?_
  refine ah_cons (as_iconst C dX0_twosAlone_6 (by decide)) ?_
  refine ah_cons (as_vI (ah_t1 (ah_okV (n := 1) C (mX0_alone hW f) dX0_twosAlone_7 (ci := 0) rfl wt_107 wt_109 wt_108 wt_4 wt_110 ⟨by decide, by decide, by decide, by decide⟩ ⟨by decide, by decide⟩) ah_t0)) ?_
  refine ah_cons (as_iadd C dX0_twosAlone_10) ?_
  refine ah_cons (as_istore_n C dX0_twosAlone_11 rfl (by decide)) ?_
  refine ah_cons (as_iload_n C dX0_twosAlone_12 rfl) ?_
  refine ah_cons (as_iload_n C dX0_twosAlone_13 rfl) ?_
  refine ah_cons (as_iconst C dX0_twosAlone_14 (by decide)) ?_
  refine ah_cons (as_isub C dX0_twosAlone_15) ?_
  refine ah_cons (as_imul C dX0_twosAlone_16) ?_
  refine ah_cons (as_iconst C dX0_twosAlone_17 (by decide)) ?_
  refine ah_cons (as_idiv C dX0_twosAlone_18) ?_
  refine ah_cons (as_iret C rfl dX0_twosAlone_19) ?_
  exact ah_nil
def kX1_kindNumber (f : Nat) : List (Nat × ah_S) := [
  (0, ah_push (.int (1)) 1),
  (1, ah_iret)]
def aX1_kindNumber (f : Nat) : ah_F := ah_fun (kX1_kindNumber f) 1 f
set_option maxRecDepth 100000 in
set_option maxHeartbeats 4000000 in
theorem mX1_kindNumber {l : Launch} {s0 : State} {D : va_G} {tc : Nat → ClassId} {ad : Nat → Nat} {A : Nat → Prop} (hW : ah_W0 s0 ad A) (f : Nat) : ah_Met l s0 D tc ad A yX1_kindNumber cX1_kindNumber 1 (some .int) 0 0 (aX1_kindNumber f) := by
  refine ah_met hW.1 (by decide) (fun p e s m args below meth c res C => ?_)
  refine ah_cons (as_iconst C dX1_kindNumber_0 (by decide)) ?_
  refine ah_cons (as_iret C rfl dX1_kindNumber_1) ?_
  exact ah_nil
def kX7_copyFrom (f : Nat) : List (Nat × ah_S) := [
  (10, ah_ild 2 11),
  (0, ah_ald 0 1),
  (1, ah_ald 1 2),
  (2, ah_gfi [7] 0 5),
  (5, ah_pfi [7] 0 8),
  (8, ah_push (.int (0)) 9),
  (9, ah_lim 10 [0, 1, 2] (ah_ist 2 10)),
  (11, ah_ald 0 12),
  (12, ah_gfi [7] 0 15),
  (15, ah_clt 18 60),
  (18, ah_ald 0 19),
  (19, ah_gfr [7] 1 22),
  (22, ah_ild 2 23),
  (23, ah_ald 1 24),
  (24, ah_gfr [7] 1 27),
  (27, ah_ild 2 28),
  (28, ah_iald 0 29),
  (29, ah_iast 30),
  (30, ah_ald 0 31),
  (31, ah_gfr [7] 2 34),
  (34, ah_ild 2 35),
  (35, ah_ald 1 36),
  (36, ah_gfr [7] 2 39),
  (39, ah_ild 2 40),
  (40, ah_iald 0 41),
  (41, ah_iast 42),
  (42, ah_ald 0 43),
  (43, ah_gfr [7] 3 46),
  (46, ah_ild 2 47),
  (47, ah_ald 1 48),
  (48, ah_gfr [7] 3 51),
  (51, ah_ild 2 52),
  (52, ah_iald 0 53),
  (53, ah_iast 54),
  (54, ah_inc 2 (1) 57),
  (57, ah_lim 10 [0, 1, 2] (ah_goto 10)),
  (60, ah_vret)]
def aX7_copyFrom (f : Nat) : ah_F := ah_fun (kX7_copyFrom f) 3 f
set_option maxRecDepth 100000 in
set_option maxHeartbeats 4000000 in
theorem mX7_copyFrom {l : Launch} {s0 : State} {D : va_G} {tc : Nat → ClassId} {ad : Nat → Nat} {A : Nat → Prop} (hW : ah_W0 s0 ad A) (f : Nat) : ah_Met l s0 D tc ad A yX7_copyFrom cX7_copyFrom 3 none 0 0 (aX7_copyFrom f) := by
  refine ah_met hW.1 (by decide) (fun p e s m args below meth c res C => ?_)
  refine ah_cons (as_iload_n C dX7_copyFrom_10 rfl) ?_
  refine ah_cons (as_aload_n C dX7_copyFrom_0 rfl) ?_
  refine ah_cons (as_aload_n C dX7_copyFrom_1 rfl) ?_
  refine ah_cons (as_gfi C dX7_copyFrom_2 fgX7_9) ?_
  refine ah_cons (as_pfi C dX7_copyFrom_5 fpX7_9) ?_
  refine ah_cons (as_iconst C dX7_copyFrom_8 (by decide)) ?_
  refine ah_cons (as_lim (as_istore_n C dX7_copyFrom_9 rfl (by decide))) ?_
  refine ah_cons (as_aload_n C dX7_copyFrom_11 rfl) ?_
  refine ah_cons (as_gfi C dX7_copyFrom_12 fgX7_9) ?_
  refine ah_cons (as_icmp_ge C dX7_copyFrom_15 (by decide)) ?_
  refine ah_cons (as_aload_n C dX7_copyFrom_18 rfl) ?_
  refine ah_cons (as_gfr C dX7_copyFrom_19 fgX7_15) ?_
  refine ah_cons (as_iload_n C dX7_copyFrom_22 rfl) ?_
  refine ah_cons (as_aload_n C dX7_copyFrom_23 rfl) ?_
  refine ah_cons (as_gfr C dX7_copyFrom_24 fgX7_15) ?_
  refine ah_cons (as_iload_n C dX7_copyFrom_27 rfl) ?_
  refine ah_cons (as_iald C dX7_copyFrom_28) ?_
  refine ah_cons (as_iast C dX7_copyFrom_29) ?_
  refine ah_cons (as_aload_n C dX7_copyFrom_30 rfl) ?_
  refine ah_cons (as_gfr C dX7_copyFrom_31 fgX7_19) ?_
  refine ah_cons (as_iload_n C dX7_copyFrom_34 rfl) ?_
  refine ah_cons (as_aload_n C dX7_copyFrom_35 rfl) ?_
  refine ah_cons (as_gfr C dX7_copyFrom_36 fgX7_19) ?_
  refine ah_cons (as_iload_n C dX7_copyFrom_39 rfl) ?_
  refine ah_cons (as_iald C dX7_copyFrom_40) ?_
  refine ah_cons (as_iast C dX7_copyFrom_41) ?_
  refine ah_cons (as_aload_n C dX7_copyFrom_42 rfl) ?_
  refine ah_cons (as_gfr C dX7_copyFrom_43 fgX7_22) ?_
  refine ah_cons (as_iload_n C dX7_copyFrom_46 rfl) ?_
  refine ah_cons (as_aload_n C dX7_copyFrom_47 rfl) ?_
  refine ah_cons (as_gfr C dX7_copyFrom_48 fgX7_22) ?_
  refine ah_cons (as_iload_n C dX7_copyFrom_51 rfl) ?_
  refine ah_cons (as_iald C dX7_copyFrom_52) ?_
  refine ah_cons (as_iast C dX7_copyFrom_53) ?_
  refine ah_cons (as_iinc C dX7_copyFrom_54 (by decide) (by decide)) ?_
  refine ah_cons (as_lim (as_goto C dX7_copyFrom_57 (by decide))) ?_
  refine ah_cons (as_vret C rfl dX7_copyFrom_60) ?_
  exact ah_nil
def kX2_keep (f : Nat) : List (Nat × ah_S) := [
  (2, ah_ild 2 3),
  (0, ah_push (.int (0)) 1),
  (1, ah_lim 2 [0, 1, 2] (ah_ist 2 2)),
  (3, ah_ald 1 4),
  (4, ah_gfi [0] 2 7),
  (7, ah_clt 10 61),
  (10, ah_ald 0 11),
  (11, ah_gfr [2] 1 14),
  (14, ah_ild 2 15),
  (15, ah_ald 1 16),
  (16, ah_gfr [0] 0 19),
  (19, ah_ild 2 20),
  (20, ah_aald 2 21),
  (21, ah_gfi [1, 3, 5, 8, 9] 1 24),
  (24, ah_iast 25),
  (25, ah_ald 0 26),
  (26, ah_gfr [2] 2 29),
  (29, ah_ild 2 30),
  (30, ah_ald 1 31),
  (31, ah_gfr [0] 0 34),
  (34, ah_ild 2 35),
  (35, ah_aald 2 36),
  (36, ah_gfi [1, 3, 5, 8, 9] 2 39),
  (39, ah_iast 40),
  (40, ah_ald 0 41),
  (41, ah_gfr [2] 3 44),
  (44, ah_ild 2 45),
  (45, ah_ald 1 46),
  (46, ah_gfr [0] 0 49),
  (49, ah_ild 2 50),
  (50, ah_aald 2 51),
  (51, ah_gfi [1, 3, 5, 8, 9] 3 54),
  (54, ah_iast 55),
  (55, ah_inc 2 (1) 58),
  (58, ah_lim 2 [0, 1, 2] (ah_goto 2)),
  (61, ah_ald 0 62),
  (62, ah_gfr [2] 4 65),
  (65, ah_ald 1 66),
  (66, ah_gfr [0] 1 69),
  (69, ah_vV [(7, aX7_copyFrom f)] 2 72),
  (72, ah_ald 0 73),
  (73, ah_ald 1 74),
  (74, ah_gfi [0] 3 77),
  (77, ah_pfi [2] 5 80),
  (80, ah_ald 0 81),
  (81, ah_ald 1 82),
  (82, ah_gfi [0] 4 85),
  (85, ah_pfi [2] 6 88),
  (88, ah_ald 0 89),
  (89, ah_ald 1 90),
  (90, ah_gfi [0] 5 93),
  (93, ah_pfi [2] 7 96),
  (96, ah_ald 0 97),
  (97, ah_ald 1 98),
  (98, ah_gfi [0] 6 101),
  (101, ah_pfi [2] 8 104),
  (104, ah_ald 0 105),
  (105, ah_push (.int (1)) 106),
  (106, ah_pfz [2] 0 109),
  (109, ah_vret)]
def aX2_keep (f : Nat) : ah_F := ah_fun (kX2_keep f) 3 f
set_option maxRecDepth 100000 in
set_option maxHeartbeats 4000000 in
theorem mX2_keep {l : Launch} {s0 : State} {D : va_G} {tc : Nat → ClassId} {ad : Nat → Nat} {A : Nat → Prop} (hW : ah_W0 s0 ad A) (f : Nat) : ah_Met l s0 D tc ad A yX2_keep cX2_keep 3 none 1 22 (aX2_keep f) := by
  refine ah_met hW.1 (by decide) (fun p e s m args below meth c res C => ?_)
  refine ah_cons (as_iload_n C dX2_keep_2 rfl) ?_
  refine ah_cons (as_iconst C dX2_keep_0 (by decide)) ?_
  refine ah_cons (as_lim (as_istore_n C dX2_keep_1 rfl (by decide))) ?_
  refine ah_cons (as_aload_n C dX2_keep_3 rfl) ?_
  refine ah_cons (as_gfi C dX2_keep_4 fgX2_45) ?_
  refine ah_cons (as_icmp_ge C dX2_keep_7 (by decide)) ?_
  refine ah_cons (as_aload_n C dX2_keep_10 rfl) ?_
  refine ah_cons (as_gfr C dX2_keep_11 fgX2_15) ?_
  refine ah_cons (as_iload_n C dX2_keep_14 rfl) ?_
  refine ah_cons (as_aload_n C dX2_keep_15 rfl) ?_
  refine ah_cons (as_gfr C dX2_keep_16 fgX2_50) ?_
  refine ah_cons (as_iload_n C dX2_keep_19 rfl) ?_
  refine ah_cons (as_aald C dX2_keep_20 rfl rfl) ?_
  refine ah_cons (as_gfi C dX2_keep_21 fgX2_54) ?_
  refine ah_cons (as_iast C dX2_keep_24) ?_
  refine ah_cons (as_aload_n C dX2_keep_25 rfl) ?_
  refine ah_cons (as_gfr C dX2_keep_26 fgX2_19) ?_
  refine ah_cons (as_iload_n C dX2_keep_29 rfl) ?_
  refine ah_cons (as_aload_n C dX2_keep_30 rfl) ?_
  refine ah_cons (as_gfr C dX2_keep_31 fgX2_50) ?_
  refine ah_cons (as_iload_n C dX2_keep_34 rfl) ?_
  refine ah_cons (as_aald C dX2_keep_35 rfl rfl) ?_
  refine ah_cons (as_gfi C dX2_keep_36 fgX2_57) ?_
  refine ah_cons (as_iast C dX2_keep_39) ?_
  refine ah_cons (as_aload_n C dX2_keep_40 rfl) ?_
  refine ah_cons (as_gfr C dX2_keep_41 fgX2_22) ?_
  refine ah_cons (as_iload_n C dX2_keep_44 rfl) ?_
  refine ah_cons (as_aload_n C dX2_keep_45 rfl) ?_
  refine ah_cons (as_gfr C dX2_keep_46 fgX2_50) ?_
  refine ah_cons (as_iload_n C dX2_keep_49 rfl) ?_
  refine ah_cons (as_aald C dX2_keep_50 rfl rfl) ?_
  refine ah_cons (as_gfi C dX2_keep_51 fgX2_60) ?_
  refine ah_cons (as_iast C dX2_keep_54) ?_
  refine ah_cons (as_iinc C dX2_keep_55 (by decide) (by decide)) ?_
  refine ah_cons (as_lim (as_goto C dX2_keep_58 (by decide))) ?_
  refine ah_cons (as_aload_n C dX2_keep_61 rfl) ?_
  refine ah_cons (as_gfr C dX2_keep_62 fgX2_28) ?_
  refine ah_cons (as_aload_n C dX2_keep_65 rfl) ?_
  refine ah_cons (as_gfr C dX2_keep_66 fgX2_63) ?_
  refine ah_cons (as_vV (ah_t1 (ah_okV (n := 1) C (mX7_copyFrom hW f) dX2_keep_69 (ci := 7) rfl wt_125 wt_127 wt_126 wt_128 wt_129 ⟨by decide, by decide, by decide, by decide⟩ ⟨by decide, by decide⟩) ah_t0)) ?_
  refine ah_cons (as_aload_n C dX2_keep_72 rfl) ?_
  refine ah_cons (as_aload_n C dX2_keep_73 rfl) ?_
  refine ah_cons (as_gfi C dX2_keep_74 fgX2_68) ?_
  refine ah_cons (as_pfi C dX2_keep_77 fpX2_32) ?_
  refine ah_cons (as_aload_n C dX2_keep_80 rfl) ?_
  refine ah_cons (as_aload_n C dX2_keep_81 rfl) ?_
  refine ah_cons (as_gfi C dX2_keep_82 fgX2_69) ?_
  refine ah_cons (as_pfi C dX2_keep_85 fpX2_36) ?_
  refine ah_cons (as_aload_n C dX2_keep_88 rfl) ?_
  refine ah_cons (as_aload_n C dX2_keep_89 rfl) ?_
  refine ah_cons (as_gfi C dX2_keep_90 fgX2_70) ?_
  refine ah_cons (as_pfi C dX2_keep_93 fpX2_39) ?_
  refine ah_cons (as_aload_n C dX2_keep_96 rfl) ?_
  refine ah_cons (as_aload_n C dX2_keep_97 rfl) ?_
  refine ah_cons (as_gfi C dX2_keep_98 fgX2_71) ?_
  refine ah_cons (as_pfi C dX2_keep_101 fpX2_42) ?_
  refine ah_cons (as_aload_n C dX2_keep_104 rfl) ?_
  refine ah_cons (as_iconst C dX2_keep_105 (by decide)) ?_
  refine ah_cons (as_pfz C dX2_keep_106 fpX2_9) ?_
  refine ah_cons (as_vret C rfl dX2_keep_109) ?_
  exact ah_nil
def kX2_giveBack (f : Nat) : List (Nat × ah_S) := [
  (2, ah_ild 2 3),
  (0, ah_push (.int (0)) 1),
  (1, ah_lim 2 [0, 1, 2] (ah_ist 2 2)),
  (3, ah_ald 1 4),
  (4, ah_gfi [0] 2 7),
  (7, ah_clt 10 61),
  (10, ah_ald 1 11),
  (11, ah_gfr [0] 0 14),
  (14, ah_ild 2 15),
  (15, ah_aald 2 16),
  (16, ah_ald 0 17),
  (17, ah_gfr [2] 1 20),
  (20, ah_ild 2 21),
  (21, ah_iald 0 22),
  (22, ah_pfi [1, 3, 5, 8, 9] 1 25),
  (25, ah_ald 1 26),
  (26, ah_gfr [0] 0 29),
  (29, ah_ild 2 30),
  (30, ah_aald 2 31),
  (31, ah_ald 0 32),
  (32, ah_gfr [2] 2 35),
  (35, ah_ild 2 36),
  (36, ah_iald 0 37),
  (37, ah_pfi [1, 3, 5, 8, 9] 2 40),
  (40, ah_ald 1 41),
  (41, ah_gfr [0] 0 44),
  (44, ah_ild 2 45),
  (45, ah_aald 2 46),
  (46, ah_ald 0 47),
  (47, ah_gfr [2] 3 50),
  (50, ah_ild 2 51),
  (51, ah_iald 0 52),
  (52, ah_pfi [1, 3, 5, 8, 9] 3 55),
  (55, ah_inc 2 (1) 58),
  (58, ah_lim 2 [0, 1, 2] (ah_goto 2)),
  (61, ah_ald 1 62),
  (62, ah_gfr [0] 1 65),
  (65, ah_ald 0 66),
  (66, ah_gfr [2] 4 69),
  (69, ah_vV [(7, aX7_copyFrom f)] 2 72),
  (72, ah_ald 1 73),
  (73, ah_ald 0 74),
  (74, ah_gfi [2] 5 77),
  (77, ah_pfi [0] 3 80),
  (80, ah_ald 1 81),
  (81, ah_ald 0 82),
  (82, ah_gfi [2] 6 85),
  (85, ah_pfi [0] 4 88),
  (88, ah_ald 1 89),
  (89, ah_ald 0 90),
  (90, ah_gfi [2] 7 93),
  (93, ah_pfi [0] 5 96),
  (96, ah_ald 1 97),
  (97, ah_ald 0 98),
  (98, ah_gfi [2] 8 101),
  (101, ah_pfi [0] 6 104),
  (104, ah_vret)]
def aX2_giveBack (f : Nat) : ah_F := ah_fun (kX2_giveBack f) 3 f
set_option maxRecDepth 100000 in
set_option maxHeartbeats 4000000 in
theorem mX2_giveBack {l : Launch} {s0 : State} {D : va_G} {tc : Nat → ClassId} {ad : Nat → Nat} {A : Nat → Prop} (hW : ah_W0 s0 ad A) (f : Nat) : ah_Met l s0 D tc ad A yX2_giveBack cX2_giveBack 3 none 1 22 (aX2_giveBack f) := by
  refine ah_met hW.1 (by decide) (fun p e s m args below meth c res C => ?_)
  refine ah_cons (as_iload_n C dX2_giveBack_2 rfl) ?_
  refine ah_cons (as_iconst C dX2_giveBack_0 (by decide)) ?_
  refine ah_cons (as_lim (as_istore_n C dX2_giveBack_1 rfl (by decide))) ?_
  refine ah_cons (as_aload_n C dX2_giveBack_3 rfl) ?_
  refine ah_cons (as_gfi C dX2_giveBack_4 fgX2_45) ?_
  refine ah_cons (as_icmp_ge C dX2_giveBack_7 (by decide)) ?_
  refine ah_cons (as_aload_n C dX2_giveBack_10 rfl) ?_
  refine ah_cons (as_gfr C dX2_giveBack_11 fgX2_50) ?_
  refine ah_cons (as_iload_n C dX2_giveBack_14 rfl) ?_
  refine ah_cons (as_aald C dX2_giveBack_15 rfl rfl) ?_
  refine ah_cons (as_aload_n C dX2_giveBack_16 rfl) ?_
  refine ah_cons (as_gfr C dX2_giveBack_17 fgX2_15) ?_
  refine ah_cons (as_iload_n C dX2_giveBack_20 rfl) ?_
  refine ah_cons (as_iald C dX2_giveBack_21) ?_
  refine ah_cons (as_pfi C dX2_giveBack_22 fpX2_54) ?_
  refine ah_cons (as_aload_n C dX2_giveBack_25 rfl) ?_
  refine ah_cons (as_gfr C dX2_giveBack_26 fgX2_50) ?_
  refine ah_cons (as_iload_n C dX2_giveBack_29 rfl) ?_
  refine ah_cons (as_aald C dX2_giveBack_30 rfl rfl) ?_
  refine ah_cons (as_aload_n C dX2_giveBack_31 rfl) ?_
  refine ah_cons (as_gfr C dX2_giveBack_32 fgX2_19) ?_
  refine ah_cons (as_iload_n C dX2_giveBack_35 rfl) ?_
  refine ah_cons (as_iald C dX2_giveBack_36) ?_
  refine ah_cons (as_pfi C dX2_giveBack_37 fpX2_57) ?_
  refine ah_cons (as_aload_n C dX2_giveBack_40 rfl) ?_
  refine ah_cons (as_gfr C dX2_giveBack_41 fgX2_50) ?_
  refine ah_cons (as_iload_n C dX2_giveBack_44 rfl) ?_
  refine ah_cons (as_aald C dX2_giveBack_45 rfl rfl) ?_
  refine ah_cons (as_aload_n C dX2_giveBack_46 rfl) ?_
  refine ah_cons (as_gfr C dX2_giveBack_47 fgX2_22) ?_
  refine ah_cons (as_iload_n C dX2_giveBack_50 rfl) ?_
  refine ah_cons (as_iald C dX2_giveBack_51) ?_
  refine ah_cons (as_pfi C dX2_giveBack_52 fpX2_60) ?_
  refine ah_cons (as_iinc C dX2_giveBack_55 (by decide) (by decide)) ?_
  refine ah_cons (as_lim (as_goto C dX2_giveBack_58 (by decide))) ?_
  refine ah_cons (as_aload_n C dX2_giveBack_61 rfl) ?_
  refine ah_cons (as_gfr C dX2_giveBack_62 fgX2_63) ?_
  refine ah_cons (as_aload_n C dX2_giveBack_65 rfl) ?_
  refine ah_cons (as_gfr C dX2_giveBack_66 fgX2_28) ?_
  refine ah_cons (as_vV (ah_t1 (ah_okV (n := 1) C (mX7_copyFrom hW f) dX2_giveBack_69 (ci := 7) rfl wt_125 wt_127 wt_126 wt_128 wt_129 ⟨by decide, by decide, by decide, by decide⟩ ⟨by decide, by decide⟩) ah_t0)) ?_
  refine ah_cons (as_aload_n C dX2_giveBack_72 rfl) ?_
  refine ah_cons (as_aload_n C dX2_giveBack_73 rfl) ?_
  refine ah_cons (as_gfi C dX2_giveBack_74 fgX2_32) ?_
  refine ah_cons (as_pfi C dX2_giveBack_77 fpX2_68) ?_
  refine ah_cons (as_aload_n C dX2_giveBack_80 rfl) ?_
  refine ah_cons (as_aload_n C dX2_giveBack_81 rfl) ?_
  refine ah_cons (as_gfi C dX2_giveBack_82 fgX2_36) ?_
  refine ah_cons (as_pfi C dX2_giveBack_85 fpX2_69) ?_
  refine ah_cons (as_aload_n C dX2_giveBack_88 rfl) ?_
  refine ah_cons (as_aload_n C dX2_giveBack_89 rfl) ?_
  refine ah_cons (as_gfi C dX2_giveBack_90 fgX2_39) ?_
  refine ah_cons (as_pfi C dX2_giveBack_93 fpX2_70) ?_
  refine ah_cons (as_aload_n C dX2_giveBack_96 rfl) ?_
  refine ah_cons (as_aload_n C dX2_giveBack_97 rfl) ?_
  refine ah_cons (as_gfi C dX2_giveBack_98 fgX2_42) ?_
  refine ah_cons (as_pfi C dX2_giveBack_101 fpX2_71) ?_
  refine ah_cons (as_vret C rfl dX2_giveBack_104) ?_
  exact ah_nil
def kX3_kindNumber (f : Nat) : List (Nat × ah_S) := [
  (0, ah_push (.int (4)) 1),
  (1, ah_iret)]
def aX3_kindNumber (f : Nat) : ah_F := ah_fun (kX3_kindNumber f) 1 f
set_option maxRecDepth 100000 in
set_option maxHeartbeats 4000000 in
theorem mX3_kindNumber {l : Launch} {s0 : State} {D : va_G} {tc : Nat → ClassId} {ad : Nat → Nat} {A : Nat → Prop} (hW : ah_W0 s0 ad A) (f : Nat) : ah_Met l s0 D tc ad A yX3_kindNumber cX3_kindNumber 1 (some .int) 0 0 (aX3_kindNumber f) := by
  refine ah_met hW.1 (by decide) (fun p e s m args below meth c res C => ?_)
  refine ah_cons (as_iconst C dX3_kindNumber_0 (by decide)) ?_
  refine ah_cons (as_iret C rfl dX3_kindNumber_1) ?_
  exact ah_nil
def kX4_write (f : Nat) : List (Nat × ah_S) := [
  (0, ah_ald 0 1),
  (1, ah_gfi [4] 1 4),
  (4, ah_push (.int (36)) 6),
  (6, ah_clt 11 9),
  (9, ah_push (.int (0)) 10),
  (10, ah_zret),
  (11, ah_ald 0 12),
  (12, ah_gfr [4] 0 15),
  (15, ah_ald 0 16),
  (16, ah_gfi [4] 1 19),
  (19, ah_ild 1 20),
  (20, ah_iast 21),
  (21, ah_ald 0 22),
  (22, ah_dupR 23),
  (23, ah_gfi [4] 1 26),
  (26, ah_push (.int (1)) 27),
  (27, ah_bin (fun x y => x + y) 28),
  (28, ah_pfi [4] 1 31),
  (31, ah_push (.int (1)) 32),
  (32, ah_zret)]
def aX4_write (f : Nat) : ah_F := ah_fun (kX4_write f) 2 f
set_option maxRecDepth 100000 in
set_option maxHeartbeats 4000000 in
theorem mX4_write {l : Launch} {s0 : State} {D : va_G} {tc : Nat → ClassId} {ad : Nat → Nat} {A : Nat → Prop} (hW : ah_W0 s0 ad A) (f : Nat) : ah_Met l s0 D tc ad A yX4_write cX4_write 2 (some .boolean) 0 0 (aX4_write f) := by
  refine ah_met hW.1 (by decide) (fun p e s m args below meth c res C => ?_)
  refine ah_cons (as_aload_n C dX4_write_0 rfl) ?_
  refine ah_cons (as_gfi C dX4_write_1 fgX4_15) ?_
  refine ah_cons (as_bipush C dX4_write_4 (by decide)) ?_
  refine ah_cons (as_icmp_lt C dX4_write_6 (by decide)) ?_
  refine ah_cons (as_iconst C dX4_write_9 (by decide)) ?_
  refine ah_cons (as_zret C rfl dX4_write_10) ?_
  refine ah_cons (as_aload_n C dX4_write_11 rfl) ?_
  refine ah_cons (as_gfr C dX4_write_12 fgX4_11) ?_
  refine ah_cons (as_aload_n C dX4_write_15 rfl) ?_
  refine ah_cons (as_gfi C dX4_write_16 fgX4_15) ?_
  refine ah_cons (as_iload_n C dX4_write_19 rfl) ?_
  refine ah_cons (as_iast C dX4_write_20) ?_
  refine ah_cons (as_aload_n C dX4_write_21 rfl) ?_
  refine ah_cons (as_dupR C dX4_write_22) ?_
  refine ah_cons (as_gfi C dX4_write_23 fgX4_15) ?_
  refine ah_cons (as_iconst C dX4_write_26 (by decide)) ?_
  refine ah_cons (as_iadd C dX4_write_27) ?_
  refine ah_cons (as_pfi C dX4_write_28 fpX4_15) ?_
  refine ah_cons (as_iconst C dX4_write_31 (by decide)) ?_
  refine ah_cons (as_zret C rfl dX4_write_32) ?_
  exact ah_nil
def kX4_clear (f : Nat) : List (Nat × ah_S) := [
  (0, ah_ald 0 1),
  (1, ah_push (.int (0)) 2),
  (2, ah_pfi [4] 1 5),
  (5, ah_vret)]
def aX4_clear (f : Nat) : ah_F := ah_fun (kX4_clear f) 1 f
set_option maxRecDepth 100000 in
set_option maxHeartbeats 4000000 in
theorem mX4_clear {l : Launch} {s0 : State} {D : va_G} {tc : Nat → ClassId} {ad : Nat → Nat} {A : Nat → Prop} (hW : ah_W0 s0 ad A) (f : Nat) : ah_Met l s0 D tc ad A yX4_clear cX4_clear 1 none 0 0 (aX4_clear f) := by
  refine ah_met hW.1 (by decide) (fun p e s m args below meth c res C => ?_)
  refine ah_cons (as_aload_n C dX4_clear_0 rfl) ?_
  refine ah_cons (as_iconst C dX4_clear_1 (by decide)) ?_
  refine ah_cons (as_pfi C dX4_clear_2 fpX4_15) ?_
  refine ah_cons (as_vret C rfl dX4_clear_5) ?_
  exact ah_nil
def kX4_mayStandAt (f : Nat) : List (Nat × ah_S) := [
  (0, ah_ild 0 1),
  (1, ah_push (.int (34)) 3),
  (3, ah_clt 8 6),
  (6, ah_push (.int (0)) 7),
  (7, ah_zret),
  (8, ah_ild 0 9),
  (9, ah_push (.int (5)) 10),
  (10, ah_rem 11),
  (11, ah_sw [(0, 40), (1, 56), (2, 74), (3, 92)] 110),
  (40, ah_push (.ref 1000) 42),
  (42, ah_ild 1 43),
  (43, ah_un (fun x => (x.toUInt32 % 65536).toInt32) 44),
  (44, ah_idx 47),
  (47, ah_zlt 54 50),
  (50, ah_push (.int (1)) 51),
  (51, ah_goto 55),
  (54, ah_push (.int (0)) 55),
  (55, ah_zret),
  (56, ah_ild 1 57),
  (57, ah_push (.int (48)) 59),
  (59, ah_clt 72 62),
  (62, ah_ild 1 63),
  (63, ah_push (.int (49)) 65),
  (65, ah_cgt 72 68),
  (68, ah_push (.int (1)) 69),
  (69, ah_goto 73),
  (72, ah_push (.int (0)) 73),
  (73, ah_zret),
  (74, ah_ild 1 75),
  (75, ah_push (.int (48)) 77),
  (77, ah_clt 90 80),
  (80, ah_ild 1 81),
  (81, ah_push (.int (58)) 83),
  (83, ah_clt 86 90),
  (86, ah_push (.int (1)) 87),
  (87, ah_goto 91),
  (90, ah_push (.int (0)) 91),
  (91, ah_zret),
  (92, ah_ild 1 93),
  (93, ah_push (.int (48)) 95),
  (95, ah_clt 108 98),
  (98, ah_ild 1 99),
  (99, ah_push (.int (54)) 101),
  (101, ah_clt 104 108),
  (104, ah_push (.int (1)) 105),
  (105, ah_goto 109),
  (108, ah_push (.int (0)) 109),
  (109, ah_zret),
  (110, ah_ild 1 111),
  (111, ah_push (.int (44)) 113),
  (113, ah_ceq 116 120),
  (116, ah_push (.int (1)) 117),
  (117, ah_goto 121),
  (120, ah_push (.int (0)) 121),
  (121, ah_zret)]
def aX4_mayStandAt (f : Nat) : ah_F := ah_fun (kX4_mayStandAt f) 2 f
set_option maxRecDepth 100000 in
set_option maxHeartbeats 4000000 in
theorem mX4_mayStandAt {l : Launch} {s0 : State} {D : va_G} {tc : Nat → ClassId} {ad : Nat → Nat} {A : Nat → Prop} (hW : ah_W0 s0 ad A) (f : Nat) : ah_Met l s0 D tc ad A yX4_mayStandAt cX4_mayStandAt 2 (some .boolean) 8 400 (aX4_mayStandAt f) := by
  refine ah_met hW.1 (by decide) (fun p e s m args below meth c res C => ?_)
  refine ah_cons (as_iload_n C dX4_mayStandAt_0 rfl) ?_
  refine ah_cons (as_bipush C dX4_mayStandAt_1 (by decide)) ?_
  refine ah_cons (as_icmp_lt C dX4_mayStandAt_3 (by decide)) ?_
  refine ah_cons (as_iconst C dX4_mayStandAt_6 (by decide)) ?_
  refine ah_cons (as_zret C rfl dX4_mayStandAt_7) ?_
  refine ah_cons (as_iload_n C dX4_mayStandAt_8 rfl) ?_
  refine ah_cons (as_iconst C dX4_mayStandAt_9 (by decide)) ?_
  refine ah_cons (as_irem C dX4_mayStandAt_10) ?_
  refine ah_cons (as_tsw C dX4_mayStandAt_11 (by decide) (by decide) (by decide)) ?_
  refine ah_cons (as_str C hW dX4_mayStandAt_40) ?_
  refine ah_cons (as_iload_n C dX4_mayStandAt_42 rfl) ?_
  refine ah_cons (as_i2c C dX4_mayStandAt_43) ?_
  refine ah_cons (as_idx C hW dX4_mayStandAt_44 wt_141 ⟨by decide, by decide⟩) ?_
  refine ah_cons (as_if_lt C dX4_mayStandAt_47 (by decide)) ?_
  refine ah_cons (as_iconst C dX4_mayStandAt_50 (by decide)) ?_
  refine ah_cons (as_goto C dX4_mayStandAt_51 (by decide)) ?_
  refine ah_cons (as_iconst C dX4_mayStandAt_54 (by decide)) ?_
  refine ah_cons (as_zret C rfl dX4_mayStandAt_55) ?_
  refine ah_cons (as_iload_n C dX4_mayStandAt_56 rfl) ?_
  refine ah_cons (as_bipush C dX4_mayStandAt_57 (by decide)) ?_
  refine ah_cons (as_icmp_lt C dX4_mayStandAt_59 (by decide)) ?_
  refine ah_cons (as_iload_n C dX4_mayStandAt_62 rfl) ?_
  refine ah_cons (as_bipush C dX4_mayStandAt_63 (by decide)) ?_
  refine ah_cons (as_icmp_gt C dX4_mayStandAt_65 (by decide)) ?_
  refine ah_cons (as_iconst C dX4_mayStandAt_68 (by decide)) ?_
  refine ah_cons (as_goto C dX4_mayStandAt_69 (by decide)) ?_
  refine ah_cons (as_iconst C dX4_mayStandAt_72 (by decide)) ?_
  refine ah_cons (as_zret C rfl dX4_mayStandAt_73) ?_
  refine ah_cons (as_iload_n C dX4_mayStandAt_74 rfl) ?_
  refine ah_cons (as_bipush C dX4_mayStandAt_75 (by decide)) ?_
  refine ah_cons (as_icmp_lt C dX4_mayStandAt_77 (by decide)) ?_
  refine ah_cons (as_iload_n C dX4_mayStandAt_80 rfl) ?_
  refine ah_cons (as_bipush C dX4_mayStandAt_81 (by decide)) ?_
  refine ah_cons (as_icmp_ge C dX4_mayStandAt_83 (by decide)) ?_
  refine ah_cons (as_iconst C dX4_mayStandAt_86 (by decide)) ?_
  refine ah_cons (as_goto C dX4_mayStandAt_87 (by decide)) ?_
  refine ah_cons (as_iconst C dX4_mayStandAt_90 (by decide)) ?_
  refine ah_cons (as_zret C rfl dX4_mayStandAt_91) ?_
  refine ah_cons (as_iload_n C dX4_mayStandAt_92 rfl) ?_
  refine ah_cons (as_bipush C dX4_mayStandAt_93 (by decide)) ?_
  refine ah_cons (as_icmp_lt C dX4_mayStandAt_95 (by decide)) ?_
  refine ah_cons (as_iload_n C dX4_mayStandAt_98 rfl) ?_
  refine ah_cons (as_bipush C dX4_mayStandAt_99 (by decide)) ?_
  refine ah_cons (as_icmp_ge C dX4_mayStandAt_101 (by decide)) ?_
  refine ah_cons (as_iconst C dX4_mayStandAt_104 (by decide)) ?_
  refine ah_cons (as_goto C dX4_mayStandAt_105 (by decide)) ?_
  refine ah_cons (as_iconst C dX4_mayStandAt_108 (by decide)) ?_
  refine ah_cons (as_zret C rfl dX4_mayStandAt_109) ?_
  refine ah_cons (as_iload_n C dX4_mayStandAt_110 rfl) ?_
  refine ah_cons (as_bipush C dX4_mayStandAt_111 (by decide)) ?_
  refine ah_cons (as_icmp_ne C dX4_mayStandAt_113 (by decide)) ?_
  refine ah_cons (as_iconst C dX4_mayStandAt_116 (by decide)) ?_
  refine ah_cons (as_goto C dX4_mayStandAt_117 (by decide)) ?_
  refine ah_cons (as_iconst C dX4_mayStandAt_120 (by decide)) ?_
  refine ah_cons (as_zret C rfl dX4_mayStandAt_121) ?_
  exact ah_nil
def kX4_firstFault (f : Nat) : List (Nat × ah_S) := [
  (2, ah_ild 1 3),
  (0, ah_push (.int (0)) 1),
  (1, ah_lim 2 [0, 1] (ah_ist 1 2)),
  (3, ah_ald 0 4),
  (4, ah_gfi [4] 1 7),
  (7, ah_clt 10 31),
  (10, ah_ild 1 11),
  (11, ah_ald 0 12),
  (12, ah_gfr [4] 0 15),
  (15, ah_ild 1 16),
  (16, ah_iald 0 17),
  (17, ah_sI (aX4_mayStandAt f) 2 20),
  (20, ah_zeq 23 25),
  (23, ah_ild 1 24),
  (24, ah_iret),
  (25, ah_inc 1 (1) 28),
  (28, ah_lim 2 [0, 1] (ah_goto 2)),
  (31, ah_ald 0 32),
  (32, ah_gfi [4] 1 35),
  (35, ah_iret)]
def aX4_firstFault (f : Nat) : ah_F := ah_fun (kX4_firstFault f) 2 f
set_option maxRecDepth 100000 in
set_option maxHeartbeats 4000000 in
theorem mX4_firstFault {l : Launch} {s0 : State} {D : va_G} {tc : Nat → ClassId} {ad : Nat → Nat} {A : Nat → Prop} (hW : ah_W0 s0 ad A) (f : Nat) : ah_Met l s0 D tc ad A yX4_firstFault cX4_firstFault 2 (some .int) 9 421 (aX4_firstFault f) := by
  refine ah_met hW.1 (by decide) (fun p e s m args below meth c res C => ?_)
  refine ah_cons (as_iload_n C dX4_firstFault_2 rfl) ?_
  refine ah_cons (as_iconst C dX4_firstFault_0 (by decide)) ?_
  refine ah_cons (as_lim (as_istore_n C dX4_firstFault_1 rfl (by decide))) ?_
  refine ah_cons (as_aload_n C dX4_firstFault_3 rfl) ?_
  refine ah_cons (as_gfi C dX4_firstFault_4 fgX4_15) ?_
  refine ah_cons (as_icmp_ge C dX4_firstFault_7 (by decide)) ?_
  refine ah_cons (as_iload_n C dX4_firstFault_10 rfl) ?_
  refine ah_cons (as_aload_n C dX4_firstFault_11 rfl) ?_
  refine ah_cons (as_gfr C dX4_firstFault_12 fgX4_11) ?_
  refine ah_cons (as_iload_n C dX4_firstFault_15 rfl) ?_
  refine ah_cons (as_iald C dX4_firstFault_16) ?_
  refine ah_cons (as_sI C (mX4_mayStandAt hW f) dX4_firstFault_17 wt_142 wt_143 wt_144 wt_145 ⟨by decide, by decide, by decide⟩ ⟨by decide, by decide⟩) ?_
  refine ah_cons (as_if_ne C dX4_firstFault_20 (by decide)) ?_
  refine ah_cons (as_iload_n C dX4_firstFault_23 rfl) ?_
  refine ah_cons (as_iret C rfl dX4_firstFault_24) ?_
  refine ah_cons (as_iinc C dX4_firstFault_25 (by decide) (by decide)) ?_
  refine ah_cons (as_lim (as_goto C dX4_firstFault_28 (by decide))) ?_
  refine ah_cons (as_aload_n C dX4_firstFault_31 rfl) ?_
  refine ah_cons (as_gfi C dX4_firstFault_32 fgX4_15) ?_
  refine ah_cons (as_iret C rfl dX4_firstFault_35) ?_
  exact ah_nil
def kX4_isDrawer (f : Nat) : List (Nat × ah_S) := [
  (0, ah_ald 0 1),
  (1, ah_gfi [4] 1 4),
  (4, ah_push (.int (9)) 6),
  (6, ah_clt 34 9),
  (9, ah_ald 0 10),
  (10, ah_gfi [4] 1 13),
  (13, ah_push (.int (5)) 14),
  (14, ah_rem 15),
  (15, ah_push (.int (4)) 16),
  (16, ah_ceq 19 34),
  (19, ah_ald 0 20),
  (20, ah_vI [(4, aX4_firstFault f)] 1 23),
  (23, ah_ald 0 24),
  (24, ah_gfi [4] 1 27),
  (27, ah_ceq 30 34),
  (30, ah_push (.int (1)) 31),
  (31, ah_goto 35),
  (34, ah_push (.int (0)) 35),
  (35, ah_zret)]
def aX4_isDrawer (f : Nat) : ah_F := ah_fun (kX4_isDrawer f) 1 f
set_option maxRecDepth 100000 in
set_option maxHeartbeats 4000000 in
theorem mX4_isDrawer {l : Launch} {s0 : State} {D : va_G} {tc : Nat → ClassId} {ad : Nat → Nat} {A : Nat → Prop} (hW : ah_W0 s0 ad A) (f : Nat) : ah_Met l s0 D tc ad A yX4_isDrawer cX4_isDrawer 1 (some .boolean) 10 442 (aX4_isDrawer f) := by
  refine ah_met hW.1 (by decide) (fun p e s m args below meth c res C => ?_)
  refine ah_cons (as_aload_n C dX4_isDrawer_0 rfl) ?_
  refine ah_cons (as_gfi C dX4_isDrawer_1 fgX4_15) ?_
  refine ah_cons (as_bipush C dX4_isDrawer_4 (by decide)) ?_
  refine ah_cons (as_icmp_lt C dX4_isDrawer_6 (by decide)) ?_
  refine ah_cons (as_aload_n C dX4_isDrawer_9 rfl) ?_
  refine ah_cons (as_gfi C dX4_isDrawer_10 fgX4_15) ?_
  refine ah_cons (as_iconst C dX4_isDrawer_13 (by decide)) ?_
  refine ah_cons (as_irem C dX4_isDrawer_14) ?_
  refine ah_cons (as_iconst C dX4_isDrawer_15 (by decide)) ?_
  refine ah_cons (as_icmp_ne C dX4_isDrawer_16 (by decide)) ?_
  refine ah_cons (as_aload_n C dX4_isDrawer_19 rfl) ?_
  refine ah_cons (as_vI (ah_t1 (ah_okV (n := 0) C (mX4_firstFault hW f) dX4_isDrawer_20 (ci := 4) rfl wt_146 wt_148 wt_147 wt_144 wt_149 ⟨by decide, by decide, by decide, by decide⟩ ⟨by decide, by decide⟩) ah_t0)) ?_
  refine ah_cons (as_aload_n C dX4_isDrawer_23 rfl) ?_
  refine ah_cons (as_gfi C dX4_isDrawer_24 fgX4_15) ?_
  refine ah_cons (as_icmp_ne C dX4_isDrawer_27 (by decide)) ?_
  refine ah_cons (as_iconst C dX4_isDrawer_30 (by decide)) ?_
  refine ah_cons (as_goto C dX4_isDrawer_31 (by decide)) ?_
  refine ah_cons (as_iconst C dX4_isDrawer_34 (by decide)) ?_
  refine ah_cons (as_zret C rfl dX4_isDrawer_35) ?_
  exact ah_nil
def kX4_singles (f : Nat) : List (Nat × ah_S) := [
  (0, ah_ald 0 1),
  (1, ah_gfi [4] 1 4),
  (4, ah_push (.int (1)) 5),
  (5, ah_bin (fun x y => x + y) 6),
  (6, ah_push (.int (5)) 7),
  (7, ah_div 8),
  (8, ah_iret)]
def aX4_singles (f : Nat) : ah_F := ah_fun (kX4_singles f) 1 f
set_option maxRecDepth 100000 in
set_option maxHeartbeats 4000000 in
theorem mX4_singles {l : Launch} {s0 : State} {D : va_G} {tc : Nat → ClassId} {ad : Nat → Nat} {A : Nat → Prop} (hW : ah_W0 s0 ad A) (f : Nat) : ah_Met l s0 D tc ad A yX4_singles cX4_singles 1 (some .int) 0 0 (aX4_singles f) := by
  refine ah_met hW.1 (by decide) (fun p e s m args below meth c res C => ?_)
  refine ah_cons (as_aload_n C dX4_singles_0 rfl) ?_
  refine ah_cons (as_gfi C dX4_singles_1 fgX4_15) ?_
  refine ah_cons (as_iconst C dX4_singles_4 (by decide)) ?_
  refine ah_cons (as_iadd C dX4_singles_5) ?_
  refine ah_cons (as_iconst C dX4_singles_6 (by decide)) ?_
  refine ah_cons (as_idiv C dX4_singles_7) ?_
  refine ah_cons (as_iret C rfl dX4_singles_8) ?_
  exact ah_nil
def kX5_kindNumber (f : Nat) : List (Nat × ah_S) := [
  (0, ah_push (.int (3)) 1),
  (1, ah_iret)]
def aX5_kindNumber (f : Nat) : ah_F := ah_fun (kX5_kindNumber f) 1 f
set_option maxRecDepth 100000 in
set_option maxHeartbeats 4000000 in
theorem mX5_kindNumber {l : Launch} {s0 : State} {D : va_G} {tc : Nat → ClassId} {ad : Nat → Nat} {A : Nat → Prop} (hW : ah_W0 s0 ad A) (f : Nat) : ah_Met l s0 D tc ad A yX5_kindNumber cX5_kindNumber 1 (some .int) 0 0 (aX5_kindNumber f) := by
  refine ah_met hW.1 (by decide) (fun p e s m args below meth c res C => ?_)
  refine ah_cons (as_iconst C dX5_kindNumber_0 (by decide)) ?_
  refine ah_cons (as_iret C rfl dX5_kindNumber_1) ?_
  exact ah_nil
def kX6_mateOf (f : Nat) : List (Nat × ah_S) := [
  (0, ah_ild 1 1),
  (1, ah_zlt 19 4),
  (4, ah_ild 1 5),
  (5, ah_push (.int (7)) 7),
  (7, ah_clt 10 19),
  (10, ah_ald 0 11),
  (11, ah_gfr [6] 4 14),
  (14, ah_ild 1 15),
  (15, ah_iald 0 16),
  (16, ah_goto 20),
  (19, ah_push (.int (-1)) 20),
  (20, ah_iret)]
def aX6_mateOf (f : Nat) : ah_F := ah_fun (kX6_mateOf f) 2 f
set_option maxRecDepth 100000 in
set_option maxHeartbeats 4000000 in
theorem mX6_mateOf {l : Launch} {s0 : State} {D : va_G} {tc : Nat → ClassId} {ad : Nat → Nat} {A : Nat → Prop} (hW : ah_W0 s0 ad A) (f : Nat) : ah_Met l s0 D tc ad A yX6_mateOf cX6_mateOf 2 (some .int) 0 0 (aX6_mateOf f) := by
  refine ah_met hW.1 (by decide) (fun p e s m args below meth c res C => ?_)
  refine ah_cons (as_iload_n C dX6_mateOf_0 rfl) ?_
  refine ah_cons (as_if_lt C dX6_mateOf_1 (by decide)) ?_
  refine ah_cons (as_iload_n C dX6_mateOf_4 rfl) ?_
  refine ah_cons (as_bipush C dX6_mateOf_5 (by decide)) ?_
  refine ah_cons (as_icmp_ge C dX6_mateOf_7 (by decide)) ?_
  refine ah_cons (as_aload_n C dX6_mateOf_10 rfl) ?_
  refine ah_cons (as_gfr C dX6_mateOf_11 fgX6_9) ?_
  refine ah_cons (as_iload_n C dX6_mateOf_14 rfl) ?_
  refine ah_cons (as_iald C dX6_mateOf_15) ?_
  refine ah_cons (as_goto C dX6_mateOf_16 (by decide)) ?_
  refine ah_cons (as_iconst C dX6_mateOf_19 (by decide)) ?_
  refine ah_cons (as_iret C rfl dX6_mateOf_20) ?_
  exact ah_nil
def kJ7_fill_53178 (f : Nat) : List (Nat × ah_S) := [
  (5, ah_ild 2 6),
  (0, ah_push (.int (0)) 1),
  (1, ah_ist 2 2),
  (2, ah_ald 0 3),
  (3, ah_alen 4),
  (4, ah_lim 5 [0, 1, 2, 3] (ah_ist 3 5)),
  (6, ah_ild 3 7),
  (7, ah_clt 10 20),
  (10, ah_ald 0 11),
  (11, ah_ild 2 12),
  (12, ah_ild 1 13),
  (13, ah_iast 14),
  (14, ah_inc 2 (1) 17),
  (17, ah_lim 5 [0, 1, 2, 3] (ah_goto 5)),
  (20, ah_vret)]
def aJ7_fill_53178 (f : Nat) : ah_F := ah_fun (kJ7_fill_53178 f) 4 f
set_option maxRecDepth 100000 in
set_option maxHeartbeats 4000000 in
theorem mJ7_fill_53178 {l : Launch} {s0 : State} {D : va_G} {tc : Nat → ClassId} {ad : Nat → Nat} {A : Nat → Prop} (hW : ah_W0 s0 ad A) (f : Nat) : ah_Met l s0 D tc ad A yJ7_fill_53178 cJ7_fill_53178 4 none 0 0 (aJ7_fill_53178 f) := by
  refine ah_met hW.1 (by decide) (fun p e s m args below meth c res C => ?_)
  refine ah_cons (as_iload_n C dJ7_fill_53178_5 rfl) ?_
  refine ah_cons (as_iconst C dJ7_fill_53178_0 (by decide)) ?_
  refine ah_cons (as_istore_n C dJ7_fill_53178_1 rfl (by decide)) ?_
  refine ah_cons (as_aload_n C dJ7_fill_53178_2 rfl) ?_
  refine ah_cons (as_alen C dJ7_fill_53178_3) ?_
  refine ah_cons (as_lim (as_istore_n C dJ7_fill_53178_4 rfl (by decide))) ?_
  refine ah_cons (as_iload_n C dJ7_fill_53178_6 rfl) ?_
  refine ah_cons (as_icmp_ge C dJ7_fill_53178_7 (by decide)) ?_
  refine ah_cons (as_aload_n C dJ7_fill_53178_10 rfl) ?_
  refine ah_cons (as_iload_n C dJ7_fill_53178_11 rfl) ?_
  refine ah_cons (as_iload_n C dJ7_fill_53178_12 rfl) ?_
  refine ah_cons (as_iast C dJ7_fill_53178_13) ?_
  refine ah_cons (as_iinc C dJ7_fill_53178_14 (by decide) (by decide)) ?_
  refine ah_cons (as_lim (as_goto C dJ7_fill_53178_17 (by decide))) ?_
  refine ah_cons (as_vret C rfl dJ7_fill_53178_20) ?_
  exact ah_nil
def kX6_learn (f : Nat) : List (Nat × ah_S) := [
  (10, ah_ild 2 11),
  (35, ah_ild 3 36),
  (0, ah_ald 0 1),
  (1, ah_ald 1 2),
  (2, ah_gfi [0] 2 5),
  (5, ah_pfi [6] 8 8),
  (8, ah_push (.int (0)) 9),
  (9, ah_lim 10 [0, 1, 2] (ah_ist 2 10)),
  (11, ah_ald 0 12),
  (12, ah_gfi [6] 8 15),
  (15, ah_clt 18 101),
  (18, ah_ald 0 19),
  (19, ah_gfr [6] 7 22),
  (22, ah_ild 2 23),
  (23, ah_ald 1 24),
  (24, ah_gfr [0] 0 27),
  (27, ah_ild 2 28),
  (28, ah_aald 2 29),
  (29, ah_gfi [1, 3, 5, 8, 9] 2 32),
  (32, ah_iast 33),
  (33, ah_push (.int (0)) 34),
  (34, ah_lim 35 [0, 1, 2, 3] (ah_ist 3 35)),
  (36, ah_ald 0 37),
  (37, ah_gfi [6] 8 40),
  (40, ah_clt 43 95),
  (43, ah_ald 1 44),
  (44, ah_ild 2 45),
  (45, ah_vI [(0, aX0_isPaired f)] 2 48),
  (48, ah_zeq 51 59),
  (51, ah_ald 1 52),
  (52, ah_ild 3 53),
  (53, ah_vI [(0, aX0_isPaired f)] 2 56),
  (56, ah_zeq 63 59),
  (59, ah_push (.int (1)) 60),
  (60, ah_goto 64),
  (63, ah_push (.int (0)) 64),
  (64, ah_ist 4 66),
  (66, ah_ald 0 67),
  (67, ah_gfr [6] 6 70),
  (70, ah_ild 2 71),
  (71, ah_aald 3 72),
  (72, ah_ild 3 73),
  (73, ah_ild 4 75),
  (75, ah_zeq 82 78),
  (78, ah_push (.int (-1)) 79),
  (79, ah_goto 88),
  (82, ah_ald 1 83),
  (83, ah_ild 2 84),
  (84, ah_ild 3 85),
  (85, ah_vI [(0, aX0_likenessOf f)] 3 88),
  (88, ah_iast 89),
  (89, ah_inc 3 (1) 92),
  (92, ah_lim 35 [0, 1, 2, 3] (ah_goto 35)),
  (95, ah_inc 2 (1) 98),
  (98, ah_lim 10 [0, 1, 2] (ah_goto 10)),
  (101, ah_vret)]
def aX6_learn (f : Nat) : ah_F := ah_fun (kX6_learn f) 5 f
set_option maxRecDepth 100000 in
set_option maxHeartbeats 4000000 in
theorem mX6_learn {l : Launch} {s0 : State} {D : va_G} {tc : Nat → ClassId} {ad : Nat → Nat} {A : Nat → Prop} (hW : ah_W0 s0 ad A) (f : Nat) : ah_Met l s0 D tc ad A yX6_learn cX6_learn 5 none 3 66 (aX6_learn f) := by
  refine ah_met hW.1 (by decide) (fun p e s m args below meth c res C => ?_)
  refine ah_cons (as_iload_n C dX6_learn_10 rfl) ?_
  refine ah_cons (as_iload_n C dX6_learn_35 rfl) ?_
  refine ah_cons (as_aload_n C dX6_learn_0 rfl) ?_
  refine ah_cons (as_aload_n C dX6_learn_1 rfl) ?_
  refine ah_cons (as_gfi C dX6_learn_2 fgX6_62) ?_
  refine ah_cons (as_pfi C dX6_learn_5 fpX6_67) ?_
  refine ah_cons (as_iconst C dX6_learn_8 (by decide)) ?_
  refine ah_cons (as_lim (as_istore_n C dX6_learn_9 rfl (by decide))) ?_
  refine ah_cons (as_aload_n C dX6_learn_11 rfl) ?_
  refine ah_cons (as_gfi C dX6_learn_12 fgX6_67) ?_
  refine ah_cons (as_icmp_ge C dX6_learn_15 (by decide)) ?_
  refine ah_cons (as_aload_n C dX6_learn_18 rfl) ?_
  refine ah_cons (as_gfr C dX6_learn_19 fgX6_23) ?_
  refine ah_cons (as_iload_n C dX6_learn_22 rfl) ?_
  refine ah_cons (as_aload_n C dX6_learn_23 rfl) ?_
  refine ah_cons (as_gfr C dX6_learn_24 fgX6_68) ?_
  refine ah_cons (as_iload_n C dX6_learn_27 rfl) ?_
  refine ah_cons (as_aald C dX6_learn_28 rfl rfl) ?_
  refine ah_cons (as_gfi C dX6_learn_29 fgX6_72) ?_
  refine ah_cons (as_iast C dX6_learn_32) ?_
  refine ah_cons (as_iconst C dX6_learn_33 (by decide)) ?_
  refine ah_cons (as_lim (as_istore_n C dX6_learn_34 rfl (by decide))) ?_
  refine ah_cons (as_aload_n C dX6_learn_36 rfl) ?_
  refine ah_cons (as_gfi C dX6_learn_37 fgX6_67) ?_
  refine ah_cons (as_icmp_ge C dX6_learn_40 (by decide)) ?_
  refine ah_cons (as_aload_n C dX6_learn_43 rfl) ?_
  refine ah_cons (as_iload_n C dX6_learn_44 rfl) ?_
  refine ah_cons (as_vI (ah_t1 (ah_okV (n := 1) C (mX0_isPaired hW f) dX6_learn_45 (ci := 0) rfl wt_156 wt_73 wt_72 wt_4 wt_74 ⟨by decide, by decide, by decide, by decide⟩ ⟨by decide, by decide⟩) ah_t0)) ?_
  refine ah_cons (as_if_ne C dX6_learn_48 (by decide)) ?_
  refine ah_cons (as_aload_n C dX6_learn_51 rfl) ?_
  refine ah_cons (as_iload_n C dX6_learn_52 rfl) ?_
  refine ah_cons (as_vI (ah_t1 (ah_okV (n := 1) C (mX0_isPaired hW f) dX6_learn_53 (ci := 0) rfl wt_156 wt_73 wt_72 wt_4 wt_74 ⟨by decide, by decide, by decide, by decide⟩ ⟨by decide, by decide⟩) ah_t0)) ?_
  refine ah_cons (as_if_eq C dX6_learn_56 (by decide)) ?_
  refine ah_cons (as_iconst C dX6_learn_59 (by decide)) ?_
  refine ah_cons (as_goto C dX6_learn_60 (by decide)) ?_
  refine ah_cons (as_iconst C dX6_learn_63 (by decide)) ?_
  refine ah_cons (as_istore C dX6_learn_64 (by decide)) ?_
  refine ah_cons (as_aload_n C dX6_learn_66 rfl) ?_
  refine ah_cons (as_gfr C dX6_learn_67 fgX6_20) ?_
  refine ah_cons (as_iload_n C dX6_learn_70 rfl) ?_
  refine ah_cons (as_aald C dX6_learn_71 rfl rfl) ?_
  refine ah_cons (as_iload_n C dX6_learn_72 rfl) ?_
  refine ah_cons (as_iload C dX6_learn_73) ?_
  refine ah_cons (as_if_eq C dX6_learn_75 (by decide)) ?_
  refine ah_cons (as_iconst C dX6_learn_78 (by decide)) ?_
  refine ah_cons (as_goto C dX6_learn_79 (by decide)) ?_
  refine ah_cons (as_aload_n C dX6_learn_82 rfl) ?_
  refine ah_cons (as_iload_n C dX6_learn_83 rfl) ?_
  refine ah_cons (as_iload_n C dX6_learn_84 rfl) ?_
  refine ah_cons (as_vI (ah_t1 (ah_okV (n := 2) C (mX0_likenessOf hW f) dX6_learn_85 (ci := 0) rfl wt_158 wt_62 wt_61 wt_4 wt_63 ⟨by decide, by decide, by decide, by decide⟩ ⟨by decide, by decide⟩) ah_t0)) ?_
  refine ah_cons (as_iast C dX6_learn_88) ?_
  refine ah_cons (as_iinc C dX6_learn_89 (by decide) (by decide)) ?_
  refine ah_cons (as_lim (as_goto C dX6_learn_92 (by decide))) ?_
  refine ah_cons (as_iinc C dX6_learn_95 (by decide) (by decide)) ?_
  refine ah_cons (as_lim (as_goto C dX6_learn_98 (by decide))) ?_
  refine ah_cons (as_vret C rfl dX6_learn_101) ?_
  exact ah_nil
def kX6_wouldLeaveFor (f : Nat) : List (Nat × ah_S) := [
  (0, ah_ald 0 1),
  (1, ah_gfr [6] 5 4),
  (4, ah_ild 1 5),
  (5, ah_iald 0 6),
  (6, ah_ist 3 7),
  (7, ah_ild 3 8),
  (8, ah_zlt 19 11),
  (11, ah_ild 3 12),
  (12, ah_ald 0 13),
  (13, ah_gfi [6] 8 16),
  (16, ah_clt 21 19),
  (19, ah_push (.int (1)) 20),
  (20, ah_zret),
  (21, ah_ald 0 22),
  (22, ah_gfr [6] 6 25),
  (25, ah_ild 1 26),
  (26, ah_aald 3 27),
  (27, ah_ild 2 28),
  (28, ah_iald 0 29),
  (29, ah_ald 0 30),
  (30, ah_gfr [6] 6 33),
  (33, ah_ild 1 34),
  (34, ah_aald 3 35),
  (35, ah_ild 3 36),
  (36, ah_iald 0 37),
  (37, ah_bin (fun x y => x - y) 38),
  (38, ah_ist 4 40),
  (40, ah_ild 4 42),
  (42, ah_zgt 55 45),
  (45, ah_ild 4 47),
  (47, ah_zeq 50 59),
  (50, ah_ild 2 51),
  (51, ah_ild 3 52),
  (52, ah_clt 55 59),
  (55, ah_push (.int (1)) 56),
  (56, ah_goto 60),
  (59, ah_push (.int (0)) 60),
  (60, ah_zret)]
def aX6_wouldLeaveFor (f : Nat) : ah_F := ah_fun (kX6_wouldLeaveFor f) 5 f
set_option maxRecDepth 100000 in
set_option maxHeartbeats 4000000 in
theorem mX6_wouldLeaveFor {l : Launch} {s0 : State} {D : va_G} {tc : Nat → ClassId} {ad : Nat → Nat} {A : Nat → Prop} (hW : ah_W0 s0 ad A) (f : Nat) : ah_Met l s0 D tc ad A yX6_wouldLeaveFor cX6_wouldLeaveFor 5 (some .boolean) 0 0 (aX6_wouldLeaveFor f) := by
  refine ah_met hW.1 (by decide) (fun p e s m args below meth c res C => ?_)
  refine ah_cons (as_aload_n C dX6_wouldLeaveFor_0 rfl) ?_
  refine ah_cons (as_gfr C dX6_wouldLeaveFor_1 fgX6_15) ?_
  refine ah_cons (as_iload_n C dX6_wouldLeaveFor_4 rfl) ?_
  refine ah_cons (as_iald C dX6_wouldLeaveFor_5) ?_
  refine ah_cons (as_istore_n C dX6_wouldLeaveFor_6 rfl (by decide)) ?_
  refine ah_cons (as_iload_n C dX6_wouldLeaveFor_7 rfl) ?_
  refine ah_cons (as_if_lt C dX6_wouldLeaveFor_8 (by decide)) ?_
  refine ah_cons (as_iload_n C dX6_wouldLeaveFor_11 rfl) ?_
  refine ah_cons (as_aload_n C dX6_wouldLeaveFor_12 rfl) ?_
  refine ah_cons (as_gfi C dX6_wouldLeaveFor_13 fgX6_67) ?_
  refine ah_cons (as_icmp_lt C dX6_wouldLeaveFor_16 (by decide)) ?_
  refine ah_cons (as_iconst C dX6_wouldLeaveFor_19 (by decide)) ?_
  refine ah_cons (as_zret C rfl dX6_wouldLeaveFor_20) ?_
  refine ah_cons (as_aload_n C dX6_wouldLeaveFor_21 rfl) ?_
  refine ah_cons (as_gfr C dX6_wouldLeaveFor_22 fgX6_20) ?_
  refine ah_cons (as_iload_n C dX6_wouldLeaveFor_25 rfl) ?_
  refine ah_cons (as_aald C dX6_wouldLeaveFor_26 rfl rfl) ?_
  refine ah_cons (as_iload_n C dX6_wouldLeaveFor_27 rfl) ?_
  refine ah_cons (as_iald C dX6_wouldLeaveFor_28) ?_
  refine ah_cons (as_aload_n C dX6_wouldLeaveFor_29 rfl) ?_
  refine ah_cons (as_gfr C dX6_wouldLeaveFor_30 fgX6_20) ?_
  refine ah_cons (as_iload_n C dX6_wouldLeaveFor_33 rfl) ?_
  refine ah_cons (as_aald C dX6_wouldLeaveFor_34 rfl rfl) ?_
  refine ah_cons (as_iload_n C dX6_wouldLeaveFor_35 rfl) ?_
  refine ah_cons (as_iald C dX6_wouldLeaveFor_36) ?_
  refine ah_cons (as_isub C dX6_wouldLeaveFor_37) ?_
  refine ah_cons (as_istore C dX6_wouldLeaveFor_38 (by decide)) ?_
  refine ah_cons (as_iload C dX6_wouldLeaveFor_40) ?_
  refine ah_cons (as_if_gt C dX6_wouldLeaveFor_42 (by decide)) ?_
  refine ah_cons (as_iload C dX6_wouldLeaveFor_45) ?_
  refine ah_cons (as_if_ne C dX6_wouldLeaveFor_47 (by decide)) ?_
  refine ah_cons (as_iload_n C dX6_wouldLeaveFor_50 rfl) ?_
  refine ah_cons (as_iload_n C dX6_wouldLeaveFor_51 rfl) ?_
  refine ah_cons (as_icmp_ge C dX6_wouldLeaveFor_52 (by decide)) ?_
  refine ah_cons (as_iconst C dX6_wouldLeaveFor_55 (by decide)) ?_
  refine ah_cons (as_goto C dX6_wouldLeaveFor_56 (by decide)) ?_
  refine ah_cons (as_iconst C dX6_wouldLeaveFor_59 (by decide)) ?_
  refine ah_cons (as_zret C rfl dX6_wouldLeaveFor_60) ?_
  exact ah_nil
def kX6_isBlocked (f : Nat) : List (Nat × ah_S) := [
  (2, ah_ild 1 3),
  (14, ah_ild 2 15),
  (0, ah_push (.int (0)) 1),
  (1, ah_lim 2 [0, 1] (ah_ist 1 2)),
  (3, ah_ald 0 4),
  (4, ah_gfi [6] 8 7),
  (7, ah_clt 10 76),
  (10, ah_ild 1 11),
  (11, ah_push (.int (1)) 12),
  (12, ah_bin (fun x y => x + y) 13),
  (13, ah_lim 14 [0, 1, 2] (ah_ist 2 14)),
  (15, ah_ald 0 16),
  (16, ah_gfi [6] 8 19),
  (19, ah_clt 22 70),
  (22, ah_ald 0 23),
  (23, ah_gfr [6] 6 26),
  (26, ah_ild 1 27),
  (27, ah_aald 3 28),
  (28, ah_ild 2 29),
  (29, ah_iald 0 30),
  (30, ah_push (.int (-1)) 31),
  (31, ah_ceq 64 34),
  (34, ah_ald 0 35),
  (35, ah_gfr [6] 5 38),
  (38, ah_ild 1 39),
  (39, ah_iald 0 40),
  (40, ah_ild 2 41),
  (41, ah_ceq 64 44),
  (44, ah_ald 0 45),
  (45, ah_ild 1 46),
  (46, ah_ild 2 47),
  (47, ah_vI [(6, aX6_wouldLeaveFor f)] 3 50),
  (50, ah_zeq 64 53),
  (53, ah_ald 0 54),
  (54, ah_ild 2 55),
  (55, ah_ild 1 56),
  (56, ah_vI [(6, aX6_wouldLeaveFor f)] 3 59),
  (59, ah_zeq 64 62),
  (62, ah_push (.int (1)) 63),
  (63, ah_zret),
  (64, ah_inc 2 (1) 67),
  (67, ah_lim 14 [0, 1, 2] (ah_goto 14)),
  (70, ah_inc 1 (1) 73),
  (73, ah_lim 2 [0, 1] (ah_goto 2)),
  (76, ah_push (.int (0)) 77),
  (77, ah_zret)]
def aX6_isBlocked (f : Nat) : ah_F := ah_fun (kX6_isBlocked f) 3 f
set_option maxRecDepth 100000 in
set_option maxHeartbeats 4000000 in
theorem mX6_isBlocked {l : Launch} {s0 : State} {D : va_G} {tc : Nat → ClassId} {ad : Nat → Nat} {A : Nat → Prop} (hW : ah_W0 s0 ad A) (f : Nat) : ah_Met l s0 D tc ad A yX6_isBlocked cX6_isBlocked 3 (some .boolean) 1 24 (aX6_isBlocked f) := by
  refine ah_met hW.1 (by decide) (fun p e s m args below meth c res C => ?_)
  refine ah_cons (as_iload_n C dX6_isBlocked_2 rfl) ?_
  refine ah_cons (as_iload_n C dX6_isBlocked_14 rfl) ?_
  refine ah_cons (as_iconst C dX6_isBlocked_0 (by decide)) ?_
  refine ah_cons (as_lim (as_istore_n C dX6_isBlocked_1 rfl (by decide))) ?_
  refine ah_cons (as_aload_n C dX6_isBlocked_3 rfl) ?_
  refine ah_cons (as_gfi C dX6_isBlocked_4 fgX6_67) ?_
  refine ah_cons (as_icmp_ge C dX6_isBlocked_7 (by decide)) ?_
  refine ah_cons (as_iload_n C dX6_isBlocked_10 rfl) ?_
  refine ah_cons (as_iconst C dX6_isBlocked_11 (by decide)) ?_
  refine ah_cons (as_iadd C dX6_isBlocked_12) ?_
  refine ah_cons (as_lim (as_istore_n C dX6_isBlocked_13 rfl (by decide))) ?_
  refine ah_cons (as_aload_n C dX6_isBlocked_15 rfl) ?_
  refine ah_cons (as_gfi C dX6_isBlocked_16 fgX6_67) ?_
  refine ah_cons (as_icmp_ge C dX6_isBlocked_19 (by decide)) ?_
  refine ah_cons (as_aload_n C dX6_isBlocked_22 rfl) ?_
  refine ah_cons (as_gfr C dX6_isBlocked_23 fgX6_20) ?_
  refine ah_cons (as_iload_n C dX6_isBlocked_26 rfl) ?_
  refine ah_cons (as_aald C dX6_isBlocked_27 rfl rfl) ?_
  refine ah_cons (as_iload_n C dX6_isBlocked_28 rfl) ?_
  refine ah_cons (as_iald C dX6_isBlocked_29) ?_
  refine ah_cons (as_iconst C dX6_isBlocked_30 (by decide)) ?_
  refine ah_cons (as_icmp_eq C dX6_isBlocked_31 (by decide)) ?_
  refine ah_cons (as_aload_n C dX6_isBlocked_34 rfl) ?_
  refine ah_cons (as_gfr C dX6_isBlocked_35 fgX6_15) ?_
  refine ah_cons (as_iload_n C dX6_isBlocked_38 rfl) ?_
  refine ah_cons (as_iald C dX6_isBlocked_39) ?_
  refine ah_cons (as_iload_n C dX6_isBlocked_40 rfl) ?_
  refine ah_cons (as_icmp_eq C dX6_isBlocked_41 (by decide)) ?_
  refine ah_cons (as_aload_n C dX6_isBlocked_44 rfl) ?_
  refine ah_cons (as_iload_n C dX6_isBlocked_45 rfl) ?_
  refine ah_cons (as_iload_n C dX6_isBlocked_46 rfl) ?_
  refine ah_cons (as_vI (ah_t1 (ah_okV (n := 2) C (mX6_wouldLeaveFor hW f) dX6_isBlocked_47 (ci := 6) rfl wt_160 wt_162 wt_161 wt_163 wt_164 ⟨by decide, by decide, by decide, by decide⟩ ⟨by decide, by decide⟩) ah_t0)) ?_
  refine ah_cons (as_if_eq C dX6_isBlocked_50 (by decide)) ?_
  refine ah_cons (as_aload_n C dX6_isBlocked_53 rfl) ?_
  refine ah_cons (as_iload_n C dX6_isBlocked_54 rfl) ?_
  refine ah_cons (as_iload_n C dX6_isBlocked_55 rfl) ?_
  refine ah_cons (as_vI (ah_t1 (ah_okV (n := 2) C (mX6_wouldLeaveFor hW f) dX6_isBlocked_56 (ci := 6) rfl wt_160 wt_162 wt_161 wt_163 wt_164 ⟨by decide, by decide, by decide, by decide⟩ ⟨by decide, by decide⟩) ah_t0)) ?_
  refine ah_cons (as_if_eq C dX6_isBlocked_59 (by decide)) ?_
  refine ah_cons (as_iconst C dX6_isBlocked_62 (by decide)) ?_
  refine ah_cons (as_zret C rfl dX6_isBlocked_63) ?_
  refine ah_cons (as_iinc C dX6_isBlocked_64 (by decide) (by decide)) ?_
  refine ah_cons (as_lim (as_goto C dX6_isBlocked_67 (by decide))) ?_
  refine ah_cons (as_iinc C dX6_isBlocked_70 (by decide) (by decide)) ?_
  refine ah_cons (as_lim (as_goto C dX6_isBlocked_73 (by decide))) ?_
  refine ah_cons (as_iconst C dX6_isBlocked_76 (by decide)) ?_
  refine ah_cons (as_zret C rfl dX6_isBlocked_77) ?_
  exact ah_nil
def kX6_rankOf (f : Nat) : List (Nat × ah_S) := [
  (0, ah_ald 0 1),
  (1, ah_gfi [6] 9 4),
  (4, ah_sw [(0, 32), (1, 40)] 48),
  (32, ah_ild 1 33),
  (33, ah_push (.int (1000)) 36),
  (36, ah_bin (fun x y => x * y) 37),
  (37, ah_ild 2 38),
  (38, ah_bin (fun x y => x + y) 39),
  (39, ah_iret),
  (40, ah_ild 2 41),
  (41, ah_push (.int (1000)) 44),
  (44, ah_bin (fun x y => x * y) 45),
  (45, ah_ild 3 46),
  (46, ah_bin (fun x y => x - y) 47),
  (47, ah_iret),
  (48, ah_push (.int (0)) 49),
  (49, ah_iret)]
def aX6_rankOf (f : Nat) : ah_F := ah_fun (kX6_rankOf f) 4 f
set_option maxRecDepth 100000 in
set_option maxHeartbeats 4000000 in
theorem mX6_rankOf {l : Launch} {s0 : State} {D : va_G} {tc : Nat → ClassId} {ad : Nat → Nat} {A : Nat → Prop} (hW : ah_W0 s0 ad A) (f : Nat) : ah_Met l s0 D tc ad A yX6_rankOf cX6_rankOf 4 (some .int) 0 0 (aX6_rankOf f) := by
  refine ah_met hW.1 (by decide) (fun p e s m args below meth c res C => ?_)
  refine ah_cons (as_aload_n C dX6_rankOf_0 rfl) ?_
  refine ah_cons (as_gfi C dX6_rankOf_1 fgX6_26) ?_
  refine ah_cons (as_lsw C dX6_rankOf_4 (by decide) (by decide) (by decide)) ?_
  refine ah_cons (as_iload_n C dX6_rankOf_32 rfl) ?_
  refine ah_cons (as_sipush C dX6_rankOf_33 (by decide)) ?_
  refine ah_cons (as_imul C dX6_rankOf_36) ?_
  refine ah_cons (as_iload_n C dX6_rankOf_37 rfl) ?_
  refine ah_cons (as_iadd C dX6_rankOf_38) ?_
  refine ah_cons (as_iret C rfl dX6_rankOf_39) ?_
  refine ah_cons (as_iload_n C dX6_rankOf_40 rfl) ?_
  refine ah_cons (as_sipush C dX6_rankOf_41 (by decide)) ?_
  refine ah_cons (as_imul C dX6_rankOf_44) ?_
  refine ah_cons (as_iload_n C dX6_rankOf_45 rfl) ?_
  refine ah_cons (as_isub C dX6_rankOf_46) ?_
  refine ah_cons (as_iret C rfl dX6_rankOf_47) ?_
  refine ah_cons (as_iconst C dX6_rankOf_48 (by decide)) ?_
  refine ah_cons (as_iret C rfl dX6_rankOf_49) ?_
  exact ah_nil
def kX6_judge (f : Nat) : List (Nat × ah_S) := [
  (0, ah_ald 0 1),
  (1, ah_gfi [6] 9 4),
  (4, ah_push (.int (2)) 5),
  (5, ah_ceq 8 16),
  (8, ah_ald 0 9),
  (9, ah_vI [(6, aX6_isBlocked f)] 1 12),
  (12, ah_zeq 16 15),
  (15, ah_vret),
  (16, ah_ald 0 17),
  (17, ah_dupR 18),
  (18, ah_gfi [6] 0 21),
  (21, ah_push (.int (1)) 22),
  (22, ah_bin (fun x y => x + y) 23),
  (23, ah_pfi [6] 0 26),
  (26, ah_ald 0 27),
  (27, ah_ild 1 28),
  (28, ah_ild 2 29),
  (29, ah_ild 3 30),
  (30, ah_vI [(6, aX6_rankOf f)] 4 33),
  (33, ah_ist 4 35),
  (35, ah_ald 0 36),
  (36, ah_gfi [6] 0 39),
  (39, ah_push (.int (1)) 40),
  (40, ah_ceq 52 43),
  (43, ah_ild 4 45),
  (45, ah_ald 0 46),
  (46, ah_gfi [6] 11 49),
  (49, ah_cgt 52 88),
  (52, ah_ald 0 53),
  (53, ah_ild 4 55),
  (55, ah_pfi [6] 11 58),
  (58, ah_ald 0 59),
  (59, ah_ild 1 60),
  (60, ah_pfi [6] 1 63),
  (63, ah_ald 0 64),
  (64, ah_ild 2 65),
  (65, ah_pfi [6] 2 68),
  (68, ah_ald 0 69),
  (69, ah_ild 3 70),
  (70, ah_pfi [6] 3 73),
  (73, ah_ald 0 74),
  (74, ah_gfr [6] 5 77),
  (77, ah_push (.int (0)) 78),
  (78, ah_ald 0 79),
  (79, ah_gfr [6] 4 82),
  (82, ah_push (.int (0)) 83),
  (83, ah_push (.int (7)) 85),
  (85, ah_acp 88),
  (88, ah_vret)]
def aX6_judge (f : Nat) : ah_F := ah_fun (kX6_judge f) 5 f
set_option maxRecDepth 100000 in
set_option maxHeartbeats 4000000 in
theorem mX6_judge {l : Launch} {s0 : State} {D : va_G} {tc : Nat → ClassId} {ad : Nat → Nat} {A : Nat → Prop} (hW : ah_W0 s0 ad A) (f : Nat) : ah_Met l s0 D tc ad A yX6_judge cX6_judge 5 none 2 60 (aX6_judge f) := by
  refine ah_met hW.1 (by decide) (fun p e s m args below meth c res C => ?_)
  refine ah_cons (as_aload_n C dX6_judge_0 rfl) ?_
  refine ah_cons (as_gfi C dX6_judge_1 fgX6_26) ?_
  refine ah_cons (as_iconst C dX6_judge_4 (by decide)) ?_
  refine ah_cons (as_icmp_ne C dX6_judge_5 (by decide)) ?_
  refine ah_cons (as_aload_n C dX6_judge_8 rfl) ?_
  refine ah_cons (as_vI (ah_t1 (ah_okV (n := 0) C (mX6_isBlocked hW f) dX6_judge_9 (ci := 6) rfl wt_166 wt_168 wt_167 wt_163 wt_169 ⟨by decide, by decide, by decide, by decide⟩ ⟨by decide, by decide⟩) ah_t0)) ?_
  refine ah_cons (as_if_eq C dX6_judge_12 (by decide)) ?_
  refine ah_cons (as_vret C rfl dX6_judge_15) ?_
  refine ah_cons (as_aload_n C dX6_judge_16 rfl) ?_
  refine ah_cons (as_dupR C dX6_judge_17) ?_
  refine ah_cons (as_gfi C dX6_judge_18 fgX6_33) ?_
  refine ah_cons (as_iconst C dX6_judge_21 (by decide)) ?_
  refine ah_cons (as_iadd C dX6_judge_22) ?_
  refine ah_cons (as_pfi C dX6_judge_23 fpX6_33) ?_
  refine ah_cons (as_aload_n C dX6_judge_26 rfl) ?_
  refine ah_cons (as_iload_n C dX6_judge_27 rfl) ?_
  refine ah_cons (as_iload_n C dX6_judge_28 rfl) ?_
  refine ah_cons (as_iload_n C dX6_judge_29 rfl) ?_
  refine ah_cons (as_vI (ah_t1 (ah_okV (n := 3) C (mX6_rankOf hW f) dX6_judge_30 (ci := 6) rfl wt_171 wt_173 wt_172 wt_163 wt_174 ⟨by decide, by decide, by decide, by decide⟩ ⟨by decide, by decide⟩) ah_t0)) ?_
  refine ah_cons (as_istore C dX6_judge_33 (by decide)) ?_
  refine ah_cons (as_aload_n C dX6_judge_35 rfl) ?_
  refine ah_cons (as_gfi C dX6_judge_36 fgX6_33) ?_
  refine ah_cons (as_iconst C dX6_judge_39 (by decide)) ?_
  refine ah_cons (as_icmp_eq C dX6_judge_40 (by decide)) ?_
  refine ah_cons (as_iload C dX6_judge_43) ?_
  refine ah_cons (as_aload_n C dX6_judge_45 rfl) ?_
  refine ah_cons (as_gfi C dX6_judge_46 fgX6_45) ?_
  refine ah_cons (as_icmp_le C dX6_judge_49 (by decide)) ?_
  refine ah_cons (as_aload_n C dX6_judge_52 rfl) ?_
  refine ah_cons (as_iload C dX6_judge_53) ?_
  refine ah_cons (as_pfi C dX6_judge_55 fpX6_45) ?_
  refine ah_cons (as_aload_n C dX6_judge_58 rfl) ?_
  refine ah_cons (as_iload_n C dX6_judge_59 rfl) ?_
  refine ah_cons (as_pfi C dX6_judge_60 fpX6_36) ?_
  refine ah_cons (as_aload_n C dX6_judge_63 rfl) ?_
  refine ah_cons (as_iload_n C dX6_judge_64 rfl) ?_
  refine ah_cons (as_pfi C dX6_judge_65 fpX6_39) ?_
  refine ah_cons (as_aload_n C dX6_judge_68 rfl) ?_
  refine ah_cons (as_iload_n C dX6_judge_69 rfl) ?_
  refine ah_cons (as_pfi C dX6_judge_70 fpX6_42) ?_
  refine ah_cons (as_aload_n C dX6_judge_73 rfl) ?_
  refine ah_cons (as_gfr C dX6_judge_74 fgX6_15) ?_
  refine ah_cons (as_iconst C dX6_judge_77 (by decide)) ?_
  refine ah_cons (as_aload_n C dX6_judge_78 rfl) ?_
  refine ah_cons (as_gfr C dX6_judge_79 fgX6_9) ?_
  refine ah_cons (as_iconst C dX6_judge_82 (by decide)) ?_
  refine ah_cons (as_bipush C dX6_judge_83 (by decide)) ?_
  refine ah_cons (as_acp C dX6_judge_85 wt_179 wt_180 wt_181 wt_182 ⟨by decide, by decide⟩) ?_
  refine ah_cons (as_vret C rfl dX6_judge_88) ?_
  exact ah_nil
def kX6_place (rec : ah_F) (f : Nat) : List (Nat × ah_S) := [
  (54, ah_ild 5 56),
  (0, ah_ild 4 2),
  (2, ah_ald 0 3),
  (3, ah_gfi [6] 10 6),
  (6, ah_cgt 9 10),
  (9, ah_vret),
  (10, ah_ild 1 11),
  (11, ah_ald 0 12),
  (12, ah_gfi [6] 8 15),
  (15, ah_clt 27 18),
  (18, ah_ald 0 19),
  (19, ah_ild 2 20),
  (20, ah_ild 3 21),
  (21, ah_ild 4 23),
  (23, ah_vV [(6, aX6_judge f)] 4 26),
  (26, ah_vret),
  (27, ah_ald 0 28),
  (28, ah_ild 1 29),
  (29, ah_push (.int (1)) 30),
  (30, ah_bin (fun x y => x + y) 31),
  (31, ah_ild 2 32),
  (32, ah_ild 3 33),
  (33, ah_ild 4 35),
  (35, ah_vV [(6, rec)] 5 38),
  (38, ah_ald 0 39),
  (39, ah_gfr [6] 5 42),
  (42, ah_ild 1 43),
  (43, ah_iald 0 44),
  (44, ah_push (.int (-1)) 45),
  (45, ah_ceq 49 48),
  (48, ah_vret),
  (49, ah_ild 1 50),
  (50, ah_push (.int (1)) 51),
  (51, ah_bin (fun x y => x + y) 52),
  (52, ah_lim 54 [0, 1, 2, 3, 4, 5] (ah_ist 5 54)),
  (56, ah_ald 0 57),
  (57, ah_gfi [6] 8 60),
  (60, ah_clt 63 169),
  (63, ah_ald 0 64),
  (64, ah_gfr [6] 5 67),
  (67, ah_ild 5 69),
  (69, ah_iald 0 70),
  (70, ah_push (.int (-1)) 71),
  (71, ah_ceq 74 163),
  (74, ah_ald 0 75),
  (75, ah_gfr [6] 6 78),
  (78, ah_ild 1 79),
  (79, ah_aald 3 80),
  (80, ah_ild 5 82),
  (82, ah_iald 0 83),
  (83, ah_push (.int (-1)) 84),
  (84, ah_ceq 163 87),
  (87, ah_ald 0 88),
  (88, ah_gfr [6] 7 91),
  (91, ah_ild 1 92),
  (92, ah_iald 0 93),
  (93, ah_ald 0 94),
  (94, ah_gfr [6] 7 97),
  (97, ah_ild 5 99),
  (99, ah_iald 0 100),
  (100, ah_bin (fun x y => x - y) 101),
  (101, ah_abs 104),
  (104, ah_ist 6 106),
  (106, ah_ald 0 107),
  (107, ah_gfr [6] 5 110),
  (110, ah_ild 1 111),
  (111, ah_ild 5 113),
  (113, ah_iast 114),
  (114, ah_ald 0 115),
  (115, ah_gfr [6] 5 118),
  (118, ah_ild 5 120),
  (120, ah_ild 1 121),
  (121, ah_iast 122),
  (122, ah_ald 0 123),
  (123, ah_ild 1 124),
  (124, ah_push (.int (1)) 125),
  (125, ah_bin (fun x y => x + y) 126),
  (126, ah_ild 2 127),
  (127, ah_push (.int (1)) 128),
  (128, ah_bin (fun x y => x + y) 129),
  (129, ah_ild 3 130),
  (130, ah_ald 0 131),
  (131, ah_gfr [6] 6 134),
  (134, ah_ild 1 135),
  (135, ah_aald 3 136),
  (136, ah_ild 5 138),
  (138, ah_iald 0 139),
  (139, ah_bin (fun x y => x + y) 140),
  (140, ah_ild 4 142),
  (142, ah_ild 6 144),
  (144, ah_bin (fun x y => x + y) 145),
  (145, ah_vV [(6, rec)] 5 148),
  (148, ah_ald 0 149),
  (149, ah_gfr [6] 5 152),
  (152, ah_ild 1 153),
  (153, ah_push (.int (-1)) 154),
  (154, ah_iast 155),
  (155, ah_ald 0 156),
  (156, ah_gfr [6] 5 159),
  (159, ah_ild 5 161),
  (161, ah_push (.int (-1)) 162),
  (162, ah_iast 163),
  (163, ah_inc 5 (1) 166),
  (166, ah_lim 54 [0, 1, 2, 3, 4, 5] (ah_goto 54)),
  (169, ah_vret)]
def aX6_place_d : Nat → Nat → ah_F
  | 0, _ => fun _ _ => none
  | d + 1, f => ah_fun (kX6_place (aX6_place_d d f) f) 7 f
set_option maxRecDepth 100000 in
set_option maxHeartbeats 4000000 in
theorem mX6_place_d {l : Launch} {s0 : State} {D : va_G} {tc : Nat → ClassId} {ad : Nat → Nat} {A : Nat → Prop} (hW : ah_W0 s0 ad A) (f : Nat) : ∀ d : Nat, ah_Met l s0 D tc ad A yX6_place cX6_place 7 none (3 + d) (84 + 26 * d) (aX6_place_d d f)
  | 0 => fun as h res e => by cases e
  | d + 1 => by
    have hrec := mX6_place_d (l := l) (D := D) (tc := tc) hW f d
    have hroom : 3 + d + 1 ≤ (ah_room (3 + (d + 1)) (84 + 26 * (d + 1))).frames ∧ 8 + (7 + 11) + (84 + 26 * d) ≤ (ah_room (3 + (d + 1)) (84 + 26 * (d + 1))).locals := ⟨by show _ ≤ 3 + (d + 1); omega, by show _ ≤ 84 + 26 * (d + 1); omega⟩
    refine ah_met hW.1 (by decide) (fun p e s m args below meth c res C => ?_)
    refine ah_cons (as_iload C dX6_place_54) ?_
    refine ah_cons (as_iload C dX6_place_0) ?_
    refine ah_cons (as_aload_n C dX6_place_2 rfl) ?_
    refine ah_cons (as_gfi C dX6_place_3 fgX6_30) ?_
    refine ah_cons (as_icmp_le C dX6_place_6 (by decide)) ?_
    refine ah_cons (as_vret C rfl dX6_place_9) ?_
    refine ah_cons (as_iload_n C dX6_place_10 rfl) ?_
    refine ah_cons (as_aload_n C dX6_place_11 rfl) ?_
    refine ah_cons (as_gfi C dX6_place_12 fgX6_67) ?_
    refine ah_cons (as_icmp_lt C dX6_place_15 (by decide)) ?_
    refine ah_cons (as_aload_n C dX6_place_18 rfl) ?_
    refine ah_cons (as_iload_n C dX6_place_19 rfl) ?_
    refine ah_cons (as_iload_n C dX6_place_20 rfl) ?_
    refine ah_cons (as_iload C dX6_place_21) ?_
    refine ah_cons (as_vV (ah_t1 (ah_okV (n := 3) C (mX6_judge hW f) dX6_place_23 (ci := 6) rfl wt_184 wt_186 wt_185 wt_163 wt_187 ⟨by decide, by decide, by decide, by decide⟩ ⟨by show _ ≤ 3 + (d + 1); omega, by show _ ≤ 84 + 26 * (d + 1); omega⟩) ah_t0)) ?_
    refine ah_cons (as_vret C rfl dX6_place_26) ?_
    refine ah_cons (as_aload_n C dX6_place_27 rfl) ?_
    refine ah_cons (as_iload_n C dX6_place_28 rfl) ?_
    refine ah_cons (as_iconst C dX6_place_29 (by decide)) ?_
    refine ah_cons (as_iadd C dX6_place_30) ?_
    refine ah_cons (as_iload_n C dX6_place_31 rfl) ?_
    refine ah_cons (as_iload_n C dX6_place_32 rfl) ?_
    refine ah_cons (as_iload C dX6_place_33) ?_
    refine ah_cons (as_vV (ah_t1 (ah_okV (n := 4) C hrec dX6_place_35 (ci := 6) rfl wt_188 wt_190 wt_189 wt_163 wt_191 ⟨by decide, by decide, by decide, by decide⟩ hroom) ah_t0)) ?_
    refine ah_cons (as_aload_n C dX6_place_38 rfl) ?_
    refine ah_cons (as_gfr C dX6_place_39 fgX6_15) ?_
    refine ah_cons (as_iload_n C dX6_place_42 rfl) ?_
    refine ah_cons (as_iald C dX6_place_43) ?_
    refine ah_cons (as_iconst C dX6_place_44 (by decide)) ?_
    refine ah_cons (as_icmp_eq C dX6_place_45 (by decide)) ?_
    refine ah_cons (as_vret C rfl dX6_place_48) ?_
    refine ah_cons (as_iload_n C dX6_place_49 rfl) ?_
    refine ah_cons (as_iconst C dX6_place_50 (by decide)) ?_
    refine ah_cons (as_iadd C dX6_place_51) ?_
    refine ah_cons (as_lim (as_istore C dX6_place_52 (by decide))) ?_
    refine ah_cons (as_aload_n C dX6_place_56 rfl) ?_
    refine ah_cons (as_gfi C dX6_place_57 fgX6_67) ?_
    refine ah_cons (as_icmp_ge C dX6_place_60 (by decide)) ?_
    refine ah_cons (as_aload_n C dX6_place_63 rfl) ?_
    refine ah_cons (as_gfr C dX6_place_64 fgX6_15) ?_
    refine ah_cons (as_iload C dX6_place_67) ?_
    refine ah_cons (as_iald C dX6_place_69) ?_
    refine ah_cons (as_iconst C dX6_place_70 (by decide)) ?_
    refine ah_cons (as_icmp_ne C dX6_place_71 (by decide)) ?_
    refine ah_cons (as_aload_n C dX6_place_74 rfl) ?_
    refine ah_cons (as_gfr C dX6_place_75 fgX6_20) ?_
    refine ah_cons (as_iload_n C dX6_place_78 rfl) ?_
    refine ah_cons (as_aald C dX6_place_79 rfl rfl) ?_
    refine ah_cons (as_iload C dX6_place_80) ?_
    refine ah_cons (as_iald C dX6_place_82) ?_
    refine ah_cons (as_iconst C dX6_place_83 (by decide)) ?_
    refine ah_cons (as_icmp_eq C dX6_place_84 (by decide)) ?_
    refine ah_cons (as_aload_n C dX6_place_87 rfl) ?_
    refine ah_cons (as_gfr C dX6_place_88 fgX6_23) ?_
    refine ah_cons (as_iload_n C dX6_place_91 rfl) ?_
    refine ah_cons (as_iald C dX6_place_92) ?_
    refine ah_cons (as_aload_n C dX6_place_93 rfl) ?_
    refine ah_cons (as_gfr C dX6_place_94 fgX6_23) ?_
    refine ah_cons (as_iload C dX6_place_97) ?_
    refine ah_cons (as_iald C dX6_place_99) ?_
    refine ah_cons (as_isub C dX6_place_100) ?_
    refine ah_cons (as_abs C dX6_place_101 wt_192 wt_22 wt_23 wt_24 ⟨by show _ ≤ 3 + (d + 1); omega, by show _ ≤ 84 + 26 * (d + 1); omega⟩) ?_
    refine ah_cons (as_istore C dX6_place_104 (by decide)) ?_
    refine ah_cons (as_aload_n C dX6_place_106 rfl) ?_
    refine ah_cons (as_gfr C dX6_place_107 fgX6_15) ?_
    refine ah_cons (as_iload_n C dX6_place_110 rfl) ?_
    refine ah_cons (as_iload C dX6_place_111) ?_
    refine ah_cons (as_iast C dX6_place_113) ?_
    refine ah_cons (as_aload_n C dX6_place_114 rfl) ?_
    refine ah_cons (as_gfr C dX6_place_115 fgX6_15) ?_
    refine ah_cons (as_iload C dX6_place_118) ?_
    refine ah_cons (as_iload_n C dX6_place_120 rfl) ?_
    refine ah_cons (as_iast C dX6_place_121) ?_
    refine ah_cons (as_aload_n C dX6_place_122 rfl) ?_
    refine ah_cons (as_iload_n C dX6_place_123 rfl) ?_
    refine ah_cons (as_iconst C dX6_place_124 (by decide)) ?_
    refine ah_cons (as_iadd C dX6_place_125) ?_
    refine ah_cons (as_iload_n C dX6_place_126 rfl) ?_
    refine ah_cons (as_iconst C dX6_place_127 (by decide)) ?_
    refine ah_cons (as_iadd C dX6_place_128) ?_
    refine ah_cons (as_iload_n C dX6_place_129 rfl) ?_
    refine ah_cons (as_aload_n C dX6_place_130 rfl) ?_
    refine ah_cons (as_gfr C dX6_place_131 fgX6_20) ?_
    refine ah_cons (as_iload_n C dX6_place_134 rfl) ?_
    refine ah_cons (as_aald C dX6_place_135 rfl rfl) ?_
    refine ah_cons (as_iload C dX6_place_136) ?_
    refine ah_cons (as_iald C dX6_place_138) ?_
    refine ah_cons (as_iadd C dX6_place_139) ?_
    refine ah_cons (as_iload C dX6_place_140) ?_
    refine ah_cons (as_iload C dX6_place_142) ?_
    refine ah_cons (as_iadd C dX6_place_144) ?_
    refine ah_cons (as_vV (ah_t1 (ah_okV (n := 4) C hrec dX6_place_145 (ci := 6) rfl wt_188 wt_190 wt_189 wt_163 wt_191 ⟨by decide, by decide, by decide, by decide⟩ hroom) ah_t0)) ?_
    refine ah_cons (as_aload_n C dX6_place_148 rfl) ?_
    refine ah_cons (as_gfr C dX6_place_149 fgX6_15) ?_
    refine ah_cons (as_iload_n C dX6_place_152 rfl) ?_
    refine ah_cons (as_iconst C dX6_place_153 (by decide)) ?_
    refine ah_cons (as_iast C dX6_place_154) ?_
    refine ah_cons (as_aload_n C dX6_place_155 rfl) ?_
    refine ah_cons (as_gfr C dX6_place_156 fgX6_15) ?_
    refine ah_cons (as_iload C dX6_place_159) ?_
    refine ah_cons (as_iconst C dX6_place_161 (by decide)) ?_
    refine ah_cons (as_iast C dX6_place_162) ?_
    refine ah_cons (as_iinc C dX6_place_163 (by decide) (by decide)) ?_
    refine ah_cons (as_lim (as_goto C dX6_place_166 (by decide))) ?_
    refine ah_cons (as_vret C rfl dX6_place_169) ?_
    exact ah_nil
def aX6_place (f : Nat) : ah_F := aX6_place_d 12 f
theorem mX6_place {l : Launch} {s0 : State} {D : va_G} {tc : Nat → ClassId} {ad : Nat → Nat} {A : Nat → Prop} (hW : ah_W0 s0 ad A) (f : Nat) : ah_Met l s0 D tc ad A yX6_place cX6_place 7 none 15 396 (aX6_place f) := mX6_place_d hW f 12
def kX6_seek (f : Nat) : List (Nat × ah_S) := [
  (0, ah_ald 0 1),
  (1, ah_ild 2 2),
  (2, ah_pfi [6] 9 5),
  (5, ah_ald 0 6),
  (6, ah_ild 3 7),
  (7, ah_pfi [6] 10 10),
  (10, ah_ald 0 11),
  (11, ah_push (.int (0)) 12),
  (12, ah_pfi [6] 0 15),
  (15, ah_ald 0 16),
  (16, ah_push (.int (0)) 17),
  (17, ah_pfi [6] 1 20),
  (20, ah_ald 0 21),
  (21, ah_push (.int (0)) 22),
  (22, ah_pfi [6] 2 25),
  (25, ah_ald 0 26),
  (26, ah_push (.int (0)) 27),
  (27, ah_pfi [6] 3 30),
  (30, ah_ald 0 31),
  (31, ah_push (.int (0)) 32),
  (32, ah_pfi [6] 11 35),
  (35, ah_ald 0 36),
  (36, ah_gfr [6] 4 39),
  (39, ah_push (.int (-1)) 40),
  (40, ah_sV (aJ7_fill_53178 f) 2 43),
  (43, ah_ald 0 44),
  (44, ah_gfr [6] 5 47),
  (47, ah_push (.int (-1)) 48),
  (48, ah_sV (aJ7_fill_53178 f) 2 51),
  (51, ah_ald 0 52),
  (52, ah_ald 1 53),
  (53, ah_vV [(6, aX6_learn f)] 2 56),
  (56, ah_ald 0 57),
  (57, ah_push (.int (0)) 58),
  (58, ah_push (.int (0)) 59),
  (59, ah_push (.int (0)) 60),
  (60, ah_push (.int (0)) 61),
  (61, ah_vV [(6, aX6_place f)] 5 64),
  (64, ah_vret)]
def aX6_seek (f : Nat) : ah_F := ah_fun (kX6_seek f) 4 f
set_option maxRecDepth 100000 in
set_option maxHeartbeats 4000000 in
theorem mX6_seek {l : Launch} {s0 : State} {D : va_G} {tc : Nat → ClassId} {ad : Nat → Nat} {A : Nat → Prop} (hW : ah_W0 s0 ad A) (f : Nat) : ah_Met l s0 D tc ad A yX6_seek cX6_seek 4 none 16 422 (aX6_seek f) := by
  refine ah_met hW.1 (by decide) (fun p e s m args below meth c res C => ?_)
  refine ah_cons (as_aload_n C dX6_seek_0 rfl) ?_
  refine ah_cons (as_iload_n C dX6_seek_1 rfl) ?_
  refine ah_cons (as_pfi C dX6_seek_2 fpX6_26) ?_
  refine ah_cons (as_aload_n C dX6_seek_5 rfl) ?_
  refine ah_cons (as_iload_n C dX6_seek_6 rfl) ?_
  refine ah_cons (as_pfi C dX6_seek_7 fpX6_30) ?_
  refine ah_cons (as_aload_n C dX6_seek_10 rfl) ?_
  refine ah_cons (as_iconst C dX6_seek_11 (by decide)) ?_
  refine ah_cons (as_pfi C dX6_seek_12 fpX6_33) ?_
  refine ah_cons (as_aload_n C dX6_seek_15 rfl) ?_
  refine ah_cons (as_iconst C dX6_seek_16 (by decide)) ?_
  refine ah_cons (as_pfi C dX6_seek_17 fpX6_36) ?_
  refine ah_cons (as_aload_n C dX6_seek_20 rfl) ?_
  refine ah_cons (as_iconst C dX6_seek_21 (by decide)) ?_
  refine ah_cons (as_pfi C dX6_seek_22 fpX6_39) ?_
  refine ah_cons (as_aload_n C dX6_seek_25 rfl) ?_
  refine ah_cons (as_iconst C dX6_seek_26 (by decide)) ?_
  refine ah_cons (as_pfi C dX6_seek_27 fpX6_42) ?_
  refine ah_cons (as_aload_n C dX6_seek_30 rfl) ?_
  refine ah_cons (as_iconst C dX6_seek_31 (by decide)) ?_
  refine ah_cons (as_pfi C dX6_seek_32 fpX6_45) ?_
  refine ah_cons (as_aload_n C dX6_seek_35 rfl) ?_
  refine ah_cons (as_gfr C dX6_seek_36 fgX6_9) ?_
  refine ah_cons (as_iconst C dX6_seek_39 (by decide)) ?_
  refine ah_cons (as_sV C (mJ7_fill_53178 hW f) dX6_seek_40 wt_193 wt_194 wt_195 wt_196 ⟨by decide, by decide, by decide⟩ ⟨by decide, by decide⟩) ?_
  refine ah_cons (as_aload_n C dX6_seek_43 rfl) ?_
  refine ah_cons (as_gfr C dX6_seek_44 fgX6_15) ?_
  refine ah_cons (as_iconst C dX6_seek_47 (by decide)) ?_
  refine ah_cons (as_sV C (mJ7_fill_53178 hW f) dX6_seek_48 wt_193 wt_194 wt_195 wt_196 ⟨by decide, by decide, by decide⟩ ⟨by decide, by decide⟩) ?_
  refine ah_cons (as_aload_n C dX6_seek_51 rfl) ?_
  refine ah_cons (as_aload_n C dX6_seek_52 rfl) ?_
  refine ah_cons (as_vV (ah_t1 (ah_okV (n := 1) C (mX6_learn hW f) dX6_seek_53 (ci := 6) rfl wt_197 wt_199 wt_198 wt_163 wt_200 ⟨by decide, by decide, by decide, by decide⟩ ⟨by decide, by decide⟩) ah_t0)) ?_
  refine ah_cons (as_aload_n C dX6_seek_56 rfl) ?_
  refine ah_cons (as_iconst C dX6_seek_57 (by decide)) ?_
  refine ah_cons (as_iconst C dX6_seek_58 (by decide)) ?_
  refine ah_cons (as_iconst C dX6_seek_59 (by decide)) ?_
  refine ah_cons (as_iconst C dX6_seek_60 (by decide)) ?_
  refine ah_cons (as_vV (ah_t1 (ah_okV (n := 4) C (mX6_place hW f) dX6_seek_61 (ci := 6) rfl wt_188 wt_190 wt_189 wt_163 wt_191 ⟨by decide, by decide, by decide, by decide⟩ ⟨by decide, by decide⟩) ah_t0)) ?_
  refine ah_cons (as_vret C rfl dX6_seek_64) ?_
  exact ah_nil
def kX7_note (f : Nat) : List (Nat × ah_S) := [
  (0, ah_ald 0 1),
  (1, ah_gfi [7] 0 4),
  (4, ah_push (.int (8)) 6),
  (6, ah_clt 11 9),
  (9, ah_push (.int (0)) 10),
  (10, ah_zret),
  (11, ah_ald 0 12),
  (12, ah_gfr [7] 1 15),
  (15, ah_ald 0 16),
  (16, ah_gfi [7] 0 19),
  (19, ah_ild 1 20),
  (20, ah_iast 21),
  (21, ah_ald 0 22),
  (22, ah_gfr [7] 2 25),
  (25, ah_ald 0 26),
  (26, ah_gfi [7] 0 29),
  (29, ah_ild 2 30),
  (30, ah_iast 31),
  (31, ah_ald 0 32),
  (32, ah_gfr [7] 3 35),
  (35, ah_ald 0 36),
  (36, ah_gfi [7] 0 39),
  (39, ah_ild 3 40),
  (40, ah_iast 41),
  (41, ah_ald 0 42),
  (42, ah_dupR 43),
  (43, ah_gfi [7] 0 46),
  (46, ah_push (.int (1)) 47),
  (47, ah_bin (fun x y => x + y) 48),
  (48, ah_pfi [7] 0 51),
  (51, ah_push (.int (1)) 52),
  (52, ah_zret)]
def aX7_note (f : Nat) : ah_F := ah_fun (kX7_note f) 4 f
set_option maxRecDepth 100000 in
set_option maxHeartbeats 4000000 in
theorem mX7_note {l : Launch} {s0 : State} {D : va_G} {tc : Nat → ClassId} {ad : Nat → Nat} {A : Nat → Prop} (hW : ah_W0 s0 ad A) (f : Nat) : ah_Met l s0 D tc ad A yX7_note cX7_note 4 (some .boolean) 0 0 (aX7_note f) := by
  refine ah_met hW.1 (by decide) (fun p e s m args below meth c res C => ?_)
  refine ah_cons (as_aload_n C dX7_note_0 rfl) ?_
  refine ah_cons (as_gfi C dX7_note_1 fgX7_9) ?_
  refine ah_cons (as_bipush C dX7_note_4 (by decide)) ?_
  refine ah_cons (as_icmp_lt C dX7_note_6 (by decide)) ?_
  refine ah_cons (as_iconst C dX7_note_9 (by decide)) ?_
  refine ah_cons (as_zret C rfl dX7_note_10) ?_
  refine ah_cons (as_aload_n C dX7_note_11 rfl) ?_
  refine ah_cons (as_gfr C dX7_note_12 fgX7_15) ?_
  refine ah_cons (as_aload_n C dX7_note_15 rfl) ?_
  refine ah_cons (as_gfi C dX7_note_16 fgX7_9) ?_
  refine ah_cons (as_iload_n C dX7_note_19 rfl) ?_
  refine ah_cons (as_iast C dX7_note_20) ?_
  refine ah_cons (as_aload_n C dX7_note_21 rfl) ?_
  refine ah_cons (as_gfr C dX7_note_22 fgX7_19) ?_
  refine ah_cons (as_aload_n C dX7_note_25 rfl) ?_
  refine ah_cons (as_gfi C dX7_note_26 fgX7_9) ?_
  refine ah_cons (as_iload_n C dX7_note_29 rfl) ?_
  refine ah_cons (as_iast C dX7_note_30) ?_
  refine ah_cons (as_aload_n C dX7_note_31 rfl) ?_
  refine ah_cons (as_gfr C dX7_note_32 fgX7_22) ?_
  refine ah_cons (as_aload_n C dX7_note_35 rfl) ?_
  refine ah_cons (as_gfi C dX7_note_36 fgX7_9) ?_
  refine ah_cons (as_iload_n C dX7_note_39 rfl) ?_
  refine ah_cons (as_iast C dX7_note_40) ?_
  refine ah_cons (as_aload_n C dX7_note_41 rfl) ?_
  refine ah_cons (as_dupR C dX7_note_42) ?_
  refine ah_cons (as_gfi C dX7_note_43 fgX7_9) ?_
  refine ah_cons (as_iconst C dX7_note_46 (by decide)) ?_
  refine ah_cons (as_iadd C dX7_note_47) ?_
  refine ah_cons (as_pfi C dX7_note_48 fpX7_9) ?_
  refine ah_cons (as_iconst C dX7_note_51 (by decide)) ?_
  refine ah_cons (as_zret C rfl dX7_note_52) ?_
  exact ah_nil
def kX7_clear (f : Nat) : List (Nat × ah_S) := [
  (0, ah_ald 0 1),
  (1, ah_push (.int (0)) 2),
  (2, ah_pfi [7] 0 5),
  (5, ah_vret)]
def aX7_clear (f : Nat) : ah_F := ah_fun (kX7_clear f) 1 f
set_option maxRecDepth 100000 in
set_option maxHeartbeats 4000000 in
theorem mX7_clear {l : Launch} {s0 : State} {D : va_G} {tc : Nat → ClassId} {ad : Nat → Nat} {A : Nat → Prop} (hW : ah_W0 s0 ad A) (f : Nat) : ah_Met l s0 D tc ad A yX7_clear cX7_clear 1 none 0 0 (aX7_clear f) := by
  refine ah_met hW.1 (by decide) (fun p e s m args below meth c res C => ?_)
  refine ah_cons (as_aload_n C dX7_clear_0 rfl) ?_
  refine ah_cons (as_iconst C dX7_clear_1 (by decide)) ?_
  refine ah_cons (as_pfi C dX7_clear_2 fpX7_9) ?_
  refine ah_cons (as_vret C rfl dX7_clear_5) ?_
  exact ah_nil
def kX7_agrees (f : Nat) : List (Nat × ah_S) := [
  (3, ah_ild 4 5),
  (0, ah_push (.int (0)) 1),
  (1, ah_lim 3 [0, 1, 2, 3, 4] (ah_ist 4 3)),
  (5, ah_ald 0 6),
  (6, ah_gfi [7] 0 9),
  (9, ah_clt 12 54),
  (12, ah_ald 0 13),
  (13, ah_gfr [7] 1 16),
  (16, ah_ild 4 18),
  (18, ah_iald 0 19),
  (19, ah_ild 2 20),
  (20, ah_ceq 23 48),
  (23, ah_ald 1 24),
  (24, ah_ild 2 25),
  (25, ah_ild 3 26),
  (26, ah_ald 0 27),
  (27, ah_gfr [7] 2 30),
  (30, ah_ild 4 32),
  (32, ah_iald 0 33),
  (33, ah_vI [(0, aX0_likenessAt f)] 4 36),
  (36, ah_ald 0 37),
  (37, ah_gfr [7] 3 40),
  (40, ah_ild 4 42),
  (42, ah_iald 0 43),
  (43, ah_ceq 48 46),
  (46, ah_push (.int (0)) 47),
  (47, ah_zret),
  (48, ah_inc 4 (1) 51),
  (51, ah_lim 3 [0, 1, 2, 3, 4] (ah_goto 3)),
  (54, ah_push (.int (1)) 55),
  (55, ah_zret)]
def aX7_agrees (f : Nat) : ah_F := ah_fun (kX7_agrees f) 5 f
set_option maxRecDepth 100000 in
set_option maxHeartbeats 4000000 in
theorem mX7_agrees {l : Launch} {s0 : State} {D : va_G} {tc : Nat → ClassId} {ad : Nat → Nat} {A : Nat → Prop} (hW : ah_W0 s0 ad A) (f : Nat) : ah_Met l s0 D tc ad A yX7_agrees cX7_agrees 5 (some .boolean) 4 91 (aX7_agrees f) := by
  refine ah_met hW.1 (by decide) (fun p e s m args below meth c res C => ?_)
  refine ah_cons (as_iload C dX7_agrees_3) ?_
  refine ah_cons (as_iconst C dX7_agrees_0 (by decide)) ?_
  refine ah_cons (as_lim (as_istore C dX7_agrees_1 (by decide))) ?_
  refine ah_cons (as_aload_n C dX7_agrees_5 rfl) ?_
  refine ah_cons (as_gfi C dX7_agrees_6 fgX7_9) ?_
  refine ah_cons (as_icmp_ge C dX7_agrees_9 (by decide)) ?_
  refine ah_cons (as_aload_n C dX7_agrees_12 rfl) ?_
  refine ah_cons (as_gfr C dX7_agrees_13 fgX7_15) ?_
  refine ah_cons (as_iload C dX7_agrees_16) ?_
  refine ah_cons (as_iald C dX7_agrees_18) ?_
  refine ah_cons (as_iload_n C dX7_agrees_19 rfl) ?_
  refine ah_cons (as_icmp_ne C dX7_agrees_20 (by decide)) ?_
  refine ah_cons (as_aload_n C dX7_agrees_23 rfl) ?_
  refine ah_cons (as_iload_n C dX7_agrees_24 rfl) ?_
  refine ah_cons (as_iload_n C dX7_agrees_25 rfl) ?_
  refine ah_cons (as_aload_n C dX7_agrees_26 rfl) ?_
  refine ah_cons (as_gfr C dX7_agrees_27 fgX7_19) ?_
  refine ah_cons (as_iload C dX7_agrees_30) ?_
  refine ah_cons (as_iald C dX7_agrees_32) ?_
  refine ah_cons (as_vI (ah_t1 (ah_okV (n := 3) C (mX0_likenessAt hW f) dX7_agrees_33 (ci := 0) rfl wt_201 wt_203 wt_202 wt_4 wt_204 ⟨by decide, by decide, by decide, by decide⟩ ⟨by decide, by decide⟩) ah_t0)) ?_
  refine ah_cons (as_aload_n C dX7_agrees_36 rfl) ?_
  refine ah_cons (as_gfr C dX7_agrees_37 fgX7_22) ?_
  refine ah_cons (as_iload C dX7_agrees_40) ?_
  refine ah_cons (as_iald C dX7_agrees_42) ?_
  refine ah_cons (as_icmp_eq C dX7_agrees_43 (by decide)) ?_
  refine ah_cons (as_iconst C dX7_agrees_46 (by decide)) ?_
  refine ah_cons (as_zret C rfl dX7_agrees_47) ?_
  refine ah_cons (as_iinc C dX7_agrees_48 (by decide) (by decide)) ?_
  refine ah_cons (as_lim (as_goto C dX7_agrees_51 (by decide))) ?_
  refine ah_cons (as_iconst C dX7_agrees_54 (by decide)) ?_
  refine ah_cons (as_zret C rfl dX7_agrees_55) ?_
  exact ah_nil
def kX7_sizesOf (f : Nat) : List (Nat × ah_S) := [
  (5, ah_ild 4 7),
  (0, ah_push (.int (0)) 1),
  (1, ah_ist 3 2),
  (2, ah_push (.int (0)) 3),
  (3, ah_lim 5 [0, 1, 2, 3, 4] (ah_ist 4 5)),
  (7, ah_push (.int (10)) 9),
  (9, ah_clt 12 36),
  (12, ah_ald 0 13),
  (13, ah_ald 1 14),
  (14, ah_ild 2 15),
  (15, ah_ild 4 17),
  (17, ah_vI [(7, aX7_agrees f)] 4 20),
  (20, ah_zeq 30 23),
  (23, ah_ild 3 24),
  (24, ah_push (.int (1)) 25),
  (25, ah_ild 4 27),
  (27, ah_bin (fun x y => x <<< (y &&& 31)) 28),
  (28, ah_bin (fun x y => x ||| y) 29),
  (29, ah_ist 3 30),
  (30, ah_inc 4 (1) 33),
  (33, ah_lim 5 [0, 1, 2, 3, 4] (ah_goto 5)),
  (36, ah_ild 3 37),
  (37, ah_iret)]
def aX7_sizesOf (f : Nat) : ah_F := ah_fun (kX7_sizesOf f) 5 f
set_option maxRecDepth 100000 in
set_option maxHeartbeats 4000000 in
theorem mX7_sizesOf {l : Launch} {s0 : State} {D : va_G} {tc : Nat → ClassId} {ad : Nat → Nat} {A : Nat → Prop} (hW : ah_W0 s0 ad A) (f : Nat) : ah_Met l s0 D tc ad A yX7_sizesOf cX7_sizesOf 5 (some .int) 5 115 (aX7_sizesOf f) := by
  refine ah_met hW.1 (by decide) (fun p e s m args below meth c res C => ?_)
  refine ah_cons (as_iload C dX7_sizesOf_5) ?_
  refine ah_cons (as_iconst C dX7_sizesOf_0 (by decide)) ?_
  refine ah_cons (as_istore_n C dX7_sizesOf_1 rfl (by decide)) ?_
  refine ah_cons (as_iconst C dX7_sizesOf_2 (by decide)) ?_
  refine ah_cons (as_lim (as_istore C dX7_sizesOf_3 (by decide))) ?_
  refine ah_cons (as_bipush C dX7_sizesOf_7 (by decide)) ?_
  refine ah_cons (as_icmp_ge C dX7_sizesOf_9 (by decide)) ?_
  refine ah_cons (as_aload_n C dX7_sizesOf_12 rfl) ?_
  refine ah_cons (as_aload_n C dX7_sizesOf_13 rfl) ?_
  refine ah_cons (as_iload_n C dX7_sizesOf_14 rfl) ?_
  refine ah_cons (as_iload C dX7_sizesOf_15) ?_
  refine ah_cons (as_vI (ah_t1 (ah_okV (n := 3) C (mX7_agrees hW f) dX7_sizesOf_17 (ci := 7) rfl wt_205 wt_207 wt_206 wt_128 wt_208 ⟨by decide, by decide, by decide, by decide⟩ ⟨by decide, by decide⟩) ah_t0)) ?_
  refine ah_cons (as_if_eq C dX7_sizesOf_20 (by decide)) ?_
  refine ah_cons (as_iload_n C dX7_sizesOf_23 rfl) ?_
  refine ah_cons (as_iconst C dX7_sizesOf_24 (by decide)) ?_
  refine ah_cons (as_iload C dX7_sizesOf_25) ?_
  refine ah_cons (as_ishl C dX7_sizesOf_27) ?_
  refine ah_cons (as_ior C dX7_sizesOf_28) ?_
  refine ah_cons (as_istore_n C dX7_sizesOf_29 rfl (by decide)) ?_
  refine ah_cons (as_iinc C dX7_sizesOf_30 (by decide) (by decide)) ?_
  refine ah_cons (as_lim (as_goto C dX7_sizesOf_33 (by decide))) ?_
  refine ah_cons (as_iload_n C dX7_sizesOf_36 rfl) ?_
  refine ah_cons (as_iret C rfl dX7_sizesOf_37) ?_
  exact ah_nil
def kX7_leftAtWorst (f : Nat) : List (Nat × ah_S) := [
  (14, ah_ild 6 16),
  (0, ah_ald 0 1),
  (1, ah_gfr [7] 4 4),
  (4, ah_push (.int (0)) 5),
  (5, ah_sV (aJ7_fill_53178 f) 2 8),
  (8, ah_push (.int (0)) 9),
  (9, ah_ist 5 11),
  (11, ah_push (.int (0)) 12),
  (12, ah_lim 14 [0, 1, 2, 3, 4, 5, 6] (ah_ist 6 14)),
  (16, ah_push (.int (10)) 18),
  (18, ah_clt 21 87),
  (21, ah_ald 1 22),
  (22, ah_ild 2 23),
  (23, ah_ild 6 25),
  (25, ah_ild 3 26),
  (26, ah_vI [(0, aX0_likenessAt f)] 4 29),
  (29, ah_push (.int (-1)) 30),
  (30, ah_bin (fun x y => x - y) 31),
  (31, ah_ist 7 33),
  (33, ah_ild 4 35),
  (35, ah_ild 6 37),
  (37, ah_bin (fun x y => x >>> (y &&& 31)) 38),
  (38, ah_push (.int (1)) 39),
  (39, ah_bin (fun x y => x &&& y) 40),
  (40, ah_push (.int (1)) 41),
  (41, ah_ceq 44 81),
  (44, ah_ild 7 46),
  (46, ah_zlt 81 49),
  (49, ah_ild 7 51),
  (51, ah_push (.int (20)) 53),
  (53, ah_clt 56 81),
  (56, ah_ald 0 57),
  (57, ah_gfr [7] 4 60),
  (60, ah_ild 7 62),
  (62, ah_dup2 63),
  (63, ah_iald 0 64),
  (64, ah_push (.int (1)) 65),
  (65, ah_bin (fun x y => x + y) 66),
  (66, ah_iast 67),
  (67, ah_ild 5 69),
  (69, ah_ald 0 70),
  (70, ah_gfr [7] 4 73),
  (73, ah_ild 7 75),
  (75, ah_iald 0 76),
  (76, ah_max 79),
  (79, ah_ist 5 81),
  (81, ah_inc 6 (1) 84),
  (84, ah_lim 14 [0, 1, 2, 3, 4, 5, 6] (ah_goto 14)),
  (87, ah_ild 5 89),
  (89, ah_iret)]
def aX7_leftAtWorst (f : Nat) : ah_F := ah_fun (kX7_leftAtWorst f) 8 f
set_option maxRecDepth 100000 in
set_option maxHeartbeats 4000000 in
theorem mX7_leftAtWorst {l : Launch} {s0 : State} {D : va_G} {tc : Nat → ClassId} {ad : Nat → Nat} {A : Nat → Prop} (hW : ah_W0 s0 ad A) (f : Nat) : ah_Met l s0 D tc ad A yX7_leftAtWorst cX7_leftAtWorst 8 (some .int) 4 91 (aX7_leftAtWorst f) := by
  refine ah_met hW.1 (by decide) (fun p e s m args below meth c res C => ?_)
  refine ah_cons (as_iload C dX7_leftAtWorst_14) ?_
  refine ah_cons (as_aload_n C dX7_leftAtWorst_0 rfl) ?_
  refine ah_cons (as_gfr C dX7_leftAtWorst_1 fgX7_25) ?_
  refine ah_cons (as_iconst C dX7_leftAtWorst_4 (by decide)) ?_
  refine ah_cons (as_sV C (mJ7_fill_53178 hW f) dX7_leftAtWorst_5 wt_210 wt_194 wt_195 wt_196 ⟨by decide, by decide, by decide⟩ ⟨by decide, by decide⟩) ?_
  refine ah_cons (as_iconst C dX7_leftAtWorst_8 (by decide)) ?_
  refine ah_cons (as_istore C dX7_leftAtWorst_9 (by decide)) ?_
  refine ah_cons (as_iconst C dX7_leftAtWorst_11 (by decide)) ?_
  refine ah_cons (as_lim (as_istore C dX7_leftAtWorst_12 (by decide))) ?_
  refine ah_cons (as_bipush C dX7_leftAtWorst_16 (by decide)) ?_
  refine ah_cons (as_icmp_ge C dX7_leftAtWorst_18 (by decide)) ?_
  refine ah_cons (as_aload_n C dX7_leftAtWorst_21 rfl) ?_
  refine ah_cons (as_iload_n C dX7_leftAtWorst_22 rfl) ?_
  refine ah_cons (as_iload C dX7_leftAtWorst_23) ?_
  refine ah_cons (as_iload_n C dX7_leftAtWorst_25 rfl) ?_
  refine ah_cons (as_vI (ah_t1 (ah_okV (n := 3) C (mX0_likenessAt hW f) dX7_leftAtWorst_26 (ci := 0) rfl wt_201 wt_203 wt_202 wt_4 wt_204 ⟨by decide, by decide, by decide, by decide⟩ ⟨by decide, by decide⟩) ah_t0)) ?_
  refine ah_cons (as_iconst C dX7_leftAtWorst_29 (by decide)) ?_
  refine ah_cons (as_isub C dX7_leftAtWorst_30) ?_
  refine ah_cons (as_istore C dX7_leftAtWorst_31 (by decide)) ?_
  refine ah_cons (as_iload C dX7_leftAtWorst_33) ?_
  refine ah_cons (as_iload C dX7_leftAtWorst_35) ?_
  refine ah_cons (as_ishr C dX7_leftAtWorst_37) ?_
  refine ah_cons (as_iconst C dX7_leftAtWorst_38 (by decide)) ?_
  refine ah_cons (as_iand C dX7_leftAtWorst_39) ?_
  refine ah_cons (as_iconst C dX7_leftAtWorst_40 (by decide)) ?_
  refine ah_cons (as_icmp_ne C dX7_leftAtWorst_41 (by decide)) ?_
  refine ah_cons (as_iload C dX7_leftAtWorst_44) ?_
  refine ah_cons (as_if_lt C dX7_leftAtWorst_46 (by decide)) ?_
  refine ah_cons (as_iload C dX7_leftAtWorst_49) ?_
  refine ah_cons (as_bipush C dX7_leftAtWorst_51 (by decide)) ?_
  refine ah_cons (as_icmp_ge C dX7_leftAtWorst_53 (by decide)) ?_
  refine ah_cons (as_aload_n C dX7_leftAtWorst_56 rfl) ?_
  refine ah_cons (as_gfr C dX7_leftAtWorst_57 fgX7_25) ?_
  refine ah_cons (as_iload C dX7_leftAtWorst_60) ?_
  refine ah_cons (as_dup2 C dX7_leftAtWorst_62) ?_
  refine ah_cons (as_iald C dX7_leftAtWorst_63) ?_
  refine ah_cons (as_iconst C dX7_leftAtWorst_64 (by decide)) ?_
  refine ah_cons (as_iadd C dX7_leftAtWorst_65) ?_
  refine ah_cons (as_iast C dX7_leftAtWorst_66) ?_
  refine ah_cons (as_iload C dX7_leftAtWorst_67) ?_
  refine ah_cons (as_aload_n C dX7_leftAtWorst_69 rfl) ?_
  refine ah_cons (as_gfr C dX7_leftAtWorst_70 fgX7_25) ?_
  refine ah_cons (as_iload C dX7_leftAtWorst_73) ?_
  refine ah_cons (as_iald C dX7_leftAtWorst_75) ?_
  refine ah_cons (as_max C dX7_leftAtWorst_76 wt_211 wt_93 wt_23 wt_94 ⟨by decide, by decide⟩) ?_
  refine ah_cons (as_istore C dX7_leftAtWorst_79 (by decide)) ?_
  refine ah_cons (as_iinc C dX7_leftAtWorst_81 (by decide) (by decide)) ?_
  refine ah_cons (as_lim (as_goto C dX7_leftAtWorst_84 (by decide))) ?_
  refine ah_cons (as_iload C dX7_leftAtWorst_87) ?_
  refine ah_cons (as_iret C rfl dX7_leftAtWorst_89) ?_
  exact ah_nil
def kX7_lookOf (f : Nat) : List (Nat × ah_S) := [
  (16, ah_ild 6 18),
  (0, ah_ild 3 1),
  (1, ah_zeq 4 6),
  (4, ah_push (.int (-1)) 5),
  (5, ah_iret),
  (6, ah_push (.int (-1)) 7),
  (7, ah_ist 4 9),
  (9, ah_push (.int (11)) 11),
  (11, ah_ist 5 13),
  (13, ah_push (.int (0)) 14),
  (14, ah_lim 16 [0, 1, 2, 3, 4, 5, 6] (ah_ist 6 16)),
  (18, ah_ald 1 19),
  (19, ah_gfi [0] 2 22),
  (22, ah_clt 25 68),
  (25, ah_ild 6 27),
  (27, ah_ild 2 28),
  (28, ah_ceq 31 36),
  (31, ah_push (.int (11)) 33),
  (33, ah_goto 45),
  (36, ah_ald 0 37),
  (37, ah_ald 1 38),
  (38, ah_ild 2 39),
  (39, ah_ild 6 41),
  (41, ah_ild 3 42),
  (42, ah_vI [(7, aX7_leftAtWorst f)] 5 45),
  (45, ah_ist 7 47),
  (47, ah_ild 7 49),
  (49, ah_ild 5 51),
  (51, ah_clt 54 62),
  (54, ah_ild 7 56),
  (56, ah_ist 5 58),
  (58, ah_ild 6 60),
  (60, ah_ist 4 62),
  (62, ah_inc 6 (1) 65),
  (65, ah_lim 16 [0, 1, 2, 3, 4, 5, 6] (ah_goto 16)),
  (68, ah_ild 4 70),
  (70, ah_iret)]
def aX7_lookOf (f : Nat) : ah_F := ah_fun (kX7_lookOf f) 8 f
set_option maxRecDepth 100000 in
set_option maxHeartbeats 4000000 in
theorem mX7_lookOf {l : Launch} {s0 : State} {D : va_G} {tc : Nat → ClassId} {ad : Nat → Nat} {A : Nat → Prop} (hW : ah_W0 s0 ad A) (f : Nat) : ah_Met l s0 D tc ad A yX7_lookOf cX7_lookOf 8 (some .int) 5 118 (aX7_lookOf f) := by
  refine ah_met hW.1 (by decide) (fun p e s m args below meth c res C => ?_)
  refine ah_cons (as_iload C dX7_lookOf_16) ?_
  refine ah_cons (as_iload_n C dX7_lookOf_0 rfl) ?_
  refine ah_cons (as_if_ne C dX7_lookOf_1 (by decide)) ?_
  refine ah_cons (as_iconst C dX7_lookOf_4 (by decide)) ?_
  refine ah_cons (as_iret C rfl dX7_lookOf_5) ?_
  refine ah_cons (as_iconst C dX7_lookOf_6 (by decide)) ?_
  refine ah_cons (as_istore C dX7_lookOf_7 (by decide)) ?_
  refine ah_cons (as_bipush C dX7_lookOf_9 (by decide)) ?_
  refine ah_cons (as_istore C dX7_lookOf_11 (by decide)) ?_
  refine ah_cons (as_iconst C dX7_lookOf_13 (by decide)) ?_
  refine ah_cons (as_lim (as_istore C dX7_lookOf_14 (by decide))) ?_
  refine ah_cons (as_aload_n C dX7_lookOf_18 rfl) ?_
  refine ah_cons (as_gfi C dX7_lookOf_19 fgX7_38) ?_
  refine ah_cons (as_icmp_ge C dX7_lookOf_22 (by decide)) ?_
  refine ah_cons (as_iload C dX7_lookOf_25) ?_
  refine ah_cons (as_iload_n C dX7_lookOf_27 rfl) ?_
  refine ah_cons (as_icmp_ne C dX7_lookOf_28 (by decide)) ?_
  refine ah_cons (as_bipush C dX7_lookOf_31 (by decide)) ?_
  refine ah_cons (as_goto C dX7_lookOf_33 (by decide)) ?_
  refine ah_cons (as_aload_n C dX7_lookOf_36 rfl) ?_
  refine ah_cons (as_aload_n C dX7_lookOf_37 rfl) ?_
  refine ah_cons (as_iload_n C dX7_lookOf_38 rfl) ?_
  refine ah_cons (as_iload C dX7_lookOf_39) ?_
  refine ah_cons (as_iload_n C dX7_lookOf_41 rfl) ?_
  refine ah_cons (as_vI (ah_t1 (ah_okV (n := 4) C (mX7_leftAtWorst hW f) dX7_lookOf_42 (ci := 7) rfl wt_213 wt_215 wt_214 wt_128 wt_216 ⟨by decide, by decide, by decide, by decide⟩ ⟨by decide, by decide⟩) ah_t0)) ?_
  refine ah_cons (as_istore C dX7_lookOf_45 (by decide)) ?_
  refine ah_cons (as_iload C dX7_lookOf_47) ?_
  refine ah_cons (as_iload C dX7_lookOf_49) ?_
  refine ah_cons (as_icmp_ge C dX7_lookOf_51 (by decide)) ?_
  refine ah_cons (as_iload C dX7_lookOf_54) ?_
  refine ah_cons (as_istore C dX7_lookOf_56 (by decide)) ?_
  refine ah_cons (as_iload C dX7_lookOf_58) ?_
  refine ah_cons (as_istore C dX7_lookOf_60 (by decide)) ?_
  refine ah_cons (as_iinc C dX7_lookOf_62 (by decide) (by decide)) ?_
  refine ah_cons (as_lim (as_goto C dX7_lookOf_65 (by decide))) ?_
  refine ah_cons (as_iload C dX7_lookOf_68) ?_
  refine ah_cons (as_iret C rfl dX7_lookOf_70) ?_
  exact ah_nil
def kX8_kindNumber (f : Nat) : List (Nat × ah_S) := [
  (0, ah_push (.int (0)) 1),
  (1, ah_iret)]
def aX8_kindNumber (f : Nat) : ah_F := ah_fun (kX8_kindNumber f) 1 f
set_option maxRecDepth 100000 in
set_option maxHeartbeats 4000000 in
theorem mX8_kindNumber {l : Launch} {s0 : State} {D : va_G} {tc : Nat → ClassId} {ad : Nat → Nat} {A : Nat → Prop} (hW : ah_W0 s0 ad A) (f : Nat) : ah_Met l s0 D tc ad A yX8_kindNumber cX8_kindNumber 1 (some .int) 0 0 (aX8_kindNumber f) := by
  refine ah_met hW.1 (by decide) (fun p e s m args below meth c res C => ?_)
  refine ah_cons (as_iconst C dX8_kindNumber_0 (by decide)) ?_
  refine ah_cons (as_iret C rfl dX8_kindNumber_1) ?_
  exact ah_nil
def kX9_kindNumber (f : Nat) : List (Nat × ah_S) := [
  (0, ah_push (.int (2)) 1),
  (1, ah_iret)]
def aX9_kindNumber (f : Nat) : ah_F := ah_fun (kX9_kindNumber f) 1 f
set_option maxRecDepth 100000 in
set_option maxHeartbeats 4000000 in
theorem mX9_kindNumber {l : Launch} {s0 : State} {D : va_G} {tc : Nat → ClassId} {ad : Nat → Nat} {A : Nat → Prop} (hW : ah_W0 s0 ad A) (f : Nat) : ah_Met l s0 D tc ad A yX9_kindNumber cX9_kindNumber 1 (some .int) 0 0 (aX9_kindNumber f) := by
  refine ah_met hW.1 (by decide) (fun p e s m args below meth c res C => ?_)
  refine ah_cons (as_iconst C dX9_kindNumber_0 (by decide)) ?_
  refine ah_cons (as_iret C rfl dX9_kindNumber_1) ?_
  exact ah_nil
def kX10_draw (f : Nat) : List (Nat × ah_S) := [
  (0, ah_ald 0 1),
  (1, ah_push (.long (1103515245)) 4),
  (4, ah_ald 0 5),
  (5, ah_gfl [10] 2 8),
  (8, ah_lbin (fun x y => x * y) 9),
  (9, ah_push (.long (12345)) 12),
  (12, ah_lbin (fun x y => x + y) 13),
  (13, ah_push (.long (2147483648)) 16),
  (16, ah_lrem 17),
  (17, ah_pfl [10] 2 20),
  (20, ah_ild 1 21),
  (21, ah_zgt 24 39),
  (24, ah_ald 0 25),
  (25, ah_gfl [10] 2 28),
  (28, ah_push (.long (65536)) 31),
  (31, ah_ldiv 32),
  (32, ah_ild 1 33),
  (33, ah_i2l 34),
  (34, ah_lrem 35),
  (35, ah_l2i 36),
  (36, ah_goto 40),
  (39, ah_push (.int (-1)) 40),
  (40, ah_iret)]
def aX10_draw (f : Nat) : ah_F := ah_fun (kX10_draw f) 2 f
set_option maxRecDepth 100000 in
set_option maxHeartbeats 4000000 in
theorem mX10_draw {l : Launch} {s0 : State} {D : va_G} {tc : Nat → ClassId} {ad : Nat → Nat} {A : Nat → Prop} (hW : ah_W0 s0 ad A) (f : Nat) : ah_Met l s0 D tc ad A yX10_draw cX10_draw 2 (some .int) 0 0 (aX10_draw f) := by
  refine ah_met hW.1 (by decide) (fun p e s m args below meth c res C => ?_)
  refine ah_cons (as_aload_n C dX10_draw_0 rfl) ?_
  refine ah_cons (as_ldc2 C dX10_draw_1 wt_217) ?_
  refine ah_cons (as_aload_n C dX10_draw_4 rfl) ?_
  refine ah_cons (as_gfl C dX10_draw_5 fgX10_22) ?_
  refine ah_cons (as_lmul C dX10_draw_8) ?_
  refine ah_cons (as_ldc2 C dX10_draw_9 wt_219) ?_
  refine ah_cons (as_ladd C dX10_draw_12) ?_
  refine ah_cons (as_ldc2 C dX10_draw_13 wt_220) ?_
  refine ah_cons (as_lrem C dX10_draw_16) ?_
  refine ah_cons (as_pfl C dX10_draw_17 fpX10_22) ?_
  refine ah_cons (as_iload_n C dX10_draw_20 rfl) ?_
  refine ah_cons (as_if_le C dX10_draw_21 (by decide)) ?_
  refine ah_cons (as_aload_n C dX10_draw_24 rfl) ?_
  refine ah_cons (as_gfl C dX10_draw_25 fgX10_22) ?_
  refine ah_cons (as_ldc2 C dX10_draw_28 wt_221) ?_
  refine ah_cons (as_ldiv C dX10_draw_31) ?_
  refine ah_cons (as_iload_n C dX10_draw_32 rfl) ?_
  refine ah_cons (as_i2l C dX10_draw_33) ?_
  refine ah_cons (as_lrem C dX10_draw_34) ?_
  refine ah_cons (as_l2i C dX10_draw_35) ?_
  refine ah_cons (as_goto C dX10_draw_36 (by decide)) ?_
  refine ah_cons (as_iconst C dX10_draw_39 (by decide)) ?_
  refine ah_cons (as_iret C rfl dX10_draw_40) ?_
  exact ah_nil
def kX10_meet (f : Nat) : List (Nat × ah_S) := [
  (0, ah_ald 1 1),
  (1, ah_ild 2 2),
  (2, ah_ild 3 3),
  (3, ah_vI [(0, aX0_hasTwo f)] 3 6),
  (6, ah_zeq 27 9),
  (9, ah_ald 0 10),
  (10, ah_gfr [10] 3 13),
  (13, ah_ild 2 14),
  (14, ah_iald 1 15),
  (15, ah_zeq 18 27),
  (18, ah_ald 0 19),
  (19, ah_gfr [10] 3 22),
  (22, ah_ild 3 23),
  (23, ah_iald 1 24),
  (24, ah_zeq 28 27),
  (27, ah_vret),
  (28, ah_ald 1 29),
  (29, ah_ild 2 30),
  (30, ah_ild 3 31),
  (31, ah_vI [(0, aX0_likenessOf f)] 3 34),
  (34, ah_ist 4 36),
  (36, ah_ild 4 38),
  (38, ah_push (.int (-1)) 39),
  (39, ah_ceq 77 42),
  (42, ah_ald 0 43),
  (43, ah_gfr [10] 3 46),
  (46, ah_ild 2 47),
  (47, ah_push (.int (1)) 48),
  (48, ah_zast 49),
  (49, ah_ald 0 50),
  (50, ah_gfr [10] 3 53),
  (53, ah_ild 3 54),
  (54, ah_push (.int (1)) 55),
  (55, ah_zast 56),
  (56, ah_ald 0 57),
  (57, ah_dupR 58),
  (58, ah_gfi [10] 0 61),
  (61, ah_push (.int (1)) 62),
  (62, ah_bin (fun x y => x + y) 63),
  (63, ah_pfi [10] 0 66),
  (66, ah_ald 0 67),
  (67, ah_dupR 68),
  (68, ah_gfi [10] 1 71),
  (71, ah_ild 4 73),
  (73, ah_bin (fun x y => x + y) 74),
  (74, ah_pfi [10] 1 77),
  (77, ah_vret)]
def aX10_meet (f : Nat) : ah_F := ah_fun (kX10_meet f) 5 f
set_option maxRecDepth 100000 in
set_option maxHeartbeats 4000000 in
theorem mX10_meet {l : Launch} {s0 : State} {D : va_G} {tc : Nat → ClassId} {ad : Nat → Nat} {A : Nat → Prop} (hW : ah_W0 s0 ad A) (f : Nat) : ah_Met l s0 D tc ad A yX10_meet cX10_meet 5 none 3 66 (aX10_meet f) := by
  refine ah_met hW.1 (by decide) (fun p e s m args below meth c res C => ?_)
  refine ah_cons (as_aload_n C dX10_meet_0 rfl) ?_
  refine ah_cons (as_iload_n C dX10_meet_1 rfl) ?_
  refine ah_cons (as_iload_n C dX10_meet_2 rfl) ?_
  refine ah_cons (as_vI (ah_t1 (ah_okV (n := 2) C (mX0_hasTwo hW f) dX10_meet_3 (ci := 0) rfl wt_222 wt_224 wt_223 wt_4 wt_225 ⟨by decide, by decide, by decide, by decide⟩ ⟨by decide, by decide⟩) ah_t0)) ?_
  refine ah_cons (as_if_eq C dX10_meet_6 (by decide)) ?_
  refine ah_cons (as_aload_n C dX10_meet_9 rfl) ?_
  refine ah_cons (as_gfr C dX10_meet_10 fgX10_9) ?_
  refine ah_cons (as_iload_n C dX10_meet_13 rfl) ?_
  refine ah_cons (as_zald C dX10_meet_14) ?_
  refine ah_cons (as_if_ne C dX10_meet_15 (by decide)) ?_
  refine ah_cons (as_aload_n C dX10_meet_18 rfl) ?_
  refine ah_cons (as_gfr C dX10_meet_19 fgX10_9) ?_
  refine ah_cons (as_iload_n C dX10_meet_22 rfl) ?_
  refine ah_cons (as_zald C dX10_meet_23) ?_
  refine ah_cons (as_if_eq C dX10_meet_24 (by decide)) ?_
  refine ah_cons (as_vret C rfl dX10_meet_27) ?_
  refine ah_cons (as_aload_n C dX10_meet_28 rfl) ?_
  refine ah_cons (as_iload_n C dX10_meet_29 rfl) ?_
  refine ah_cons (as_iload_n C dX10_meet_30 rfl) ?_
  refine ah_cons (as_vI (ah_t1 (ah_okV (n := 2) C (mX0_likenessOf hW f) dX10_meet_31 (ci := 0) rfl wt_227 wt_62 wt_61 wt_4 wt_63 ⟨by decide, by decide, by decide, by decide⟩ ⟨by decide, by decide⟩) ah_t0)) ?_
  refine ah_cons (as_istore C dX10_meet_34 (by decide)) ?_
  refine ah_cons (as_iload C dX10_meet_36) ?_
  refine ah_cons (as_iconst C dX10_meet_38 (by decide)) ?_
  refine ah_cons (as_icmp_eq C dX10_meet_39 (by decide)) ?_
  refine ah_cons (as_aload_n C dX10_meet_42 rfl) ?_
  refine ah_cons (as_gfr C dX10_meet_43 fgX10_9) ?_
  refine ah_cons (as_iload_n C dX10_meet_46 rfl) ?_
  refine ah_cons (as_iconst C dX10_meet_47 (by decide)) ?_
  refine ah_cons (as_zast C dX10_meet_48) ?_
  refine ah_cons (as_aload_n C dX10_meet_49 rfl) ?_
  refine ah_cons (as_gfr C dX10_meet_50 fgX10_9) ?_
  refine ah_cons (as_iload_n C dX10_meet_53 rfl) ?_
  refine ah_cons (as_iconst C dX10_meet_54 (by decide)) ?_
  refine ah_cons (as_zast C dX10_meet_55) ?_
  refine ah_cons (as_aload_n C dX10_meet_56 rfl) ?_
  refine ah_cons (as_dupR C dX10_meet_57) ?_
  refine ah_cons (as_gfi C dX10_meet_58 fgX10_15) ?_
  refine ah_cons (as_iconst C dX10_meet_61 (by decide)) ?_
  refine ah_cons (as_iadd C dX10_meet_62) ?_
  refine ah_cons (as_pfi C dX10_meet_63 fpX10_15) ?_
  refine ah_cons (as_aload_n C dX10_meet_66 rfl) ?_
  refine ah_cons (as_dupR C dX10_meet_67) ?_
  refine ah_cons (as_gfi C dX10_meet_68 fgX10_19) ?_
  refine ah_cons (as_iload C dX10_meet_71) ?_
  refine ah_cons (as_iadd C dX10_meet_73) ?_
  refine ah_cons (as_pfi C dX10_meet_74 fpX10_19) ?_
  refine ah_cons (as_vret C rfl dX10_meet_77) ?_
  exact ah_nil
def kX10_pass (f : Nat) : List (Nat × ah_S) := [
  (19, ah_ild 4 21),
  (50, ah_ild 4 52),
  (0, ah_ald 0 1),
  (1, ah_push (.int (0)) 2),
  (2, ah_pfi [10] 0 5),
  (5, ah_ald 0 6),
  (6, ah_push (.int (0)) 7),
  (7, ah_pfi [10] 1 10),
  (10, ah_ald 0 11),
  (11, ah_ild 3 12),
  (12, ah_i2l 13),
  (13, ah_pfl [10] 2 16),
  (16, ah_push (.int (0)) 17),
  (17, ah_lim 19 [0, 1, 2, 4] (ah_ist 4 19)),
  (21, ah_ald 1 22),
  (22, ah_gfi [0] 2 25),
  (25, ah_clt 28 47),
  (28, ah_ald 0 29),
  (29, ah_gfr [10] 3 32),
  (32, ah_ild 4 34),
  (34, ah_ald 1 35),
  (35, ah_ild 4 37),
  (37, ah_vI [(0, aX0_isPaired f)] 2 40),
  (40, ah_zast 41),
  (41, ah_inc 4 (1) 44),
  (44, ah_lim 19 [0, 1, 2, 4] (ah_goto 19)),
  (47, ah_push (.int (0)) 48),
  (48, ah_lim 50 [0, 1, 2, 4] (ah_ist 4 50)),
  (52, ah_ild 2 53),
  (53, ah_clt 56 91),
  (56, ah_ald 0 57),
  (57, ah_ald 1 58),
  (58, ah_gfi [0] 2 61),
  (61, ah_vI [(10, aX10_draw f)] 2 64),
  (64, ah_ist 5 66),
  (66, ah_ald 0 67),
  (67, ah_ald 1 68),
  (68, ah_gfi [0] 2 71),
  (71, ah_vI [(10, aX10_draw f)] 2 74),
  (74, ah_ist 6 76),
  (76, ah_ald 0 77),
  (77, ah_ald 1 78),
  (78, ah_ild 5 80),
  (80, ah_ild 6 82),
  (82, ah_vV [(10, aX10_meet f)] 4 85),
  (85, ah_inc 4 (1) 88),
  (88, ah_lim 50 [0, 1, 2, 4] (ah_goto 50)),
  (91, ah_vret)]
def aX10_pass (f : Nat) : ah_F := ah_fun (kX10_pass f) 7 f
set_option maxRecDepth 100000 in
set_option maxHeartbeats 4000000 in
theorem mX10_pass {l : Launch} {s0 : State} {D : va_G} {tc : Nat → ClassId} {ad : Nat → Nat} {A : Nat → Prop} (hW : ah_W0 s0 ad A) (f : Nat) : ah_Met l s0 D tc ad A yX10_pass cX10_pass 7 none 4 90 (aX10_pass f) := by
  refine ah_met hW.1 (by decide) (fun p e s m args below meth c res C => ?_)
  refine ah_cons (as_iload C dX10_pass_19) ?_
  refine ah_cons (as_iload C dX10_pass_50) ?_
  refine ah_cons (as_aload_n C dX10_pass_0 rfl) ?_
  refine ah_cons (as_iconst C dX10_pass_1 (by decide)) ?_
  refine ah_cons (as_pfi C dX10_pass_2 fpX10_15) ?_
  refine ah_cons (as_aload_n C dX10_pass_5 rfl) ?_
  refine ah_cons (as_iconst C dX10_pass_6 (by decide)) ?_
  refine ah_cons (as_pfi C dX10_pass_7 fpX10_19) ?_
  refine ah_cons (as_aload_n C dX10_pass_10 rfl) ?_
  refine ah_cons (as_iload_n C dX10_pass_11 rfl) ?_
  refine ah_cons (as_i2l C dX10_pass_12) ?_
  refine ah_cons (as_pfl C dX10_pass_13 fpX10_22) ?_
  refine ah_cons (as_iconst C dX10_pass_16 (by decide)) ?_
  refine ah_cons (as_lim (as_istore C dX10_pass_17 (by decide))) ?_
  refine ah_cons (as_aload_n C dX10_pass_21 rfl) ?_
  refine ah_cons (as_gfi C dX10_pass_22 fgX10_26) ?_
  refine ah_cons (as_icmp_ge C dX10_pass_25 (by decide)) ?_
  refine ah_cons (as_aload_n C dX10_pass_28 rfl) ?_
  refine ah_cons (as_gfr C dX10_pass_29 fgX10_9) ?_
  refine ah_cons (as_iload C dX10_pass_32) ?_
  refine ah_cons (as_aload_n C dX10_pass_34 rfl) ?_
  refine ah_cons (as_iload C dX10_pass_35) ?_
  refine ah_cons (as_vI (ah_t1 (ah_okV (n := 1) C (mX0_isPaired hW f) dX10_pass_37 (ci := 0) rfl wt_231 wt_73 wt_72 wt_4 wt_74 ⟨by decide, by decide, by decide, by decide⟩ ⟨by decide, by decide⟩) ah_t0)) ?_
  refine ah_cons (as_zast C dX10_pass_40) ?_
  refine ah_cons (as_iinc C dX10_pass_41 (by decide) (by decide)) ?_
  refine ah_cons (as_lim (as_goto C dX10_pass_44 (by decide))) ?_
  refine ah_cons (as_iconst C dX10_pass_47 (by decide)) ?_
  refine ah_cons (as_lim (as_istore C dX10_pass_48 (by decide))) ?_
  refine ah_cons (as_iload_n C dX10_pass_52 rfl) ?_
  refine ah_cons (as_icmp_ge C dX10_pass_53 (by decide)) ?_
  refine ah_cons (as_aload_n C dX10_pass_56 rfl) ?_
  refine ah_cons (as_aload_n C dX10_pass_57 rfl) ?_
  refine ah_cons (as_gfi C dX10_pass_58 fgX10_26) ?_
  refine ah_cons (as_vI (ah_t1 (ah_okV (n := 1) C (mX10_draw hW f) dX10_pass_61 (ci := 10) rfl wt_232 wt_234 wt_233 wt_235 wt_236 ⟨by decide, by decide, by decide, by decide⟩ ⟨by decide, by decide⟩) ah_t0)) ?_
  refine ah_cons (as_istore C dX10_pass_64 (by decide)) ?_
  refine ah_cons (as_aload_n C dX10_pass_66 rfl) ?_
  refine ah_cons (as_aload_n C dX10_pass_67 rfl) ?_
  refine ah_cons (as_gfi C dX10_pass_68 fgX10_26) ?_
  refine ah_cons (as_vI (ah_t1 (ah_okV (n := 1) C (mX10_draw hW f) dX10_pass_71 (ci := 10) rfl wt_232 wt_234 wt_233 wt_235 wt_236 ⟨by decide, by decide, by decide, by decide⟩ ⟨by decide, by decide⟩) ah_t0)) ?_
  refine ah_cons (as_istore C dX10_pass_74 (by decide)) ?_
  refine ah_cons (as_aload_n C dX10_pass_76 rfl) ?_
  refine ah_cons (as_aload_n C dX10_pass_77 rfl) ?_
  refine ah_cons (as_iload C dX10_pass_78) ?_
  refine ah_cons (as_iload C dX10_pass_80) ?_
  refine ah_cons (as_vV (ah_t1 (ah_okV (n := 3) C (mX10_meet hW f) dX10_pass_82 (ci := 10) rfl wt_237 wt_239 wt_238 wt_235 wt_240 ⟨by decide, by decide, by decide, by decide⟩ ⟨by decide, by decide⟩) ah_t0)) ?_
  refine ah_cons (as_iinc C dX10_pass_85 (by decide) (by decide)) ?_
  refine ah_cons (as_lim (as_goto C dX10_pass_88 (by decide))) ?_
  refine ah_cons (as_vret C rfl dX10_pass_91) ?_
  exact ah_nil
def kX11_letter (f : Nat) : List (Nat × ah_S) := [
  (0, ah_ild 1 1),
  (1, ah_push (.int (1)) 2),
  (2, ah_clt 11 5),
  (5, ah_ild 1 6),
  (6, ah_push (.int (126)) 8),
  (8, ah_cgt 11 14),
  (11, ah_push (.int (-102)) 13),
  (13, ah_iret),
  (14, ah_ald 0 15),
  (15, ah_gfr [11] 0 18),
  (18, ah_ild 1 19),
  (19, ah_vI [(4, aX4_write f)] 2 22),
  (22, ah_zeq 35 25),
  (25, ah_ald 0 26),
  (26, ah_gfr [11] 0 29),
  (29, ah_gfi [4] 1 32),
  (32, ah_goto 37),
  (35, ah_push (.int (-104)) 37),
  (37, ah_iret)]
def aX11_letter (f : Nat) : ah_F := ah_fun (kX11_letter f) 2 f
set_option maxRecDepth 100000 in
set_option maxHeartbeats 4000000 in
theorem mX11_letter {l : Launch} {s0 : State} {D : va_G} {tc : Nat → ClassId} {ad : Nat → Nat} {A : Nat → Prop} (hW : ah_W0 s0 ad A) (f : Nat) : ah_Met l s0 D tc ad A yX11_letter cX11_letter 2 (some .int) 1 21 (aX11_letter f) := by
  refine ah_met hW.1 (by decide) (fun p e s m args below meth c res C => ?_)
  refine ah_cons (as_iload_n C dX11_letter_0 rfl) ?_
  refine ah_cons (as_iconst C dX11_letter_1 (by decide)) ?_
  refine ah_cons (as_icmp_lt C dX11_letter_2 (by decide)) ?_
  refine ah_cons (as_iload_n C dX11_letter_5 rfl) ?_
  refine ah_cons (as_bipush C dX11_letter_6 (by decide)) ?_
  refine ah_cons (as_icmp_le C dX11_letter_8 (by decide)) ?_
  refine ah_cons (as_bipush C dX11_letter_11 (by decide)) ?_
  refine ah_cons (as_iret C rfl dX11_letter_13) ?_
  refine ah_cons (as_aload_n C dX11_letter_14 rfl) ?_
  refine ah_cons (as_gfr C dX11_letter_15 fgX11_10) ?_
  refine ah_cons (as_iload_n C dX11_letter_18 rfl) ?_
  refine ah_cons (as_vI (ah_t1 (ah_okV (n := 1) C (mX4_write hW f) dX11_letter_19 (ci := 4) rfl wt_242 wt_244 wt_243 wt_144 wt_245 ⟨by decide, by decide, by decide, by decide⟩ ⟨by decide, by decide⟩) ah_t0)) ?_
  refine ah_cons (as_if_eq C dX11_letter_22 (by decide)) ?_
  refine ah_cons (as_aload_n C dX11_letter_25 rfl) ?_
  refine ah_cons (as_gfr C dX11_letter_26 fgX11_10) ?_
  refine ah_cons (as_gfi C dX11_letter_29 fgX11_52) ?_
  refine ah_cons (as_goto C dX11_letter_32 (by decide)) ?_
  refine ah_cons (as_bipush C dX11_letter_35 (by decide)) ?_
  refine ah_cons (as_iret C rfl dX11_letter_37) ?_
  exact ah_nil
def kX11_blank (f : Nat) : List (Nat × ah_S) := [
  (0, ah_ald 0 1),
  (1, ah_gfr [11] 0 4),
  (4, ah_gfi [4] 1 7),
  (7, ah_ist 1 8),
  (8, ah_ald 0 9),
  (9, ah_gfr [11] 0 12),
  (12, ah_vV [(4, aX4_clear f)] 1 15),
  (15, ah_ild 1 16),
  (16, ah_iret)]
def aX11_blank (f : Nat) : ah_F := ah_fun (kX11_blank f) 2 f
set_option maxRecDepth 100000 in
set_option maxHeartbeats 4000000 in
theorem mX11_blank {l : Launch} {s0 : State} {D : va_G} {tc : Nat → ClassId} {ad : Nat → Nat} {A : Nat → Prop} (hW : ah_W0 s0 ad A) (f : Nat) : ah_Met l s0 D tc ad A yX11_blank cX11_blank 2 (some .int) 1 20 (aX11_blank f) := by
  refine ah_met hW.1 (by decide) (fun p e s m args below meth c res C => ?_)
  refine ah_cons (as_aload_n C dX11_blank_0 rfl) ?_
  refine ah_cons (as_gfr C dX11_blank_1 fgX11_10) ?_
  refine ah_cons (as_gfi C dX11_blank_4 fgX11_52) ?_
  refine ah_cons (as_istore_n C dX11_blank_7 rfl (by decide)) ?_
  refine ah_cons (as_aload_n C dX11_blank_8 rfl) ?_
  refine ah_cons (as_gfr C dX11_blank_9 fgX11_10) ?_
  refine ah_cons (as_vV (ah_t1 (ah_okV (n := 0) C (mX4_clear hW f) dX11_blank_12 (ci := 4) rfl wt_247 wt_249 wt_248 wt_144 wt_250 ⟨by decide, by decide, by decide, by decide⟩ ⟨by decide, by decide⟩) ah_t0)) ?_
  refine ah_cons (as_iload_n C dX11_blank_15 rfl) ?_
  refine ah_cons (as_iret C rfl dX11_blank_16) ?_
  exact ah_nil
def kX11_fault (f : Nat) : List (Nat × ah_S) := [
  (0, ah_ald 0 1),
  (1, ah_gfr [11] 0 4),
  (4, ah_vI [(4, aX4_firstFault f)] 1 7),
  (7, ah_iret)]
def aX11_fault (f : Nat) : ah_F := ah_fun (kX11_fault f) 1 f
set_option maxRecDepth 100000 in
set_option maxHeartbeats 4000000 in
theorem mX11_fault {l : Launch} {s0 : State} {D : va_G} {tc : Nat → ClassId} {ad : Nat → Nat} {A : Nat → Prop} (hW : ah_W0 s0 ad A) (f : Nat) : ah_Met l s0 D tc ad A yX11_fault cX11_fault 1 (some .int) 10 442 (aX11_fault f) := by
  refine ah_met hW.1 (by decide) (fun p e s m args below meth c res C => ?_)
  refine ah_cons (as_aload_n C dX11_fault_0 rfl) ?_
  refine ah_cons (as_gfr C dX11_fault_1 fgX11_10) ?_
  refine ah_cons (as_vI (ah_t1 (ah_okV (n := 0) C (mX4_firstFault hW f) dX11_fault_4 (ci := 4) rfl wt_251 wt_148 wt_147 wt_144 wt_149 ⟨by decide, by decide, by decide, by decide⟩ ⟨by decide, by decide⟩) ah_t0)) ?_
  refine ah_cons (as_iret C rfl dX11_fault_7) ?_
  exact ah_nil
def kX11_single (f : Nat) : List (Nat × ah_S) := [
  (0, ah_ald 0 1),
  (1, ah_gfr [11] 1 4),
  (4, ah_ild 1 5),
  (5, ah_vI [(0, aX0_has f)] 2 8),
  (8, ah_zeq 11 14),
  (11, ah_push (.int (-101)) 13),
  (13, ah_iret),
  (14, ah_ald 0 15),
  (15, ah_gfr [11] 1 18),
  (18, ah_gfr [0] 0 21),
  (21, ah_ild 1 22),
  (22, ah_aald 2 23),
  (23, ah_rst 3 24),
  (24, ah_ild 2 25),
  (25, ah_sw [(0, 84), (1, 89), (2, 94), (3, 99), (4, 104), (5, 109), (6, 118), (7, 127), (8, 136), (9, 153), (10, 169)] 200),
  (84, ah_ald 3 85),
  (85, ah_vI [(1, aX1_kindNumber f), (3, aX3_kindNumber f), (5, aX5_kindNumber f), (8, aX8_kindNumber f), (9, aX9_kindNumber f)] 1 88),
  (88, ah_iret),
  (89, ah_ald 3 90),
  (90, ah_gfi [1, 3, 5, 8, 9] 0 93),
  (93, ah_iret),
  (94, ah_ald 3 95),
  (95, ah_gfi [1, 3, 5, 8, 9] 1 98),
  (98, ah_iret),
  (99, ah_ald 3 100),
  (100, ah_gfi [1, 3, 5, 8, 9] 2 103),
  (103, ah_iret),
  (104, ah_ald 3 105),
  (105, ah_gfi [1, 3, 5, 8, 9] 3 108),
  (108, ah_iret),
  (109, ah_ald 0 110),
  (110, ah_gfr [11] 1 113),
  (113, ah_ild 1 114),
  (114, ah_vI [(0, aX0_matchesOf f)] 2 117),
  (117, ah_iret),
  (118, ah_ald 0 119),
  (119, ah_gfr [11] 1 122),
  (122, ah_ild 1 123),
  (123, ah_vI [(0, aX0_favouriteOf f)] 2 126),
  (126, ah_iret),
  (127, ah_ald 0 128),
  (128, ah_gfr [11] 1 131),
  (131, ah_ild 1 132),
  (132, ah_vI [(0, aX0_spikeOf f)] 2 135),
  (135, ah_iret),
  (136, ah_ald 0 137),
  (137, ah_gfr [11] 1 140),
  (140, ah_ild 1 141),
  (141, ah_ald 0 142),
  (142, ah_gfr [11] 1 145),
  (145, ah_ild 1 146),
  (146, ah_vI [(0, aX0_spikeOf f)] 2 149),
  (149, ah_vI [(0, aX0_seersAt f)] 3 152),
  (152, ah_iret),
  (153, ah_ald 0 154),
  (154, ah_gfr [11] 1 157),
  (157, ah_gfr [0] 1 160),
  (160, ah_ald 0 161),
  (161, ah_gfr [11] 1 164),
  (164, ah_ild 1 165),
  (165, ah_vI [(7, aX7_sizesOf f)] 3 168),
  (168, ah_iret),
  (169, ah_ald 0 170),
  (170, ah_gfr [11] 1 173),
  (173, ah_gfr [0] 1 176),
  (176, ah_ald 0 177),
  (177, ah_gfr [11] 1 180),
  (180, ah_ild 1 181),
  (181, ah_ald 0 182),
  (182, ah_gfr [11] 1 185),
  (185, ah_gfr [0] 1 188),
  (188, ah_ald 0 189),
  (189, ah_gfr [11] 1 192),
  (192, ah_ild 1 193),
  (193, ah_vI [(7, aX7_sizesOf f)] 3 196),
  (196, ah_vI [(7, aX7_lookOf f)] 4 199),
  (199, ah_iret),
  (200, ah_push (.int (-102)) 202),
  (202, ah_iret)]
def aX11_single (f : Nat) : ah_F := ah_fun (kX11_single f) 4 f
set_option maxRecDepth 100000 in
set_option maxHeartbeats 4000000 in
theorem mX11_single {l : Launch} {s0 : State} {D : va_G} {tc : Nat → ClassId} {ad : Nat → Nat} {A : Nat → Prop} (hW : ah_W0 s0 ad A) (f : Nat) : ah_Met l s0 D tc ad A yX11_single cX11_single 4 (some .int) 6 145 (aX11_single f) := by
  refine ah_met hW.1 (by decide) (fun p e s m args below meth c res C => ?_)
  refine ah_cons (as_aload_n C dX11_single_0 rfl) ?_
  refine ah_cons (as_gfr C dX11_single_1 fgX11_19) ?_
  refine ah_cons (as_iload_n C dX11_single_4 rfl) ?_
  refine ah_cons (as_vI (ah_t1 (ah_okV (n := 1) C (mX0_has hW f) dX11_single_5 (ci := 0) rfl wt_253 wt_3 wt_2 wt_4 wt_5 ⟨by decide, by decide, by decide, by decide⟩ ⟨by decide, by decide⟩) ah_t0)) ?_
  refine ah_cons (as_if_ne C dX11_single_8 (by decide)) ?_
  refine ah_cons (as_bipush C dX11_single_11 (by decide)) ?_
  refine ah_cons (as_iret C rfl dX11_single_13) ?_
  refine ah_cons (as_aload_n C dX11_single_14 rfl) ?_
  refine ah_cons (as_gfr C dX11_single_15 fgX11_19) ?_
  refine ah_cons (as_gfr C dX11_single_18 fgX11_80) ?_
  refine ah_cons (as_iload_n C dX11_single_21 rfl) ?_
  refine ah_cons (as_aald C dX11_single_22 rfl rfl) ?_
  refine ah_cons (as_astore_n C dX11_single_23 rfl (by decide)) ?_
  refine ah_cons (as_iload_n C dX11_single_24 rfl) ?_
  refine ah_cons (as_tsw C dX11_single_25 (by decide) (by decide) (by decide)) ?_
  refine ah_cons (as_aload_n C dX11_single_84 rfl) ?_
  refine ah_cons (as_vI (ah_t1 (ah_okU (n := 0) (x := yX8_kindNumber) (owner := RX8) C (mX1_kindNumber hW f) dX11_single_85 (ci := 1) rfl wt_255 wt_256 wt_257 wt_258 wt_259 wt_34 wt_260 wt_261 ⟨by decide, by decide, by decide⟩ ⟨by decide, by decide⟩) (ah_t1 (ah_okU (n := 0) (x := yX8_kindNumber) (owner := RX8) C (mX3_kindNumber hW f) dX11_single_85 (ci := 3) rfl wt_255 wt_256 wt_257 wt_262 wt_263 wt_55 wt_264 wt_261 ⟨by decide, by decide, by decide⟩ ⟨by decide, by decide⟩) (ah_t1 (ah_okU (n := 0) (x := yX8_kindNumber) (owner := RX8) C (mX5_kindNumber hW f) dX11_single_85 (ci := 5) rfl wt_255 wt_256 wt_257 wt_265 wt_266 wt_40 wt_267 wt_261 ⟨by decide, by decide, by decide⟩ ⟨by decide, by decide⟩) (ah_t1 (ah_okV (n := 0) C (mX8_kindNumber hW f) dX11_single_85 (ci := 8) rfl wt_255 wt_257 wt_268 wt_43 wt_261 ⟨by decide, by decide, by decide, by decide⟩ ⟨by decide, by decide⟩) (ah_t1 (ah_okU (n := 0) (x := yX8_kindNumber) (owner := RX8) C (mX9_kindNumber hW f) dX11_single_85 (ci := 9) rfl wt_255 wt_256 wt_257 wt_269 wt_270 wt_46 wt_271 wt_261 ⟨by decide, by decide, by decide⟩ ⟨by decide, by decide⟩) ah_t0)))))) ?_
  refine ah_cons (as_iret C rfl dX11_single_88) ?_
  refine ah_cons (as_aload_n C dX11_single_89 rfl) ?_
  refine ah_cons (as_gfi C dX11_single_90 fgX11_89) ?_
  refine ah_cons (as_iret C rfl dX11_single_93) ?_
  refine ah_cons (as_aload_n C dX11_single_94 rfl) ?_
  refine ah_cons (as_gfi C dX11_single_95 fgX11_92) ?_
  refine ah_cons (as_iret C rfl dX11_single_98) ?_
  refine ah_cons (as_aload_n C dX11_single_99 rfl) ?_
  refine ah_cons (as_gfi C dX11_single_100 fgX11_93) ?_
  refine ah_cons (as_iret C rfl dX11_single_103) ?_
  refine ah_cons (as_aload_n C dX11_single_104 rfl) ?_
  refine ah_cons (as_gfi C dX11_single_105 fgX11_96) ?_
  refine ah_cons (as_iret C rfl dX11_single_108) ?_
  refine ah_cons (as_aload_n C dX11_single_109 rfl) ?_
  refine ah_cons (as_gfr C dX11_single_110 fgX11_19) ?_
  refine ah_cons (as_iload_n C dX11_single_113 rfl) ?_
  refine ah_cons (as_vI (ah_t1 (ah_okV (n := 1) C (mX0_matchesOf hW f) dX11_single_114 (ci := 0) rfl wt_276 wt_100 wt_99 wt_4 wt_101 ⟨by decide, by decide, by decide, by decide⟩ ⟨by decide, by decide⟩) ah_t0)) ?_
  refine ah_cons (as_iret C rfl dX11_single_117) ?_
  refine ah_cons (as_aload_n C dX11_single_118 rfl) ?_
  refine ah_cons (as_gfr C dX11_single_119 fgX11_19) ?_
  refine ah_cons (as_iload_n C dX11_single_122 rfl) ?_
  refine ah_cons (as_vI (ah_t1 (ah_okV (n := 1) C (mX0_favouriteOf hW f) dX11_single_123 (ci := 0) rfl wt_277 wt_279 wt_278 wt_4 wt_280 ⟨by decide, by decide, by decide, by decide⟩ ⟨by decide, by decide⟩) ah_t0)) ?_
  refine ah_cons (as_iret C rfl dX11_single_126) ?_
  refine ah_cons (as_aload_n C dX11_single_127 rfl) ?_
  refine ah_cons (as_gfr C dX11_single_128 fgX11_19) ?_
  refine ah_cons (as_iload_n C dX11_single_131 rfl) ?_
  refine ah_cons (as_vI (ah_t1 (ah_okV (n := 1) C (mX0_spikeOf hW f) dX11_single_132 (ci := 0) rfl wt_281 wt_283 wt_282 wt_4 wt_284 ⟨by decide, by decide, by decide, by decide⟩ ⟨by decide, by decide⟩) ah_t0)) ?_
  refine ah_cons (as_iret C rfl dX11_single_135) ?_
  refine ah_cons (as_aload_n C dX11_single_136 rfl) ?_
  refine ah_cons (as_gfr C dX11_single_137 fgX11_19) ?_
  refine ah_cons (as_iload_n C dX11_single_140 rfl) ?_
  refine ah_cons (as_aload_n C dX11_single_141 rfl) ?_
  refine ah_cons (as_gfr C dX11_single_142 fgX11_19) ?_
  refine ah_cons (as_iload_n C dX11_single_145 rfl) ?_
  refine ah_cons (as_vI (ah_t1 (ah_okV (n := 1) C (mX0_spikeOf hW f) dX11_single_146 (ci := 0) rfl wt_281 wt_283 wt_282 wt_4 wt_284 ⟨by decide, by decide, by decide, by decide⟩ ⟨by decide, by decide⟩) ah_t0)) ?_
  refine ah_cons (as_vI (ah_t1 (ah_okV (n := 2) C (mX0_seersAt hW f) dX11_single_149 (ci := 0) rfl wt_285 wt_77 wt_76 wt_4 wt_78 ⟨by decide, by decide, by decide, by decide⟩ ⟨by decide, by decide⟩) ah_t0)) ?_
  refine ah_cons (as_iret C rfl dX11_single_152) ?_
  refine ah_cons (as_aload_n C dX11_single_153 rfl) ?_
  refine ah_cons (as_gfr C dX11_single_154 fgX11_19) ?_
  refine ah_cons (as_gfr C dX11_single_157 fgX11_113) ?_
  refine ah_cons (as_aload_n C dX11_single_160 rfl) ?_
  refine ah_cons (as_gfr C dX11_single_161 fgX11_19) ?_
  refine ah_cons (as_iload_n C dX11_single_164 rfl) ?_
  refine ah_cons (as_vI (ah_t1 (ah_okV (n := 2) C (mX7_sizesOf hW f) dX11_single_165 (ci := 7) rfl wt_287 wt_289 wt_288 wt_128 wt_290 ⟨by decide, by decide, by decide, by decide⟩ ⟨by decide, by decide⟩) ah_t0)) ?_
  refine ah_cons (as_iret C rfl dX11_single_168) ?_
  refine ah_cons (as_aload_n C dX11_single_169 rfl) ?_
  refine ah_cons (as_gfr C dX11_single_170 fgX11_19) ?_
  refine ah_cons (as_gfr C dX11_single_173 fgX11_113) ?_
  refine ah_cons (as_aload_n C dX11_single_176 rfl) ?_
  refine ah_cons (as_gfr C dX11_single_177 fgX11_19) ?_
  refine ah_cons (as_iload_n C dX11_single_180 rfl) ?_
  refine ah_cons (as_aload_n C dX11_single_181 rfl) ?_
  refine ah_cons (as_gfr C dX11_single_182 fgX11_19) ?_
  refine ah_cons (as_gfr C dX11_single_185 fgX11_113) ?_
  refine ah_cons (as_aload_n C dX11_single_188 rfl) ?_
  refine ah_cons (as_gfr C dX11_single_189 fgX11_19) ?_
  refine ah_cons (as_iload_n C dX11_single_192 rfl) ?_
  refine ah_cons (as_vI (ah_t1 (ah_okV (n := 2) C (mX7_sizesOf hW f) dX11_single_193 (ci := 7) rfl wt_287 wt_289 wt_288 wt_128 wt_290 ⟨by decide, by decide, by decide, by decide⟩ ⟨by decide, by decide⟩) ah_t0)) ?_
  refine ah_cons (as_vI (ah_t1 (ah_okV (n := 3) C (mX7_lookOf hW f) dX11_single_196 (ci := 7) rfl wt_291 wt_293 wt_292 wt_128 wt_294 ⟨by decide, by decide, by decide, by decide⟩ ⟨by decide, by decide⟩) ah_t0)) ?_
  refine ah_cons (as_iret C rfl dX11_single_199) ?_
  refine ah_cons (as_bipush C dX11_single_200 (by decide)) ?_
  refine ah_cons (as_iret C rfl dX11_single_202) ?_
  exact ah_nil
def kX11_isOfKind (f : Nat) : List (Nat × ah_S) := [
  (0, ah_ild 1 1),
  (1, ah_sw [(0, 36), (1, 38), (2, 43), (3, 48), (4, 53)] 58),
  (36, ah_push (.int (1)) 37),
  (37, ah_zret),
  (38, ah_ald 0 39),
  (39, ah_inst [1, 3] [5, 8, 9] 42),
  (42, ah_zret),
  (43, ah_ald 0 44),
  (44, ah_inst [9] [1, 3, 5, 8] 47),
  (47, ah_zret),
  (48, ah_ald 0 49),
  (49, ah_inst [5] [1, 3, 8, 9] 52),
  (52, ah_zret),
  (53, ah_ald 0 54),
  (54, ah_inst [3] [1, 5, 8, 9] 57),
  (57, ah_zret),
  (58, ah_push (.int (0)) 59),
  (59, ah_zret)]
def aX11_isOfKind (f : Nat) : ah_F := ah_fun (kX11_isOfKind f) 2 f
set_option maxRecDepth 100000 in
set_option maxHeartbeats 4000000 in
theorem mX11_isOfKind {l : Launch} {s0 : State} {D : va_G} {tc : Nat → ClassId} {ad : Nat → Nat} {A : Nat → Prop} (hW : ah_W0 s0 ad A) (f : Nat) : ah_Met l s0 D tc ad A yX11_isOfKind cX11_isOfKind 2 (some .boolean) 0 0 (aX11_isOfKind f) := by
  refine ah_met hW.1 (by decide) (fun p e s m args below meth c res C => ?_)
  refine ah_cons (as_iload_n C dX11_isOfKind_0 rfl) ?_
  refine ah_cons (as_tsw C dX11_isOfKind_1 (by decide) (by decide) (by decide)) ?_
  refine ah_cons (as_iconst C dX11_isOfKind_36 (by decide)) ?_
  refine ah_cons (as_zret C rfl dX11_isOfKind_37) ?_
  refine ah_cons (as_aload_n C dX11_isOfKind_38 rfl) ?_
  refine ah_cons (as_inst C dX11_isOfKind_39 (iqX11_279 hW)) ?_
  refine ah_cons (as_zret C rfl dX11_isOfKind_42) ?_
  refine ah_cons (as_aload_n C dX11_isOfKind_43 rfl) ?_
  refine ah_cons (as_inst C dX11_isOfKind_44 (iqX11_281 hW)) ?_
  refine ah_cons (as_zret C rfl dX11_isOfKind_47) ?_
  refine ah_cons (as_aload_n C dX11_isOfKind_48 rfl) ?_
  refine ah_cons (as_inst C dX11_isOfKind_49 (iqX11_283 hW)) ?_
  refine ah_cons (as_zret C rfl dX11_isOfKind_52) ?_
  refine ah_cons (as_aload_n C dX11_isOfKind_53 rfl) ?_
  refine ah_cons (as_inst C dX11_isOfKind_54 (iqX11_285 hW)) ?_
  refine ah_cons (as_zret C rfl dX11_isOfKind_57) ?_
  refine ah_cons (as_iconst C dX11_isOfKind_58 (by decide)) ?_
  refine ah_cons (as_zret C rfl dX11_isOfKind_59) ?_
  exact ah_nil
def kX11_as (f : Nat) : List (Nat × ah_S) := [
  (0, ah_ald 0 1),
  (1, ah_gfr [11] 1 4),
  (4, ah_ild 1 5),
  (5, ah_vI [(0, aX0_has f)] 2 8),
  (8, ah_zeq 11 14),
  (11, ah_push (.int (-101)) 13),
  (13, ah_iret),
  (14, ah_ild 2 15),
  (15, ah_zlt 23 18),
  (18, ah_ild 2 19),
  (19, ah_push (.int (5)) 20),
  (20, ah_clt 26 23),
  (23, ah_push (.int (-102)) 25),
  (25, ah_iret),
  (26, ah_ald 0 27),
  (27, ah_gfr [11] 1 30),
  (30, ah_gfr [0] 0 33),
  (33, ah_ild 1 34),
  (34, ah_aald 2 35),
  (35, ah_ild 2 36),
  (36, ah_sI (aX11_isOfKind f) 2 39),
  (39, ah_zeq 46 42),
  (42, ah_ild 1 43),
  (43, ah_goto 47),
  (46, ah_push (.int (-1)) 47),
  (47, ah_iret)]
def aX11_as (f : Nat) : ah_F := ah_fun (kX11_as f) 3 f
set_option maxRecDepth 100000 in
set_option maxHeartbeats 4000000 in
theorem mX11_as {l : Launch} {s0 : State} {D : va_G} {tc : Nat → ClassId} {ad : Nat → Nat} {A : Nat → Prop} (hW : ah_W0 s0 ad A) (f : Nat) : ah_Met l s0 D tc ad A yX11_as cX11_as 3 (some .int) 1 21 (aX11_as f) := by
  refine ah_met hW.1 (by decide) (fun p e s m args below meth c res C => ?_)
  refine ah_cons (as_aload_n C dX11_as_0 rfl) ?_
  refine ah_cons (as_gfr C dX11_as_1 fgX11_19) ?_
  refine ah_cons (as_iload_n C dX11_as_4 rfl) ?_
  refine ah_cons (as_vI (ah_t1 (ah_okV (n := 1) C (mX0_has hW f) dX11_as_5 (ci := 0) rfl wt_253 wt_3 wt_2 wt_4 wt_5 ⟨by decide, by decide, by decide, by decide⟩ ⟨by decide, by decide⟩) ah_t0)) ?_
  refine ah_cons (as_if_ne C dX11_as_8 (by decide)) ?_
  refine ah_cons (as_bipush C dX11_as_11 (by decide)) ?_
  refine ah_cons (as_iret C rfl dX11_as_13) ?_
  refine ah_cons (as_iload_n C dX11_as_14 rfl) ?_
  refine ah_cons (as_if_lt C dX11_as_15 (by decide)) ?_
  refine ah_cons (as_iload_n C dX11_as_18 rfl) ?_
  refine ah_cons (as_iconst C dX11_as_19 (by decide)) ?_
  refine ah_cons (as_icmp_lt C dX11_as_20 (by decide)) ?_
  refine ah_cons (as_bipush C dX11_as_23 (by decide)) ?_
  refine ah_cons (as_iret C rfl dX11_as_25) ?_
  refine ah_cons (as_aload_n C dX11_as_26 rfl) ?_
  refine ah_cons (as_gfr C dX11_as_27 fgX11_19) ?_
  refine ah_cons (as_gfr C dX11_as_30 fgX11_80) ?_
  refine ah_cons (as_iload_n C dX11_as_33 rfl) ?_
  refine ah_cons (as_aald C dX11_as_34 rfl rfl) ?_
  refine ah_cons (as_iload_n C dX11_as_35 rfl) ?_
  refine ah_cons (as_sI C (mX11_isOfKind hW f) dX11_as_36 wt_299 wt_300 wt_301 wt_302 ⟨by decide, by decide, by decide⟩ ⟨by decide, by decide⟩) ?_
  refine ah_cons (as_if_eq C dX11_as_39 (by decide)) ?_
  refine ah_cons (as_iload_n C dX11_as_42 rfl) ?_
  refine ah_cons (as_goto C dX11_as_43 (by decide)) ?_
  refine ah_cons (as_iconst C dX11_as_46 (by decide)) ?_
  refine ah_cons (as_iret C rfl dX11_as_47) ?_
  exact ah_nil
def kX11_likeness (f : Nat) : List (Nat × ah_S) := [
  (0, ah_ald 0 1),
  (1, ah_gfr [11] 1 4),
  (4, ah_ild 1 5),
  (5, ah_ild 2 6),
  (6, ah_vI [(0, aX0_hasTwo f)] 3 9),
  (9, ah_zeq 24 12),
  (12, ah_ald 0 13),
  (13, ah_gfr [11] 1 16),
  (16, ah_ild 1 17),
  (17, ah_ild 2 18),
  (18, ah_vI [(0, aX0_likenessOf f)] 3 21),
  (21, ah_goto 26),
  (24, ah_push (.int (-101)) 26),
  (26, ah_iret)]
def aX11_likeness (f : Nat) : ah_F := ah_fun (kX11_likeness f) 3 f
set_option maxRecDepth 100000 in
set_option maxHeartbeats 4000000 in
theorem mX11_likeness {l : Launch} {s0 : State} {D : va_G} {tc : Nat → ClassId} {ad : Nat → Nat} {A : Nat → Prop} (hW : ah_W0 s0 ad A) (f : Nat) : ah_Met l s0 D tc ad A yX11_likeness cX11_likeness 3 (some .int) 3 66 (aX11_likeness f) := by
  refine ah_met hW.1 (by decide) (fun p e s m args below meth c res C => ?_)
  refine ah_cons (as_aload_n C dX11_likeness_0 rfl) ?_
  refine ah_cons (as_gfr C dX11_likeness_1 fgX11_19) ?_
  refine ah_cons (as_iload_n C dX11_likeness_4 rfl) ?_
  refine ah_cons (as_iload_n C dX11_likeness_5 rfl) ?_
  refine ah_cons (as_vI (ah_t1 (ah_okV (n := 2) C (mX0_hasTwo hW f) dX11_likeness_6 (ci := 0) rfl wt_303 wt_224 wt_223 wt_4 wt_225 ⟨by decide, by decide, by decide, by decide⟩ ⟨by decide, by decide⟩) ah_t0)) ?_
  refine ah_cons (as_if_eq C dX11_likeness_9 (by decide)) ?_
  refine ah_cons (as_aload_n C dX11_likeness_12 rfl) ?_
  refine ah_cons (as_gfr C dX11_likeness_13 fgX11_19) ?_
  refine ah_cons (as_iload_n C dX11_likeness_16 rfl) ?_
  refine ah_cons (as_iload_n C dX11_likeness_17 rfl) ?_
  refine ah_cons (as_vI (ah_t1 (ah_okV (n := 2) C (mX0_likenessOf hW f) dX11_likeness_18 (ci := 0) rfl wt_304 wt_62 wt_61 wt_4 wt_63 ⟨by decide, by decide, by decide, by decide⟩ ⟨by decide, by decide⟩) ah_t0)) ?_
  refine ah_cons (as_goto C dX11_likeness_21 (by decide)) ?_
  refine ah_cons (as_bipush C dX11_likeness_24 (by decide)) ?_
  refine ah_cons (as_iret C rfl dX11_likeness_26) ?_
  exact ah_nil
def kX11_apart (f : Nat) : List (Nat × ah_S) := [
  (0, ah_ald 0 1),
  (1, ah_gfr [11] 1 4),
  (4, ah_ild 1 5),
  (5, ah_ild 2 6),
  (6, ah_vI [(0, aX0_hasTwo f)] 3 9),
  (9, ah_zeq 36 12),
  (12, ah_ald 0 13),
  (13, ah_gfr [11] 1 16),
  (16, ah_gfr [0] 0 19),
  (19, ah_ild 1 20),
  (20, ah_aald 2 21),
  (21, ah_ald 0 22),
  (22, ah_gfr [11] 1 25),
  (25, ah_gfr [0] 0 28),
  (28, ah_ild 2 29),
  (29, ah_aald 2 30),
  (30, ah_vI [(1, aX8_distanceTo f), (3, aX3_distanceTo f), (5, aX8_distanceTo f), (8, aX8_distanceTo f), (9, aX8_distanceTo f)] 2 33),
  (33, ah_goto 38),
  (36, ah_push (.int (-101)) 38),
  (38, ah_iret)]
def aX11_apart (f : Nat) : ah_F := ah_fun (kX11_apart f) 3 f
set_option maxRecDepth 100000 in
set_option maxHeartbeats 4000000 in
theorem mX11_apart {l : Launch} {s0 : State} {D : va_G} {tc : Nat → ClassId} {ad : Nat → Nat} {A : Nat → Prop} (hW : ah_W0 s0 ad A) (f : Nat) : ah_Met l s0 D tc ad A yX11_apart cX11_apart 3 (some .int) 2 43 (aX11_apart f) := by
  refine ah_met hW.1 (by decide) (fun p e s m args below meth c res C => ?_)
  refine ah_cons (as_aload_n C dX11_apart_0 rfl) ?_
  refine ah_cons (as_gfr C dX11_apart_1 fgX11_19) ?_
  refine ah_cons (as_iload_n C dX11_apart_4 rfl) ?_
  refine ah_cons (as_iload_n C dX11_apart_5 rfl) ?_
  refine ah_cons (as_vI (ah_t1 (ah_okV (n := 2) C (mX0_hasTwo hW f) dX11_apart_6 (ci := 0) rfl wt_303 wt_224 wt_223 wt_4 wt_225 ⟨by decide, by decide, by decide, by decide⟩ ⟨by decide, by decide⟩) ah_t0)) ?_
  refine ah_cons (as_if_eq C dX11_apart_9 (by decide)) ?_
  refine ah_cons (as_aload_n C dX11_apart_12 rfl) ?_
  refine ah_cons (as_gfr C dX11_apart_13 fgX11_19) ?_
  refine ah_cons (as_gfr C dX11_apart_16 fgX11_80) ?_
  refine ah_cons (as_iload_n C dX11_apart_19 rfl) ?_
  refine ah_cons (as_aald C dX11_apart_20 rfl rfl) ?_
  refine ah_cons (as_aload_n C dX11_apart_21 rfl) ?_
  refine ah_cons (as_gfr C dX11_apart_22 fgX11_19) ?_
  refine ah_cons (as_gfr C dX11_apart_25 fgX11_80) ?_
  refine ah_cons (as_iload_n C dX11_apart_28 rfl) ?_
  refine ah_cons (as_aald C dX11_apart_29 rfl rfl) ?_
  refine ah_cons (as_vI (ah_t1 (ah_okU (n := 1) (x := yX8_distanceTo) (owner := RX8) C (mX8_distanceTo hW f) dX11_apart_30 (ci := 1) rfl wt_305 wt_49 wt_50 wt_51 wt_50 wt_43 wt_52 wt_52 ⟨by decide, by decide, by decide⟩ ⟨by decide, by decide⟩) (ah_t1 (ah_okU (n := 1) (x := yX8_distanceTo) (owner := RX8) C (mX3_distanceTo hW f) dX11_apart_30 (ci := 3) rfl wt_305 wt_49 wt_50 wt_53 wt_54 wt_55 wt_56 wt_52 ⟨by decide, by decide, by decide⟩ ⟨by decide, by decide⟩) (ah_t1 (ah_okU (n := 1) (x := yX8_distanceTo) (owner := RX8) C (mX8_distanceTo hW f) dX11_apart_30 (ci := 5) rfl wt_305 wt_49 wt_50 wt_57 wt_50 wt_43 wt_52 wt_52 ⟨by decide, by decide, by decide⟩ ⟨by decide, by decide⟩) (ah_t1 (ah_okV (n := 1) C (mX8_distanceTo hW f) dX11_apart_30 (ci := 8) rfl wt_305 wt_50 wt_58 wt_43 wt_52 ⟨by decide, by decide, by decide, by decide⟩ ⟨by decide, by decide⟩) (ah_t1 (ah_okU (n := 1) (x := yX8_distanceTo) (owner := RX8) C (mX8_distanceTo hW f) dX11_apart_30 (ci := 9) rfl wt_305 wt_49 wt_50 wt_59 wt_50 wt_43 wt_52 wt_52 ⟨by decide, by decide, by decide⟩ ⟨by decide, by decide⟩) ah_t0)))))) ?_
  refine ah_cons (as_goto C dX11_apart_33 (by decide)) ?_
  refine ah_cons (as_bipush C dX11_apart_36 (by decide)) ?_
  refine ah_cons (as_iret C rfl dX11_apart_38) ?_
  exact ah_nil
def kX11_isStation (f : Nat) : List (Nat × ah_S) := [
  (0, ah_ild 0 1),
  (1, ah_zlt 14 4),
  (4, ah_ild 0 5),
  (5, ah_push (.int (6)) 7),
  (7, ah_clt 10 14),
  (10, ah_push (.int (1)) 11),
  (11, ah_goto 15),
  (14, ah_push (.int (0)) 15),
  (15, ah_zret)]
def aX11_isStation (f : Nat) : ah_F := ah_fun (kX11_isStation f) 1 f
set_option maxRecDepth 100000 in
set_option maxHeartbeats 4000000 in
theorem mX11_isStation {l : Launch} {s0 : State} {D : va_G} {tc : Nat → ClassId} {ad : Nat → Nat} {A : Nat → Prop} (hW : ah_W0 s0 ad A) (f : Nat) : ah_Met l s0 D tc ad A yX11_isStation cX11_isStation 1 (some .boolean) 0 0 (aX11_isStation f) := by
  refine ah_met hW.1 (by decide) (fun p e s m args below meth c res C => ?_)
  refine ah_cons (as_iload_n C dX11_isStation_0 rfl) ?_
  refine ah_cons (as_if_lt C dX11_isStation_1 (by decide)) ?_
  refine ah_cons (as_iload_n C dX11_isStation_4 rfl) ?_
  refine ah_cons (as_bipush C dX11_isStation_5 (by decide)) ?_
  refine ah_cons (as_icmp_ge C dX11_isStation_7 (by decide)) ?_
  refine ah_cons (as_iconst C dX11_isStation_10 (by decide)) ?_
  refine ah_cons (as_goto C dX11_isStation_11 (by decide)) ?_
  refine ah_cons (as_iconst C dX11_isStation_14 (by decide)) ?_
  refine ah_cons (as_zret C rfl dX11_isStation_15) ?_
  exact ah_nil
def kX11_carry (f : Nat) : List (Nat × ah_S) := [
  (0, ah_ald 0 1),
  (1, ah_gfr [11] 1 4),
  (4, ah_ild 1 5),
  (5, ah_vI [(0, aX0_has f)] 2 8),
  (8, ah_zeq 18 11),
  (11, ah_ild 2 12),
  (12, ah_sI (aX11_isStation f) 1 15),
  (15, ah_zeq 18 21),
  (18, ah_push (.int (-101)) 20),
  (20, ah_iret),
  (21, ah_ald 0 22),
  (22, ah_gfr [11] 1 25),
  (25, ah_ild 1 26),
  (26, ah_vI [(0, aX0_isPaired f)] 2 29),
  (29, ah_zeq 35 32),
  (32, ah_push (.int (-103)) 34),
  (34, ah_iret),
  (35, ah_ald 0 36),
  (36, ah_gfr [11] 1 39),
  (39, ah_ild 1 40),
  (40, ah_ild 2 41),
  (41, ah_vI [(0, aX0_carryTo f)] 3 44),
  (44, ah_iret)]
def aX11_carry (f : Nat) : ah_F := ah_fun (kX11_carry f) 3 f
set_option maxRecDepth 100000 in
set_option maxHeartbeats 4000000 in
theorem mX11_carry {l : Launch} {s0 : State} {D : va_G} {tc : Nat → ClassId} {ad : Nat → Nat} {A : Nat → Prop} (hW : ah_W0 s0 ad A) (f : Nat) : ah_Met l s0 D tc ad A yX11_carry cX11_carry 3 (some .int) 2 44 (aX11_carry f) := by
  refine ah_met hW.1 (by decide) (fun p e s m args below meth c res C => ?_)
  refine ah_cons (as_aload_n C dX11_carry_0 rfl) ?_
  refine ah_cons (as_gfr C dX11_carry_1 fgX11_19) ?_
  refine ah_cons (as_iload_n C dX11_carry_4 rfl) ?_
  refine ah_cons (as_vI (ah_t1 (ah_okV (n := 1) C (mX0_has hW f) dX11_carry_5 (ci := 0) rfl wt_253 wt_3 wt_2 wt_4 wt_5 ⟨by decide, by decide, by decide, by decide⟩ ⟨by decide, by decide⟩) ah_t0)) ?_
  refine ah_cons (as_if_eq C dX11_carry_8 (by decide)) ?_
  refine ah_cons (as_iload_n C dX11_carry_11 rfl) ?_
  refine ah_cons (as_sI C (mX11_isStation hW f) dX11_carry_12 wt_306 wt_307 wt_301 wt_308 ⟨by decide, by decide, by decide⟩ ⟨by decide, by decide⟩) ?_
  refine ah_cons (as_if_ne C dX11_carry_15 (by decide)) ?_
  refine ah_cons (as_bipush C dX11_carry_18 (by decide)) ?_
  refine ah_cons (as_iret C rfl dX11_carry_20) ?_
  refine ah_cons (as_aload_n C dX11_carry_21 rfl) ?_
  refine ah_cons (as_gfr C dX11_carry_22 fgX11_19) ?_
  refine ah_cons (as_iload_n C dX11_carry_25 rfl) ?_
  refine ah_cons (as_vI (ah_t1 (ah_okV (n := 1) C (mX0_isPaired hW f) dX11_carry_26 (ci := 0) rfl wt_309 wt_73 wt_72 wt_4 wt_74 ⟨by decide, by decide, by decide, by decide⟩ ⟨by decide, by decide⟩) ah_t0)) ?_
  refine ah_cons (as_if_eq C dX11_carry_29 (by decide)) ?_
  refine ah_cons (as_bipush C dX11_carry_32 (by decide)) ?_
  refine ah_cons (as_iret C rfl dX11_carry_34) ?_
  refine ah_cons (as_aload_n C dX11_carry_35 rfl) ?_
  refine ah_cons (as_gfr C dX11_carry_36 fgX11_19) ?_
  refine ah_cons (as_iload_n C dX11_carry_39 rfl) ?_
  refine ah_cons (as_iload_n C dX11_carry_40 rfl) ?_
  refine ah_cons (as_vI (ah_t1 (ah_okV (n := 2) C (mX0_carryTo hW f) dX11_carry_41 (ci := 0) rfl wt_310 wt_312 wt_311 wt_4 wt_313 ⟨by decide, by decide, by decide, by decide⟩ ⟨by decide, by decide⟩) ah_t0)) ?_
  refine ah_cons (as_iret C rfl dX11_carry_44) ?_
  exact ah_nil
def kX11_bring (f : Nat) : List (Nat × ah_S) := [
  (0, ah_ald 0 1),
  (1, ah_gfr [11] 1 4),
  (4, ah_ild 1 5),
  (5, ah_ild 2 6),
  (6, ah_vI [(0, aX0_hasTwo f)] 3 9),
  (9, ah_zeq 12 15),
  (12, ah_push (.int (-101)) 14),
  (14, ah_iret),
  (15, ah_ald 0 16),
  (16, ah_gfr [11] 1 19),
  (19, ah_ild 1 20),
  (20, ah_ild 2 21),
  (21, ah_vI [(0, aX0_canMeet f)] 3 24),
  (24, ah_zeq 27 30),
  (27, ah_push (.int (-103)) 29),
  (29, ah_iret),
  (30, ah_ald 0 31),
  (31, ah_gfr [11] 1 34),
  (34, ah_ild 1 35),
  (35, ah_ild 2 36),
  (36, ah_vV [(0, aX0_pairUp f)] 3 39),
  (39, ah_ald 0 40),
  (40, ah_gfr [11] 1 43),
  (43, ah_dupR 44),
  (44, ah_gfi [0] 4 47),
  (47, ah_push (.int (1)) 48),
  (48, ah_bin (fun x y => x + y) 49),
  (49, ah_pfi [0] 4 52),
  (52, ah_ald 0 53),
  (53, ah_gfr [11] 1 56),
  (56, ah_ild 1 57),
  (57, ah_ild 2 58),
  (58, ah_vI [(0, aX0_likenessOf f)] 3 61),
  (61, ah_iret)]
def aX11_bring (f : Nat) : ah_F := ah_fun (kX11_bring f) 3 f
set_option maxRecDepth 100000 in
set_option maxHeartbeats 4000000 in
theorem mX11_bring {l : Launch} {s0 : State} {D : va_G} {tc : Nat → ClassId} {ad : Nat → Nat} {A : Nat → Prop} (hW : ah_W0 s0 ad A) (f : Nat) : ah_Met l s0 D tc ad A yX11_bring cX11_bring 3 (some .int) 5 110 (aX11_bring f) := by
  refine ah_met hW.1 (by decide) (fun p e s m args below meth c res C => ?_)
  refine ah_cons (as_aload_n C dX11_bring_0 rfl) ?_
  refine ah_cons (as_gfr C dX11_bring_1 fgX11_19) ?_
  refine ah_cons (as_iload_n C dX11_bring_4 rfl) ?_
  refine ah_cons (as_iload_n C dX11_bring_5 rfl) ?_
  refine ah_cons (as_vI (ah_t1 (ah_okV (n := 2) C (mX0_hasTwo hW f) dX11_bring_6 (ci := 0) rfl wt_303 wt_224 wt_223 wt_4 wt_225 ⟨by decide, by decide, by decide, by decide⟩ ⟨by decide, by decide⟩) ah_t0)) ?_
  refine ah_cons (as_if_ne C dX11_bring_9 (by decide)) ?_
  refine ah_cons (as_bipush C dX11_bring_12 (by decide)) ?_
  refine ah_cons (as_iret C rfl dX11_bring_14) ?_
  refine ah_cons (as_aload_n C dX11_bring_15 rfl) ?_
  refine ah_cons (as_gfr C dX11_bring_16 fgX11_19) ?_
  refine ah_cons (as_iload_n C dX11_bring_19 rfl) ?_
  refine ah_cons (as_iload_n C dX11_bring_20 rfl) ?_
  refine ah_cons (as_vI (ah_t1 (ah_okV (n := 2) C (mX0_canMeet hW f) dX11_bring_21 (ci := 0) rfl wt_314 wt_316 wt_315 wt_4 wt_317 ⟨by decide, by decide, by decide, by decide⟩ ⟨by decide, by decide⟩) ah_t0)) ?_
  refine ah_cons (as_if_ne C dX11_bring_24 (by decide)) ?_
  refine ah_cons (as_bipush C dX11_bring_27 (by decide)) ?_
  refine ah_cons (as_iret C rfl dX11_bring_29) ?_
  refine ah_cons (as_aload_n C dX11_bring_30 rfl) ?_
  refine ah_cons (as_gfr C dX11_bring_31 fgX11_19) ?_
  refine ah_cons (as_iload_n C dX11_bring_34 rfl) ?_
  refine ah_cons (as_iload_n C dX11_bring_35 rfl) ?_
  refine ah_cons (as_vV (ah_t1 (ah_okV (n := 2) C (mX0_pairUp hW f) dX11_bring_36 (ci := 0) rfl wt_318 wt_87 wt_86 wt_4 wt_88 ⟨by decide, by decide, by decide, by decide⟩ ⟨by decide, by decide⟩) ah_t0)) ?_
  refine ah_cons (as_aload_n C dX11_bring_39 rfl) ?_
  refine ah_cons (as_gfr C dX11_bring_40 fgX11_19) ?_
  refine ah_cons (as_dupR C dX11_bring_43) ?_
  refine ah_cons (as_gfi C dX11_bring_44 fgX11_158) ?_
  refine ah_cons (as_iconst C dX11_bring_47 (by decide)) ?_
  refine ah_cons (as_iadd C dX11_bring_48) ?_
  refine ah_cons (as_pfi C dX11_bring_49 fpX11_158) ?_
  refine ah_cons (as_aload_n C dX11_bring_52 rfl) ?_
  refine ah_cons (as_gfr C dX11_bring_53 fgX11_19) ?_
  refine ah_cons (as_iload_n C dX11_bring_56 rfl) ?_
  refine ah_cons (as_iload_n C dX11_bring_57 rfl) ?_
  refine ah_cons (as_vI (ah_t1 (ah_okV (n := 2) C (mX0_likenessOf hW f) dX11_bring_58 (ci := 0) rfl wt_304 wt_62 wt_61 wt_4 wt_63 ⟨by decide, by decide, by decide, by decide⟩ ⟨by decide, by decide⟩) ah_t0)) ?_
  refine ah_cons (as_iret C rfl dX11_bring_61) ?_
  exact ah_nil
def kX11_part (f : Nat) : List (Nat × ah_S) := [
  (0, ah_ald 0 1),
  (1, ah_gfr [11] 1 4),
  (4, ah_ild 1 5),
  (5, ah_vI [(0, aX0_has f)] 2 8),
  (8, ah_zeq 11 14),
  (11, ah_push (.int (-101)) 13),
  (13, ah_iret),
  (14, ah_ald 0 15),
  (15, ah_gfr [11] 1 18),
  (18, ah_ild 1 19),
  (19, ah_vI [(0, aX0_isPaired f)] 2 22),
  (22, ah_zeq 25 28),
  (25, ah_push (.int (-103)) 27),
  (27, ah_iret),
  (28, ah_ald 0 29),
  (29, ah_gfr [11] 1 32),
  (32, ah_gfr [0] 0 35),
  (35, ah_ild 1 36),
  (36, ah_aald 2 37),
  (37, ah_gfi [1, 3, 5, 8, 9] 3 40),
  (40, ah_ist 2 41),
  (41, ah_ald 0 42),
  (42, ah_gfr [11] 1 45),
  (45, ah_ild 1 46),
  (46, ah_vV [(0, aX0_separate f)] 2 49),
  (49, ah_ald 0 50),
  (50, ah_gfr [11] 1 53),
  (53, ah_dupR 54),
  (54, ah_gfi [0] 5 57),
  (57, ah_push (.int (1)) 58),
  (58, ah_bin (fun x y => x + y) 59),
  (59, ah_pfi [0] 5 62),
  (62, ah_ild 2 63),
  (63, ah_iret)]
def aX11_part (f : Nat) : ah_F := ah_fun (kX11_part f) 3 f
set_option maxRecDepth 100000 in
set_option maxHeartbeats 4000000 in
theorem mX11_part {l : Launch} {s0 : State} {D : va_G} {tc : Nat → ClassId} {ad : Nat → Nat} {A : Nat → Prop} (hW : ah_W0 s0 ad A) (f : Nat) : ah_Met l s0 D tc ad A yX11_part cX11_part 3 (some .int) 2 43 (aX11_part f) := by
  refine ah_met hW.1 (by decide) (fun p e s m args below meth c res C => ?_)
  refine ah_cons (as_aload_n C dX11_part_0 rfl) ?_
  refine ah_cons (as_gfr C dX11_part_1 fgX11_19) ?_
  refine ah_cons (as_iload_n C dX11_part_4 rfl) ?_
  refine ah_cons (as_vI (ah_t1 (ah_okV (n := 1) C (mX0_has hW f) dX11_part_5 (ci := 0) rfl wt_253 wt_3 wt_2 wt_4 wt_5 ⟨by decide, by decide, by decide, by decide⟩ ⟨by decide, by decide⟩) ah_t0)) ?_
  refine ah_cons (as_if_ne C dX11_part_8 (by decide)) ?_
  refine ah_cons (as_bipush C dX11_part_11 (by decide)) ?_
  refine ah_cons (as_iret C rfl dX11_part_13) ?_
  refine ah_cons (as_aload_n C dX11_part_14 rfl) ?_
  refine ah_cons (as_gfr C dX11_part_15 fgX11_19) ?_
  refine ah_cons (as_iload_n C dX11_part_18 rfl) ?_
  refine ah_cons (as_vI (ah_t1 (ah_okV (n := 1) C (mX0_isPaired hW f) dX11_part_19 (ci := 0) rfl wt_309 wt_73 wt_72 wt_4 wt_74 ⟨by decide, by decide, by decide, by decide⟩ ⟨by decide, by decide⟩) ah_t0)) ?_
  refine ah_cons (as_if_ne C dX11_part_22 (by decide)) ?_
  refine ah_cons (as_bipush C dX11_part_25 (by decide)) ?_
  refine ah_cons (as_iret C rfl dX11_part_27) ?_
  refine ah_cons (as_aload_n C dX11_part_28 rfl) ?_
  refine ah_cons (as_gfr C dX11_part_29 fgX11_19) ?_
  refine ah_cons (as_gfr C dX11_part_32 fgX11_80) ?_
  refine ah_cons (as_iload_n C dX11_part_35 rfl) ?_
  refine ah_cons (as_aald C dX11_part_36 rfl rfl) ?_
  refine ah_cons (as_gfi C dX11_part_37 fgX11_96) ?_
  refine ah_cons (as_istore_n C dX11_part_40 rfl (by decide)) ?_
  refine ah_cons (as_aload_n C dX11_part_41 rfl) ?_
  refine ah_cons (as_gfr C dX11_part_42 fgX11_19) ?_
  refine ah_cons (as_iload_n C dX11_part_45 rfl) ?_
  refine ah_cons (as_vV (ah_t1 (ah_okV (n := 1) C (mX0_separate hW f) dX11_part_46 (ci := 0) rfl wt_320 wt_322 wt_321 wt_4 wt_323 ⟨by decide, by decide, by decide, by decide⟩ ⟨by decide, by decide⟩) ah_t0)) ?_
  refine ah_cons (as_aload_n C dX11_part_49 rfl) ?_
  refine ah_cons (as_gfr C dX11_part_50 fgX11_19) ?_
  refine ah_cons (as_dupR C dX11_part_53) ?_
  refine ah_cons (as_gfi C dX11_part_54 fgX11_165) ?_
  refine ah_cons (as_iconst C dX11_part_57 (by decide)) ?_
  refine ah_cons (as_iadd C dX11_part_58) ?_
  refine ah_cons (as_pfi C dX11_part_59 fpX11_165) ?_
  refine ah_cons (as_iload_n C dX11_part_62 rfl) ?_
  refine ah_cons (as_iret C rfl dX11_part_63) ?_
  exact ah_nil
def kX11_shrink (f : Nat) : List (Nat × ah_S) := [
  (0, ah_ald 0 1),
  (1, ah_gfr [11] 1 4),
  (4, ah_ild 1 5),
  (5, ah_vI [(0, aX0_has f)] 2 8),
  (8, ah_zeq 11 14),
  (11, ah_push (.int (-101)) 13),
  (13, ah_iret),
  (14, ah_ild 2 15),
  (15, ah_zlt 24 18),
  (18, ah_ild 2 19),
  (19, ah_push (.int (10)) 21),
  (21, ah_clt 27 24),
  (24, ah_push (.int (-102)) 26),
  (26, ah_iret),
  (27, ah_ald 0 28),
  (28, ah_gfr [11] 1 31),
  (31, ah_ild 1 32),
  (32, ah_vI [(0, aX0_isPaired f)] 2 35),
  (35, ah_zeq 41 38),
  (38, ah_push (.int (-103)) 40),
  (40, ah_iret),
  (41, ah_ald 0 42),
  (42, ah_gfr [11] 1 45),
  (45, ah_gfr [0] 0 48),
  (48, ah_ild 1 49),
  (49, ah_aald 2 50),
  (50, ah_gfi [1, 3, 5, 8, 9] 1 53),
  (53, ah_ist 3 54),
  (54, ah_ald 0 55),
  (55, ah_gfr [11] 1 58),
  (58, ah_gfr [0] 0 61),
  (61, ah_ild 1 62),
  (62, ah_aald 2 63),
  (63, ah_ild 2 64),
  (64, ah_pfi [1, 3, 5, 8, 9] 1 67),
  (67, ah_ild 3 68),
  (68, ah_iret)]
def aX11_shrink (f : Nat) : ah_F := ah_fun (kX11_shrink f) 4 f
set_option maxRecDepth 100000 in
set_option maxHeartbeats 4000000 in
theorem mX11_shrink {l : Launch} {s0 : State} {D : va_G} {tc : Nat → ClassId} {ad : Nat → Nat} {A : Nat → Prop} (hW : ah_W0 s0 ad A) (f : Nat) : ah_Met l s0 D tc ad A yX11_shrink cX11_shrink 4 (some .int) 2 42 (aX11_shrink f) := by
  refine ah_met hW.1 (by decide) (fun p e s m args below meth c res C => ?_)
  refine ah_cons (as_aload_n C dX11_shrink_0 rfl) ?_
  refine ah_cons (as_gfr C dX11_shrink_1 fgX11_19) ?_
  refine ah_cons (as_iload_n C dX11_shrink_4 rfl) ?_
  refine ah_cons (as_vI (ah_t1 (ah_okV (n := 1) C (mX0_has hW f) dX11_shrink_5 (ci := 0) rfl wt_253 wt_3 wt_2 wt_4 wt_5 ⟨by decide, by decide, by decide, by decide⟩ ⟨by decide, by decide⟩) ah_t0)) ?_
  refine ah_cons (as_if_ne C dX11_shrink_8 (by decide)) ?_
  refine ah_cons (as_bipush C dX11_shrink_11 (by decide)) ?_
  refine ah_cons (as_iret C rfl dX11_shrink_13) ?_
  refine ah_cons (as_iload_n C dX11_shrink_14 rfl) ?_
  refine ah_cons (as_if_lt C dX11_shrink_15 (by decide)) ?_
  refine ah_cons (as_iload_n C dX11_shrink_18 rfl) ?_
  refine ah_cons (as_bipush C dX11_shrink_19 (by decide)) ?_
  refine ah_cons (as_icmp_lt C dX11_shrink_21 (by decide)) ?_
  refine ah_cons (as_bipush C dX11_shrink_24 (by decide)) ?_
  refine ah_cons (as_iret C rfl dX11_shrink_26) ?_
  refine ah_cons (as_aload_n C dX11_shrink_27 rfl) ?_
  refine ah_cons (as_gfr C dX11_shrink_28 fgX11_19) ?_
  refine ah_cons (as_iload_n C dX11_shrink_31 rfl) ?_
  refine ah_cons (as_vI (ah_t1 (ah_okV (n := 1) C (mX0_isPaired hW f) dX11_shrink_32 (ci := 0) rfl wt_309 wt_73 wt_72 wt_4 wt_74 ⟨by decide, by decide, by decide, by decide⟩ ⟨by decide, by decide⟩) ah_t0)) ?_
  refine ah_cons (as_if_eq C dX11_shrink_35 (by decide)) ?_
  refine ah_cons (as_bipush C dX11_shrink_38 (by decide)) ?_
  refine ah_cons (as_iret C rfl dX11_shrink_40) ?_
  refine ah_cons (as_aload_n C dX11_shrink_41 rfl) ?_
  refine ah_cons (as_gfr C dX11_shrink_42 fgX11_19) ?_
  refine ah_cons (as_gfr C dX11_shrink_45 fgX11_80) ?_
  refine ah_cons (as_iload_n C dX11_shrink_48 rfl) ?_
  refine ah_cons (as_aald C dX11_shrink_49 rfl rfl) ?_
  refine ah_cons (as_gfi C dX11_shrink_50 fgX11_92) ?_
  refine ah_cons (as_istore_n C dX11_shrink_53 rfl (by decide)) ?_
  refine ah_cons (as_aload_n C dX11_shrink_54 rfl) ?_
  refine ah_cons (as_gfr C dX11_shrink_55 fgX11_19) ?_
  refine ah_cons (as_gfr C dX11_shrink_58 fgX11_80) ?_
  refine ah_cons (as_iload_n C dX11_shrink_61 rfl) ?_
  refine ah_cons (as_aald C dX11_shrink_62 rfl rfl) ?_
  refine ah_cons (as_iload_n C dX11_shrink_63 rfl) ?_
  refine ah_cons (as_pfi C dX11_shrink_64 fpX11_92) ?_
  refine ah_cons (as_iload_n C dX11_shrink_67 rfl) ?_
  refine ah_cons (as_iret C rfl dX11_shrink_68) ?_
  exact ah_nil
def kX11_may (f : Nat) : List (Nat × ah_S) := [
  (0, ah_ald 0 1),
  (1, ah_gfr [11] 1 4),
  (4, ah_vI [(0, aX0_isMissing f)] 1 7),
  (7, ah_zeq 13 10),
  (10, ah_push (.int (-103)) 12),
  (12, ah_iret),
  (13, ah_ald 0 14),
  (14, ah_gfr [11] 1 17),
  (17, ah_vV [(0, aX0_swapMates f)] 1 20),
  (20, ah_ald 0 21),
  (21, ah_gfr [11] 1 24),
  (24, ah_dupR 25),
  (25, ah_gfi [0] 6 28),
  (28, ah_push (.int (1)) 29),
  (29, ah_bin (fun x y => x + y) 30),
  (30, ah_pfi [0] 6 33),
  (33, ah_ald 0 34),
  (34, ah_gfr [11] 1 37),
  (37, ah_vI [(0, aX0_pairs f)] 1 40),
  (40, ah_iret)]
def aX11_may (f : Nat) : ah_F := ah_fun (kX11_may f) 1 f
set_option maxRecDepth 100000 in
set_option maxHeartbeats 4000000 in
theorem mX11_may {l : Launch} {s0 : State} {D : va_G} {tc : Nat → ClassId} {ad : Nat → Nat} {A : Nat → Prop} (hW : ah_W0 s0 ad A) (f : Nat) : ah_Met l s0 D tc ad A yX11_may cX11_may 1 (some .int) 6 133 (aX11_may f) := by
  refine ah_met hW.1 (by decide) (fun p e s m args below meth c res C => ?_)
  refine ah_cons (as_aload_n C dX11_may_0 rfl) ?_
  refine ah_cons (as_gfr C dX11_may_1 fgX11_19) ?_
  refine ah_cons (as_vI (ah_t1 (ah_okV (n := 0) C (mX0_isMissing hW f) dX11_may_4 (ci := 0) rfl wt_325 wt_327 wt_326 wt_4 wt_328 ⟨by decide, by decide, by decide, by decide⟩ ⟨by decide, by decide⟩) ah_t0)) ?_
  refine ah_cons (as_if_eq C dX11_may_7 (by decide)) ?_
  refine ah_cons (as_bipush C dX11_may_10 (by decide)) ?_
  refine ah_cons (as_iret C rfl dX11_may_12) ?_
  refine ah_cons (as_aload_n C dX11_may_13 rfl) ?_
  refine ah_cons (as_gfr C dX11_may_14 fgX11_19) ?_
  refine ah_cons (as_vV (ah_t1 (ah_okV (n := 0) C (mX0_swapMates hW f) dX11_may_17 (ci := 0) rfl wt_329 wt_331 wt_330 wt_4 wt_332 ⟨by decide, by decide, by decide, by decide⟩ ⟨by decide, by decide⟩) ah_t0)) ?_
  refine ah_cons (as_aload_n C dX11_may_20 rfl) ?_
  refine ah_cons (as_gfr C dX11_may_21 fgX11_19) ?_
  refine ah_cons (as_dupR C dX11_may_24) ?_
  refine ah_cons (as_gfi C dX11_may_25 fgX11_174) ?_
  refine ah_cons (as_iconst C dX11_may_28 (by decide)) ?_
  refine ah_cons (as_iadd C dX11_may_29) ?_
  refine ah_cons (as_pfi C dX11_may_30 fpX11_174) ?_
  refine ah_cons (as_aload_n C dX11_may_33 rfl) ?_
  refine ah_cons (as_gfr C dX11_may_34 fgX11_19) ?_
  refine ah_cons (as_vI (ah_t1 (ah_okV (n := 0) C (mX0_pairs hW f) dX11_may_37 (ci := 0) rfl wt_334 wt_336 wt_335 wt_4 wt_337 ⟨by decide, by decide, by decide, by decide⟩ ⟨by decide, by decide⟩) ah_t0)) ?_
  refine ah_cons (as_iret C rfl dX11_may_40) ?_
  exact ah_nil
def kX11_isRowQuestion (f : Nat) : List (Nat × ah_S) := [
  (0, ah_ild 0 1),
  (1, ah_zeq 21 4),
  (4, ah_ild 0 5),
  (5, ah_push (.int (1)) 6),
  (6, ah_ceq 21 9),
  (9, ah_ild 0 10),
  (10, ah_push (.int (10)) 12),
  (12, ah_clt 25 15),
  (15, ah_ild 0 16),
  (16, ah_push (.int (17)) 18),
  (18, ah_clt 21 25),
  (21, ah_push (.int (1)) 22),
  (22, ah_goto 26),
  (25, ah_push (.int (0)) 26),
  (26, ah_zret)]
def aX11_isRowQuestion (f : Nat) : ah_F := ah_fun (kX11_isRowQuestion f) 1 f
set_option maxRecDepth 100000 in
set_option maxHeartbeats 4000000 in
theorem mX11_isRowQuestion {l : Launch} {s0 : State} {D : va_G} {tc : Nat → ClassId} {ad : Nat → Nat} {A : Nat → Prop} (hW : ah_W0 s0 ad A) (f : Nat) : ah_Met l s0 D tc ad A yX11_isRowQuestion cX11_isRowQuestion 1 (some .boolean) 0 0 (aX11_isRowQuestion f) := by
  refine ah_met hW.1 (by decide) (fun p e s m args below meth c res C => ?_)
  refine ah_cons (as_iload_n C dX11_isRowQuestion_0 rfl) ?_
  refine ah_cons (as_if_eq C dX11_isRowQuestion_1 (by decide)) ?_
  refine ah_cons (as_iload_n C dX11_isRowQuestion_4 rfl) ?_
  refine ah_cons (as_iconst C dX11_isRowQuestion_5 (by decide)) ?_
  refine ah_cons (as_icmp_eq C dX11_isRowQuestion_6 (by decide)) ?_
  refine ah_cons (as_iload_n C dX11_isRowQuestion_9 rfl) ?_
  refine ah_cons (as_bipush C dX11_isRowQuestion_10 (by decide)) ?_
  refine ah_cons (as_icmp_lt C dX11_isRowQuestion_12 (by decide)) ?_
  refine ah_cons (as_iload_n C dX11_isRowQuestion_15 rfl) ?_
  refine ah_cons (as_bipush C dX11_isRowQuestion_16 (by decide)) ?_
  refine ah_cons (as_icmp_ge C dX11_isRowQuestion_18 (by decide)) ?_
  refine ah_cons (as_iconst C dX11_isRowQuestion_21 (by decide)) ?_
  refine ah_cons (as_goto C dX11_isRowQuestion_22 (by decide)) ?_
  refine ah_cons (as_iconst C dX11_isRowQuestion_25 (by decide)) ?_
  refine ah_cons (as_zret C rfl dX11_isRowQuestion_26) ?_
  exact ah_nil
def kX11_mostTold (f : Nat) : List (Nat × ah_S) := [
  (0, ah_ild 1 1),
  (1, ah_sw [(0, 28), (1, 36)] 44),
  (28, ah_ald 0 29),
  (29, ah_gfr [11] 3 32),
  (32, ah_gfi [6] 1 35),
  (35, ah_iret),
  (36, ah_ald 0 37),
  (37, ah_gfr [11] 3 40),
  (40, ah_gfi [6] 2 43),
  (43, ah_iret),
  (44, ah_ald 0 45),
  (45, ah_gfr [11] 3 48),
  (48, ah_ild 1 49),
  (49, ah_push (.int (10)) 51),
  (51, ah_bin (fun x y => x - y) 52),
  (52, ah_vI [(6, aX6_mateOf f)] 2 55),
  (55, ah_iret)]
def aX11_mostTold (f : Nat) : ah_F := ah_fun (kX11_mostTold f) 2 f
set_option maxRecDepth 100000 in
set_option maxHeartbeats 4000000 in
theorem mX11_mostTold {l : Launch} {s0 : State} {D : va_G} {tc : Nat → ClassId} {ad : Nat → Nat} {A : Nat → Prop} (hW : ah_W0 s0 ad A) (f : Nat) : ah_Met l s0 D tc ad A yX11_mostTold cX11_mostTold 2 (some .int) 1 21 (aX11_mostTold f) := by
  refine ah_met hW.1 (by decide) (fun p e s m args below meth c res C => ?_)
  refine ah_cons (as_iload_n C dX11_mostTold_0 rfl) ?_
  refine ah_cons (as_lsw C dX11_mostTold_1 (by decide) (by decide) (by decide)) ?_
  refine ah_cons (as_aload_n C dX11_mostTold_28 rfl) ?_
  refine ah_cons (as_gfr C dX11_mostTold_29 fgX11_33) ?_
  refine ah_cons (as_gfi C dX11_mostTold_32 fgX11_270) ?_
  refine ah_cons (as_iret C rfl dX11_mostTold_35) ?_
  refine ah_cons (as_aload_n C dX11_mostTold_36 rfl) ?_
  refine ah_cons (as_gfr C dX11_mostTold_37 fgX11_33) ?_
  refine ah_cons (as_gfi C dX11_mostTold_40 fgX11_271) ?_
  refine ah_cons (as_iret C rfl dX11_mostTold_43) ?_
  refine ah_cons (as_aload_n C dX11_mostTold_44 rfl) ?_
  refine ah_cons (as_gfr C dX11_mostTold_45 fgX11_33) ?_
  refine ah_cons (as_iload_n C dX11_mostTold_48 rfl) ?_
  refine ah_cons (as_bipush C dX11_mostTold_49 (by decide)) ?_
  refine ah_cons (as_isub C dX11_mostTold_51) ?_
  refine ah_cons (as_vI (ah_t1 (ah_okV (n := 1) C (mX6_mateOf hW f) dX11_mostTold_52 (ci := 6) rfl wt_341 wt_343 wt_342 wt_163 wt_344 ⟨by decide, by decide, by decide, by decide⟩ ⟨by decide, by decide⟩) ah_t0)) ?_
  refine ah_cons (as_iret C rfl dX11_mostTold_55) ?_
  exact ah_nil
def kX11_most (f : Nat) : List (Nat × ah_S) := [
  (0, ah_ild 1 1),
  (1, ah_sI (aX11_isRowQuestion f) 1 4),
  (4, ah_zeq 7 10),
  (7, ah_push (.int (-102)) 9),
  (9, ah_iret),
  (10, ah_ald 0 11),
  (11, ah_gfr [11] 1 14),
  (14, ah_vI [(0, aX0_isMissing f)] 1 17),
  (17, ah_zeq 23 20),
  (20, ah_push (.int (-103)) 22),
  (22, ah_iret),
  (23, ah_ald 0 24),
  (24, ah_gfr [11] 3 27),
  (27, ah_ald 0 28),
  (28, ah_gfr [11] 1 31),
  (31, ah_push (.int (0)) 32),
  (32, ah_push (.int (30)) 34),
  (34, ah_vV [(6, aX6_seek f)] 4 37),
  (37, ah_ald 0 38),
  (38, ah_ild 1 39),
  (39, ah_vI [(11, aX11_mostTold f)] 2 42),
  (42, ah_iret)]
def aX11_most (f : Nat) : ah_F := ah_fun (kX11_most f) 2 f
set_option maxRecDepth 100000 in
set_option maxHeartbeats 4000000 in
theorem mX11_most {l : Launch} {s0 : State} {D : va_G} {tc : Nat → ClassId} {ad : Nat → Nat} {A : Nat → Prop} (hW : ah_W0 s0 ad A) (f : Nat) : ah_Met l s0 D tc ad A yX11_most cX11_most 2 (some .int) 17 445 (aX11_most f) := by
  refine ah_met hW.1 (by decide) (fun p e s m args below meth c res C => ?_)
  refine ah_cons (as_iload_n C dX11_most_0 rfl) ?_
  refine ah_cons (as_sI C (mX11_isRowQuestion hW f) dX11_most_1 wt_345 wt_346 wt_301 wt_347 ⟨by decide, by decide, by decide⟩ ⟨by decide, by decide⟩) ?_
  refine ah_cons (as_if_ne C dX11_most_4 (by decide)) ?_
  refine ah_cons (as_bipush C dX11_most_7 (by decide)) ?_
  refine ah_cons (as_iret C rfl dX11_most_9) ?_
  refine ah_cons (as_aload_n C dX11_most_10 rfl) ?_
  refine ah_cons (as_gfr C dX11_most_11 fgX11_19) ?_
  refine ah_cons (as_vI (ah_t1 (ah_okV (n := 0) C (mX0_isMissing hW f) dX11_most_14 (ci := 0) rfl wt_325 wt_327 wt_326 wt_4 wt_328 ⟨by decide, by decide, by decide, by decide⟩ ⟨by decide, by decide⟩) ah_t0)) ?_
  refine ah_cons (as_if_eq C dX11_most_17 (by decide)) ?_
  refine ah_cons (as_bipush C dX11_most_20 (by decide)) ?_
  refine ah_cons (as_iret C rfl dX11_most_22) ?_
  refine ah_cons (as_aload_n C dX11_most_23 rfl) ?_
  refine ah_cons (as_gfr C dX11_most_24 fgX11_33) ?_
  refine ah_cons (as_aload_n C dX11_most_27 rfl) ?_
  refine ah_cons (as_gfr C dX11_most_28 fgX11_19) ?_
  refine ah_cons (as_iconst C dX11_most_31 (by decide)) ?_
  refine ah_cons (as_bipush C dX11_most_32 (by decide)) ?_
  refine ah_cons (as_vV (ah_t1 (ah_okV (n := 3) C (mX6_seek hW f) dX11_most_34 (ci := 6) rfl wt_348 wt_350 wt_349 wt_163 wt_351 ⟨by decide, by decide, by decide, by decide⟩ ⟨by decide, by decide⟩) ah_t0)) ?_
  refine ah_cons (as_aload_n C dX11_most_37 rfl) ?_
  refine ah_cons (as_iload_n C dX11_most_38 rfl) ?_
  refine ah_cons (as_vI (ah_t1 (ah_okV (n := 1) C (mX11_mostTold hW f) dX11_most_39 (ci := 11) rfl wt_352 wt_354 wt_353 wt_301 wt_355 ⟨by decide, by decide, by decide, by decide⟩ ⟨by decide, by decide⟩) ah_t0)) ?_
  refine ah_cons (as_iret C rfl dX11_most_42) ?_
  exact ah_nil
def kX11_bestTold (f : Nat) : List (Nat × ah_S) := [
  (0, ah_ild 1 1),
  (1, ah_sw [(0, 28), (1, 36)] 44),
  (28, ah_ald 0 29),
  (29, ah_gfr [11] 3 32),
  (32, ah_gfi [6] 2 35),
  (35, ah_iret),
  (36, ah_ald 0 37),
  (37, ah_gfr [11] 3 40),
  (40, ah_gfi [6] 3 43),
  (43, ah_iret),
  (44, ah_ald 0 45),
  (45, ah_gfr [11] 3 48),
  (48, ah_ild 1 49),
  (49, ah_push (.int (10)) 51),
  (51, ah_bin (fun x y => x - y) 52),
  (52, ah_vI [(6, aX6_mateOf f)] 2 55),
  (55, ah_iret)]
def aX11_bestTold (f : Nat) : ah_F := ah_fun (kX11_bestTold f) 2 f
set_option maxRecDepth 100000 in
set_option maxHeartbeats 4000000 in
theorem mX11_bestTold {l : Launch} {s0 : State} {D : va_G} {tc : Nat → ClassId} {ad : Nat → Nat} {A : Nat → Prop} (hW : ah_W0 s0 ad A) (f : Nat) : ah_Met l s0 D tc ad A yX11_bestTold cX11_bestTold 2 (some .int) 1 21 (aX11_bestTold f) := by
  refine ah_met hW.1 (by decide) (fun p e s m args below meth c res C => ?_)
  refine ah_cons (as_iload_n C dX11_bestTold_0 rfl) ?_
  refine ah_cons (as_lsw C dX11_bestTold_1 (by decide) (by decide) (by decide)) ?_
  refine ah_cons (as_aload_n C dX11_bestTold_28 rfl) ?_
  refine ah_cons (as_gfr C dX11_bestTold_29 fgX11_33) ?_
  refine ah_cons (as_gfi C dX11_bestTold_32 fgX11_271) ?_
  refine ah_cons (as_iret C rfl dX11_bestTold_35) ?_
  refine ah_cons (as_aload_n C dX11_bestTold_36 rfl) ?_
  refine ah_cons (as_gfr C dX11_bestTold_37 fgX11_33) ?_
  refine ah_cons (as_gfi C dX11_bestTold_40 fgX11_275) ?_
  refine ah_cons (as_iret C rfl dX11_bestTold_43) ?_
  refine ah_cons (as_aload_n C dX11_bestTold_44 rfl) ?_
  refine ah_cons (as_gfr C dX11_bestTold_45 fgX11_33) ?_
  refine ah_cons (as_iload_n C dX11_bestTold_48 rfl) ?_
  refine ah_cons (as_bipush C dX11_bestTold_49 (by decide)) ?_
  refine ah_cons (as_isub C dX11_bestTold_51) ?_
  refine ah_cons (as_vI (ah_t1 (ah_okV (n := 1) C (mX6_mateOf hW f) dX11_bestTold_52 (ci := 6) rfl wt_341 wt_343 wt_342 wt_163 wt_344 ⟨by decide, by decide, by decide, by decide⟩ ⟨by decide, by decide⟩) ah_t0)) ?_
  refine ah_cons (as_iret C rfl dX11_bestTold_55) ?_
  exact ah_nil
def kX11_best (f : Nat) : List (Nat × ah_S) := [
  (0, ah_ild 1 1),
  (1, ah_zlt 17 4),
  (4, ah_ild 1 5),
  (5, ah_push (.int (30)) 7),
  (7, ah_cgt 17 10),
  (10, ah_ild 2 11),
  (11, ah_sI (aX11_isRowQuestion f) 1 14),
  (14, ah_zeq 17 20),
  (17, ah_push (.int (-102)) 19),
  (19, ah_iret),
  (20, ah_ald 0 21),
  (21, ah_gfr [11] 1 24),
  (24, ah_vI [(0, aX0_isMissing f)] 1 27),
  (27, ah_zeq 33 30),
  (30, ah_push (.int (-103)) 32),
  (32, ah_iret),
  (33, ah_ald 0 34),
  (34, ah_gfr [11] 3 37),
  (37, ah_ald 0 38),
  (38, ah_gfr [11] 1 41),
  (41, ah_push (.int (1)) 42),
  (42, ah_ild 1 43),
  (43, ah_vV [(6, aX6_seek f)] 4 46),
  (46, ah_ald 0 47),
  (47, ah_ild 2 48),
  (48, ah_vI [(11, aX11_bestTold f)] 2 51),
  (51, ah_iret)]
def aX11_best (f : Nat) : ah_F := ah_fun (kX11_best f) 3 f
set_option maxRecDepth 100000 in
set_option maxHeartbeats 4000000 in
theorem mX11_best {l : Launch} {s0 : State} {D : va_G} {tc : Nat → ClassId} {ad : Nat → Nat} {A : Nat → Prop} (hW : ah_W0 s0 ad A) (f : Nat) : ah_Met l s0 D tc ad A yX11_best cX11_best 3 (some .int) 17 445 (aX11_best f) := by
  refine ah_met hW.1 (by decide) (fun p e s m args below meth c res C => ?_)
  refine ah_cons (as_iload_n C dX11_best_0 rfl) ?_
  refine ah_cons (as_if_lt C dX11_best_1 (by decide)) ?_
  refine ah_cons (as_iload_n C dX11_best_4 rfl) ?_
  refine ah_cons (as_bipush C dX11_best_5 (by decide)) ?_
  refine ah_cons (as_icmp_gt C dX11_best_7 (by decide)) ?_
  refine ah_cons (as_iload_n C dX11_best_10 rfl) ?_
  refine ah_cons (as_sI C (mX11_isRowQuestion hW f) dX11_best_11 wt_345 wt_346 wt_301 wt_347 ⟨by decide, by decide, by decide⟩ ⟨by decide, by decide⟩) ?_
  refine ah_cons (as_if_ne C dX11_best_14 (by decide)) ?_
  refine ah_cons (as_bipush C dX11_best_17 (by decide)) ?_
  refine ah_cons (as_iret C rfl dX11_best_19) ?_
  refine ah_cons (as_aload_n C dX11_best_20 rfl) ?_
  refine ah_cons (as_gfr C dX11_best_21 fgX11_19) ?_
  refine ah_cons (as_vI (ah_t1 (ah_okV (n := 0) C (mX0_isMissing hW f) dX11_best_24 (ci := 0) rfl wt_325 wt_327 wt_326 wt_4 wt_328 ⟨by decide, by decide, by decide, by decide⟩ ⟨by decide, by decide⟩) ah_t0)) ?_
  refine ah_cons (as_if_eq C dX11_best_27 (by decide)) ?_
  refine ah_cons (as_bipush C dX11_best_30 (by decide)) ?_
  refine ah_cons (as_iret C rfl dX11_best_32) ?_
  refine ah_cons (as_aload_n C dX11_best_33 rfl) ?_
  refine ah_cons (as_gfr C dX11_best_34 fgX11_33) ?_
  refine ah_cons (as_aload_n C dX11_best_37 rfl) ?_
  refine ah_cons (as_gfr C dX11_best_38 fgX11_19) ?_
  refine ah_cons (as_iconst C dX11_best_41 (by decide)) ?_
  refine ah_cons (as_iload_n C dX11_best_42 rfl) ?_
  refine ah_cons (as_vV (ah_t1 (ah_okV (n := 3) C (mX6_seek hW f) dX11_best_43 (ci := 6) rfl wt_348 wt_350 wt_349 wt_163 wt_351 ⟨by decide, by decide, by decide, by decide⟩ ⟨by decide, by decide⟩) ah_t0)) ?_
  refine ah_cons (as_aload_n C dX11_best_46 rfl) ?_
  refine ah_cons (as_iload_n C dX11_best_47 rfl) ?_
  refine ah_cons (as_vI (ah_t1 (ah_okV (n := 1) C (mX11_bestTold hW f) dX11_best_48 (ci := 11) rfl wt_357 wt_359 wt_358 wt_301 wt_360 ⟨by decide, by decide, by decide, by decide⟩ ⟨by decide, by decide⟩) ah_t0)) ?_
  refine ah_cons (as_iret C rfl dX11_best_51) ?_
  exact ah_nil
def kX11_stableTold (f : Nat) : List (Nat × ah_S) := [
  (0, ah_ild 1 1),
  (1, ah_sw [(0, 28), (1, 36)] 44),
  (28, ah_ald 0 29),
  (29, ah_gfr [11] 3 32),
  (32, ah_gfi [6] 0 35),
  (35, ah_iret),
  (36, ah_ald 0 37),
  (37, ah_gfr [11] 3 40),
  (40, ah_gfi [6] 1 43),
  (43, ah_iret),
  (44, ah_ald 0 45),
  (45, ah_gfr [11] 3 48),
  (48, ah_ild 1 49),
  (49, ah_push (.int (10)) 51),
  (51, ah_bin (fun x y => x - y) 52),
  (52, ah_vI [(6, aX6_mateOf f)] 2 55),
  (55, ah_iret)]
def aX11_stableTold (f : Nat) : ah_F := ah_fun (kX11_stableTold f) 2 f
set_option maxRecDepth 100000 in
set_option maxHeartbeats 4000000 in
theorem mX11_stableTold {l : Launch} {s0 : State} {D : va_G} {tc : Nat → ClassId} {ad : Nat → Nat} {A : Nat → Prop} (hW : ah_W0 s0 ad A) (f : Nat) : ah_Met l s0 D tc ad A yX11_stableTold cX11_stableTold 2 (some .int) 1 21 (aX11_stableTold f) := by
  refine ah_met hW.1 (by decide) (fun p e s m args below meth c res C => ?_)
  refine ah_cons (as_iload_n C dX11_stableTold_0 rfl) ?_
  refine ah_cons (as_lsw C dX11_stableTold_1 (by decide) (by decide) (by decide)) ?_
  refine ah_cons (as_aload_n C dX11_stableTold_28 rfl) ?_
  refine ah_cons (as_gfr C dX11_stableTold_29 fgX11_33) ?_
  refine ah_cons (as_gfi C dX11_stableTold_32 fgX11_276) ?_
  refine ah_cons (as_iret C rfl dX11_stableTold_35) ?_
  refine ah_cons (as_aload_n C dX11_stableTold_36 rfl) ?_
  refine ah_cons (as_gfr C dX11_stableTold_37 fgX11_33) ?_
  refine ah_cons (as_gfi C dX11_stableTold_40 fgX11_270) ?_
  refine ah_cons (as_iret C rfl dX11_stableTold_43) ?_
  refine ah_cons (as_aload_n C dX11_stableTold_44 rfl) ?_
  refine ah_cons (as_gfr C dX11_stableTold_45 fgX11_33) ?_
  refine ah_cons (as_iload_n C dX11_stableTold_48 rfl) ?_
  refine ah_cons (as_bipush C dX11_stableTold_49 (by decide)) ?_
  refine ah_cons (as_isub C dX11_stableTold_51) ?_
  refine ah_cons (as_vI (ah_t1 (ah_okV (n := 1) C (mX6_mateOf hW f) dX11_stableTold_52 (ci := 6) rfl wt_341 wt_343 wt_342 wt_163 wt_344 ⟨by decide, by decide, by decide, by decide⟩ ⟨by decide, by decide⟩) ah_t0)) ?_
  refine ah_cons (as_iret C rfl dX11_stableTold_55) ?_
  exact ah_nil
def kX11_stable (f : Nat) : List (Nat × ah_S) := [
  (0, ah_ild 1 1),
  (1, ah_sI (aX11_isRowQuestion f) 1 4),
  (4, ah_zeq 7 10),
  (7, ah_push (.int (-102)) 9),
  (9, ah_iret),
  (10, ah_ald 0 11),
  (11, ah_gfr [11] 1 14),
  (14, ah_vI [(0, aX0_isMissing f)] 1 17),
  (17, ah_zeq 23 20),
  (20, ah_push (.int (-103)) 22),
  (22, ah_iret),
  (23, ah_ald 0 24),
  (24, ah_gfr [11] 3 27),
  (27, ah_ald 0 28),
  (28, ah_gfr [11] 1 31),
  (31, ah_push (.int (2)) 32),
  (32, ah_push (.int (30)) 34),
  (34, ah_vV [(6, aX6_seek f)] 4 37),
  (37, ah_ald 0 38),
  (38, ah_ild 1 39),
  (39, ah_vI [(11, aX11_stableTold f)] 2 42),
  (42, ah_iret)]
def aX11_stable (f : Nat) : ah_F := ah_fun (kX11_stable f) 2 f
set_option maxRecDepth 100000 in
set_option maxHeartbeats 4000000 in
theorem mX11_stable {l : Launch} {s0 : State} {D : va_G} {tc : Nat → ClassId} {ad : Nat → Nat} {A : Nat → Prop} (hW : ah_W0 s0 ad A) (f : Nat) : ah_Met l s0 D tc ad A yX11_stable cX11_stable 2 (some .int) 17 445 (aX11_stable f) := by
  refine ah_met hW.1 (by decide) (fun p e s m args below meth c res C => ?_)
  refine ah_cons (as_iload_n C dX11_stable_0 rfl) ?_
  refine ah_cons (as_sI C (mX11_isRowQuestion hW f) dX11_stable_1 wt_345 wt_346 wt_301 wt_347 ⟨by decide, by decide, by decide⟩ ⟨by decide, by decide⟩) ?_
  refine ah_cons (as_if_ne C dX11_stable_4 (by decide)) ?_
  refine ah_cons (as_bipush C dX11_stable_7 (by decide)) ?_
  refine ah_cons (as_iret C rfl dX11_stable_9) ?_
  refine ah_cons (as_aload_n C dX11_stable_10 rfl) ?_
  refine ah_cons (as_gfr C dX11_stable_11 fgX11_19) ?_
  refine ah_cons (as_vI (ah_t1 (ah_okV (n := 0) C (mX0_isMissing hW f) dX11_stable_14 (ci := 0) rfl wt_325 wt_327 wt_326 wt_4 wt_328 ⟨by decide, by decide, by decide, by decide⟩ ⟨by decide, by decide⟩) ah_t0)) ?_
  refine ah_cons (as_if_eq C dX11_stable_17 (by decide)) ?_
  refine ah_cons (as_bipush C dX11_stable_20 (by decide)) ?_
  refine ah_cons (as_iret C rfl dX11_stable_22) ?_
  refine ah_cons (as_aload_n C dX11_stable_23 rfl) ?_
  refine ah_cons (as_gfr C dX11_stable_24 fgX11_33) ?_
  refine ah_cons (as_aload_n C dX11_stable_27 rfl) ?_
  refine ah_cons (as_gfr C dX11_stable_28 fgX11_19) ?_
  refine ah_cons (as_iconst C dX11_stable_31 (by decide)) ?_
  refine ah_cons (as_bipush C dX11_stable_32 (by decide)) ?_
  refine ah_cons (as_vV (ah_t1 (ah_okV (n := 3) C (mX6_seek hW f) dX11_stable_34 (ci := 6) rfl wt_348 wt_350 wt_349 wt_163 wt_351 ⟨by decide, by decide, by decide, by decide⟩ ⟨by decide, by decide⟩) ah_t0)) ?_
  refine ah_cons (as_aload_n C dX11_stable_37 rfl) ?_
  refine ah_cons (as_iload_n C dX11_stable_38 rfl) ?_
  refine ah_cons (as_vI (ah_t1 (ah_okV (n := 1) C (mX11_stableTold hW f) dX11_stable_39 (ci := 11) rfl wt_362 wt_364 wt_363 wt_301 wt_365 ⟨by decide, by decide, by decide, by decide⟩ ⟨by decide, by decide⟩) ah_t0)) ?_
  refine ah_cons (as_iret C rfl dX11_stable_42) ?_
  exact ah_nil
def kX11_happy (f : Nat) : List (Nat × ah_S) := [
  (0, ah_ald 0 1),
  (1, ah_gfr [11] 1 4),
  (4, ah_ild 1 5),
  (5, ah_vI [(0, aX0_has f)] 2 8),
  (8, ah_zeq 11 14),
  (11, ah_push (.int (-101)) 13),
  (13, ah_iret),
  (14, ah_ald 0 15),
  (15, ah_gfr [11] 1 18),
  (18, ah_ild 1 19),
  (19, ah_vI [(0, aX0_isPaired f)] 2 22),
  (22, ah_zeq 25 28),
  (25, ah_push (.int (-103)) 27),
  (27, ah_iret),
  (28, ah_ald 0 29),
  (29, ah_gfr [11] 1 32),
  (32, ah_gfr [0] 0 35),
  (35, ah_ild 1 36),
  (36, ah_aald 2 37),
  (37, ah_gfi [1, 3, 5, 8, 9] 3 40),
  (40, ah_ist 2 41),
  (41, ah_ald 0 42),
  (42, ah_gfr [11] 1 45),
  (45, ah_ild 1 46),
  (46, ah_vI [(0, aX0_favouriteOf f)] 2 49),
  (49, ah_ild 2 50),
  (50, ah_ceq 53 69),
  (53, ah_ald 0 54),
  (54, ah_gfr [11] 1 57),
  (57, ah_ild 2 58),
  (58, ah_vI [(0, aX0_favouriteOf f)] 2 61),
  (61, ah_ild 1 62),
  (62, ah_ceq 65 69),
  (65, ah_push (.int (1)) 66),
  (66, ah_goto 70),
  (69, ah_push (.int (0)) 70),
  (70, ah_iret)]
def aX11_happy (f : Nat) : ah_F := ah_fun (kX11_happy f) 3 f
set_option maxRecDepth 100000 in
set_option maxHeartbeats 4000000 in
theorem mX11_happy {l : Launch} {s0 : State} {D : va_G} {tc : Nat → ClassId} {ad : Nat → Nat} {A : Nat → Prop} (hW : ah_W0 s0 ad A) (f : Nat) : ah_Met l s0 D tc ad A yX11_happy cX11_happy 3 (some .int) 4 91 (aX11_happy f) := by
  refine ah_met hW.1 (by decide) (fun p e s m args below meth c res C => ?_)
  refine ah_cons (as_aload_n C dX11_happy_0 rfl) ?_
  refine ah_cons (as_gfr C dX11_happy_1 fgX11_19) ?_
  refine ah_cons (as_iload_n C dX11_happy_4 rfl) ?_
  refine ah_cons (as_vI (ah_t1 (ah_okV (n := 1) C (mX0_has hW f) dX11_happy_5 (ci := 0) rfl wt_253 wt_3 wt_2 wt_4 wt_5 ⟨by decide, by decide, by decide, by decide⟩ ⟨by decide, by decide⟩) ah_t0)) ?_
  refine ah_cons (as_if_ne C dX11_happy_8 (by decide)) ?_
  refine ah_cons (as_bipush C dX11_happy_11 (by decide)) ?_
  refine ah_cons (as_iret C rfl dX11_happy_13) ?_
  refine ah_cons (as_aload_n C dX11_happy_14 rfl) ?_
  refine ah_cons (as_gfr C dX11_happy_15 fgX11_19) ?_
  refine ah_cons (as_iload_n C dX11_happy_18 rfl) ?_
  refine ah_cons (as_vI (ah_t1 (ah_okV (n := 1) C (mX0_isPaired hW f) dX11_happy_19 (ci := 0) rfl wt_309 wt_73 wt_72 wt_4 wt_74 ⟨by decide, by decide, by decide, by decide⟩ ⟨by decide, by decide⟩) ah_t0)) ?_
  refine ah_cons (as_if_ne C dX11_happy_22 (by decide)) ?_
  refine ah_cons (as_bipush C dX11_happy_25 (by decide)) ?_
  refine ah_cons (as_iret C rfl dX11_happy_27) ?_
  refine ah_cons (as_aload_n C dX11_happy_28 rfl) ?_
  refine ah_cons (as_gfr C dX11_happy_29 fgX11_19) ?_
  refine ah_cons (as_gfr C dX11_happy_32 fgX11_80) ?_
  refine ah_cons (as_iload_n C dX11_happy_35 rfl) ?_
  refine ah_cons (as_aald C dX11_happy_36 rfl rfl) ?_
  refine ah_cons (as_gfi C dX11_happy_37 fgX11_96) ?_
  refine ah_cons (as_istore_n C dX11_happy_40 rfl (by decide)) ?_
  refine ah_cons (as_aload_n C dX11_happy_41 rfl) ?_
  refine ah_cons (as_gfr C dX11_happy_42 fgX11_19) ?_
  refine ah_cons (as_iload_n C dX11_happy_45 rfl) ?_
  refine ah_cons (as_vI (ah_t1 (ah_okV (n := 1) C (mX0_favouriteOf hW f) dX11_happy_46 (ci := 0) rfl wt_277 wt_279 wt_278 wt_4 wt_280 ⟨by decide, by decide, by decide, by decide⟩ ⟨by decide, by decide⟩) ah_t0)) ?_
  refine ah_cons (as_iload_n C dX11_happy_49 rfl) ?_
  refine ah_cons (as_icmp_ne C dX11_happy_50 (by decide)) ?_
  refine ah_cons (as_aload_n C dX11_happy_53 rfl) ?_
  refine ah_cons (as_gfr C dX11_happy_54 fgX11_19) ?_
  refine ah_cons (as_iload_n C dX11_happy_57 rfl) ?_
  refine ah_cons (as_vI (ah_t1 (ah_okV (n := 1) C (mX0_favouriteOf hW f) dX11_happy_58 (ci := 0) rfl wt_277 wt_279 wt_278 wt_4 wt_280 ⟨by decide, by decide, by decide, by decide⟩ ⟨by decide, by decide⟩) ah_t0)) ?_
  refine ah_cons (as_iload_n C dX11_happy_61 rfl) ?_
  refine ah_cons (as_icmp_ne C dX11_happy_62 (by decide)) ?_
  refine ah_cons (as_iconst C dX11_happy_65 (by decide)) ?_
  refine ah_cons (as_goto C dX11_happy_66 (by decide)) ?_
  refine ah_cons (as_iconst C dX11_happy_69 (by decide)) ?_
  refine ah_cons (as_iret C rfl dX11_happy_70) ?_
  exact ah_nil
def kX11_round (f : Nat) : List (Nat × ah_S) := [
  (0, ah_ild 1 1),
  (1, ah_sI (aX11_isStation f) 1 4),
  (4, ah_zeq 17 7),
  (7, ah_ald 0 8),
  (8, ah_gfr [11] 1 11),
  (11, ah_vI [(0, aX0_isMissing f)] 1 14),
  (14, ah_zeq 20 17),
  (17, ah_push (.int (-101)) 19),
  (19, ah_iret),
  (20, ah_ald 0 21),
  (21, ah_gfr [11] 1 24),
  (24, ah_ild 1 25),
  (25, ah_vI [(0, aX0_roundFrom f)] 2 28),
  (28, ah_iret)]
def aX11_round (f : Nat) : ah_F := ah_fun (kX11_round f) 2 f
set_option maxRecDepth 100000 in
set_option maxHeartbeats 4000000 in
theorem mX11_round {l : Launch} {s0 : State} {D : va_G} {tc : Nat → ClassId} {ad : Nat → Nat} {A : Nat → Prop} (hW : ah_W0 s0 ad A) (f : Nat) : ah_Met l s0 D tc ad A yX11_round cX11_round 2 (some .int) 3 67 (aX11_round f) := by
  refine ah_met hW.1 (by decide) (fun p e s m args below meth c res C => ?_)
  refine ah_cons (as_iload_n C dX11_round_0 rfl) ?_
  refine ah_cons (as_sI C (mX11_isStation hW f) dX11_round_1 wt_306 wt_307 wt_301 wt_308 ⟨by decide, by decide, by decide⟩ ⟨by decide, by decide⟩) ?_
  refine ah_cons (as_if_eq C dX11_round_4 (by decide)) ?_
  refine ah_cons (as_aload_n C dX11_round_7 rfl) ?_
  refine ah_cons (as_gfr C dX11_round_8 fgX11_19) ?_
  refine ah_cons (as_vI (ah_t1 (ah_okV (n := 0) C (mX0_isMissing hW f) dX11_round_11 (ci := 0) rfl wt_325 wt_327 wt_326 wt_4 wt_328 ⟨by decide, by decide, by decide, by decide⟩ ⟨by decide, by decide⟩) ah_t0)) ?_
  refine ah_cons (as_if_eq C dX11_round_14 (by decide)) ?_
  refine ah_cons (as_bipush C dX11_round_17 (by decide)) ?_
  refine ah_cons (as_iret C rfl dX11_round_19) ?_
  refine ah_cons (as_aload_n C dX11_round_20 rfl) ?_
  refine ah_cons (as_gfr C dX11_round_21 fgX11_19) ?_
  refine ah_cons (as_iload_n C dX11_round_24 rfl) ?_
  refine ah_cons (as_vI (ah_t1 (ah_okV (n := 1) C (mX0_roundFrom hW f) dX11_round_25 (ci := 0) rfl wt_366 wt_368 wt_367 wt_4 wt_369 ⟨by decide, by decide, by decide, by decide⟩ ⟨by decide, by decide⟩) ah_t0)) ?_
  refine ah_cons (as_iret C rfl dX11_round_28) ?_
  exact ah_nil
def kX11_commonDivisor (f : Nat) : List (Nat × ah_S) := [
  (2, ah_ild 2 3),
  (0, ah_ild 1 1),
  (1, ah_lim 2 [0, 1, 2] (ah_ist 2 2)),
  (3, ah_push (.int (1)) 4),
  (4, ah_cgt 7 27),
  (7, ah_ild 0 8),
  (8, ah_ild 2 9),
  (9, ah_rem 10),
  (10, ah_zeq 13 21),
  (13, ah_ild 1 14),
  (14, ah_ild 2 15),
  (15, ah_rem 16),
  (16, ah_zeq 19 21),
  (19, ah_ild 2 20),
  (20, ah_iret),
  (21, ah_inc 2 (-1) 24),
  (24, ah_lim 2 [0, 1, 2] (ah_goto 2)),
  (27, ah_push (.int (1)) 28),
  (28, ah_iret)]
def aX11_commonDivisor (f : Nat) : ah_F := ah_fun (kX11_commonDivisor f) 3 f
set_option maxRecDepth 100000 in
set_option maxHeartbeats 4000000 in
theorem mX11_commonDivisor {l : Launch} {s0 : State} {D : va_G} {tc : Nat → ClassId} {ad : Nat → Nat} {A : Nat → Prop} (hW : ah_W0 s0 ad A) (f : Nat) : ah_Met l s0 D tc ad A yX11_commonDivisor cX11_commonDivisor 3 (some .int) 0 0 (aX11_commonDivisor f) := by
  refine ah_met hW.1 (by decide) (fun p e s m args below meth c res C => ?_)
  refine ah_cons (as_iload_n C dX11_commonDivisor_2 rfl) ?_
  refine ah_cons (as_iload_n C dX11_commonDivisor_0 rfl) ?_
  refine ah_cons (as_lim (as_istore_n C dX11_commonDivisor_1 rfl (by decide))) ?_
  refine ah_cons (as_iconst C dX11_commonDivisor_3 (by decide)) ?_
  refine ah_cons (as_icmp_le C dX11_commonDivisor_4 (by decide)) ?_
  refine ah_cons (as_iload_n C dX11_commonDivisor_7 rfl) ?_
  refine ah_cons (as_iload_n C dX11_commonDivisor_8 rfl) ?_
  refine ah_cons (as_irem C dX11_commonDivisor_9) ?_
  refine ah_cons (as_if_ne C dX11_commonDivisor_10 (by decide)) ?_
  refine ah_cons (as_iload_n C dX11_commonDivisor_13 rfl) ?_
  refine ah_cons (as_iload_n C dX11_commonDivisor_14 rfl) ?_
  refine ah_cons (as_irem C dX11_commonDivisor_15) ?_
  refine ah_cons (as_if_ne C dX11_commonDivisor_16 (by decide)) ?_
  refine ah_cons (as_iload_n C dX11_commonDivisor_19 rfl) ?_
  refine ah_cons (as_iret C rfl dX11_commonDivisor_20) ?_
  refine ah_cons (as_iinc C dX11_commonDivisor_21 (by decide) (by decide)) ?_
  refine ah_cons (as_lim (as_goto C dX11_commonDivisor_24 (by decide))) ?_
  refine ah_cons (as_iconst C dX11_commonDivisor_27 (by decide)) ?_
  refine ah_cons (as_iret C rfl dX11_commonDivisor_28) ?_
  exact ah_nil
def kX11_odds (f : Nat) : List (Nat × ah_S) := [
  (0, ah_ild 1 1),
  (1, ah_zeq 12 4),
  (4, ah_ild 1 5),
  (5, ah_push (.int (1)) 6),
  (6, ah_ceq 12 9),
  (9, ah_push (.int (-102)) 11),
  (11, ah_iret),
  (12, ah_ald 0 13),
  (13, ah_gfr [11] 1 16),
  (16, ah_vI [(0, aX0_isMissing f)] 1 19),
  (19, ah_zeq 25 22),
  (22, ah_push (.int (-103)) 24),
  (24, ah_iret),
  (25, ah_ald 0 26),
  (26, ah_gfr [11] 1 29),
  (29, ah_vI [(0, aX0_matchesAlone f)] 1 32),
  (32, ah_ist 2 33),
  (33, ah_ald 0 34),
  (34, ah_gfr [11] 1 37),
  (37, ah_vI [(0, aX0_twosAlone f)] 1 40),
  (40, ah_ist 3 41),
  (41, ah_ild 3 42),
  (42, ah_zeq 45 55),
  (45, ah_ild 1 46),
  (46, ah_zeq 49 53),
  (49, ah_push (.int (0)) 50),
  (50, ah_goto 54),
  (53, ah_push (.int (1)) 54),
  (54, ah_iret),
  (55, ah_ild 2 56),
  (56, ah_ild 3 57),
  (57, ah_sI (aX11_commonDivisor f) 2 60),
  (60, ah_ist 4 62),
  (62, ah_ild 1 63),
  (63, ah_zeq 66 73),
  (66, ah_ild 2 67),
  (67, ah_ild 4 69),
  (69, ah_div 70),
  (70, ah_goto 77),
  (73, ah_ild 3 74),
  (74, ah_ild 4 76),
  (76, ah_div 77),
  (77, ah_iret)]
def aX11_odds (f : Nat) : ah_F := ah_fun (kX11_odds f) 5 f
set_option maxRecDepth 100000 in
set_option maxHeartbeats 4000000 in
theorem mX11_odds {l : Launch} {s0 : State} {D : va_G} {tc : Nat → ClassId} {ad : Nat → Nat} {A : Nat → Prop} (hW : ah_W0 s0 ad A) (f : Nat) : ah_Met l s0 D tc ad A yX11_odds cX11_odds 5 (some .int) 5 111 (aX11_odds f) := by
  refine ah_met hW.1 (by decide) (fun p e s m args below meth c res C => ?_)
  refine ah_cons (as_iload_n C dX11_odds_0 rfl) ?_
  refine ah_cons (as_if_eq C dX11_odds_1 (by decide)) ?_
  refine ah_cons (as_iload_n C dX11_odds_4 rfl) ?_
  refine ah_cons (as_iconst C dX11_odds_5 (by decide)) ?_
  refine ah_cons (as_icmp_eq C dX11_odds_6 (by decide)) ?_
  refine ah_cons (as_bipush C dX11_odds_9 (by decide)) ?_
  refine ah_cons (as_iret C rfl dX11_odds_11) ?_
  refine ah_cons (as_aload_n C dX11_odds_12 rfl) ?_
  refine ah_cons (as_gfr C dX11_odds_13 fgX11_19) ?_
  refine ah_cons (as_vI (ah_t1 (ah_okV (n := 0) C (mX0_isMissing hW f) dX11_odds_16 (ci := 0) rfl wt_325 wt_327 wt_326 wt_4 wt_328 ⟨by decide, by decide, by decide, by decide⟩ ⟨by decide, by decide⟩) ah_t0)) ?_
  refine ah_cons (as_if_eq C dX11_odds_19 (by decide)) ?_
  refine ah_cons (as_bipush C dX11_odds_22 (by decide)) ?_
  refine ah_cons (as_iret C rfl dX11_odds_24) ?_
  refine ah_cons (as_aload_n C dX11_odds_25 rfl) ?_
  refine ah_cons (as_gfr C dX11_odds_26 fgX11_19) ?_
  refine ah_cons (as_vI (ah_t1 (ah_okV (n := 0) C (mX0_matchesAlone hW f) dX11_odds_29 (ci := 0) rfl wt_370 wt_372 wt_371 wt_4 wt_373 ⟨by decide, by decide, by decide, by decide⟩ ⟨by decide, by decide⟩) ah_t0)) ?_
  refine ah_cons (as_istore_n C dX11_odds_32 rfl (by decide)) ?_
  refine ah_cons (as_aload_n C dX11_odds_33 rfl) ?_
  refine ah_cons (as_gfr C dX11_odds_34 fgX11_19) ?_
  refine ah_cons (as_vI (ah_t1 (ah_okV (n := 0) C (mX0_twosAlone hW f) dX11_odds_37 (ci := 0) rfl wt_374 wt_376 wt_375 wt_4 wt_377 ⟨by decide, by decide, by decide, by decide⟩ ⟨by decide, by decide⟩) ah_t0)) ?_
  refine ah_cons (as_istore_n C dX11_odds_40 rfl (by decide)) ?_
  refine ah_cons (as_iload_n C dX11_odds_41 rfl) ?_
  refine ah_cons (as_if_ne C dX11_odds_42 (by decide)) ?_
  refine ah_cons (as_iload_n C dX11_odds_45 rfl) ?_
  refine ah_cons (as_if_ne C dX11_odds_46 (by decide)) ?_
  refine ah_cons (as_iconst C dX11_odds_49 (by decide)) ?_
  refine ah_cons (as_goto C dX11_odds_50 (by decide)) ?_
  refine ah_cons (as_iconst C dX11_odds_53 (by decide)) ?_
  refine ah_cons (as_iret C rfl dX11_odds_54) ?_
  refine ah_cons (as_iload_n C dX11_odds_55 rfl) ?_
  refine ah_cons (as_iload_n C dX11_odds_56 rfl) ?_
  refine ah_cons (as_sI C (mX11_commonDivisor hW f) dX11_odds_57 wt_378 wt_379 wt_301 wt_380 ⟨by decide, by decide, by decide⟩ ⟨by decide, by decide⟩) ?_
  refine ah_cons (as_istore C dX11_odds_60 (by decide)) ?_
  refine ah_cons (as_iload_n C dX11_odds_62 rfl) ?_
  refine ah_cons (as_if_ne C dX11_odds_63 (by decide)) ?_
  refine ah_cons (as_iload_n C dX11_odds_66 rfl) ?_
  refine ah_cons (as_iload C dX11_odds_67) ?_
  refine ah_cons (as_idiv C dX11_odds_69) ?_
  refine ah_cons (as_goto C dX11_odds_70 (by decide)) ?_
  refine ah_cons (as_iload_n C dX11_odds_73 rfl) ?_
  refine ah_cons (as_iload C dX11_odds_74) ?_
  refine ah_cons (as_idiv C dX11_odds_76) ?_
  refine ah_cons (as_iret C rfl dX11_odds_77) ?_
  exact ah_nil
def kX11_see (f : Nat) : List (Nat × ah_S) := [
  (0, ah_ald 0 1),
  (1, ah_gfr [11] 1 4),
  (4, ah_ild 1 5),
  (5, ah_ild 2 6),
  (6, ah_vI [(0, aX0_hasTwo f)] 3 9),
  (9, ah_zeq 12 15),
  (12, ah_push (.int (-101)) 14),
  (14, ah_iret),
  (15, ah_ild 3 16),
  (16, ah_push (.int (-1)) 17),
  (17, ah_ceq 33 20),
  (20, ah_ild 3 21),
  (21, ah_zlt 30 24),
  (24, ah_ild 3 25),
  (25, ah_push (.int (18)) 27),
  (27, ah_cgt 30 33),
  (30, ah_push (.int (-102)) 32),
  (32, ah_iret),
  (33, ah_ald 0 34),
  (34, ah_gfr [11] 1 37),
  (37, ah_gfr [0] 1 40),
  (40, ah_ild 1 41),
  (41, ah_ild 2 42),
  (42, ah_ild 3 43),
  (43, ah_vI [(7, aX7_note f)] 4 46),
  (46, ah_zeq 62 49),
  (49, ah_ald 0 50),
  (50, ah_gfr [11] 1 53),
  (53, ah_gfr [0] 1 56),
  (56, ah_gfi [7] 0 59),
  (59, ah_goto 64),
  (62, ah_push (.int (-104)) 64),
  (64, ah_iret)]
def aX11_see (f : Nat) : ah_F := ah_fun (kX11_see f) 4 f
set_option maxRecDepth 100000 in
set_option maxHeartbeats 4000000 in
theorem mX11_see {l : Launch} {s0 : State} {D : va_G} {tc : Nat → ClassId} {ad : Nat → Nat} {A : Nat → Prop} (hW : ah_W0 s0 ad A) (f : Nat) : ah_Met l s0 D tc ad A yX11_see cX11_see 4 (some .int) 2 43 (aX11_see f) := by
  refine ah_met hW.1 (by decide) (fun p e s m args below meth c res C => ?_)
  refine ah_cons (as_aload_n C dX11_see_0 rfl) ?_
  refine ah_cons (as_gfr C dX11_see_1 fgX11_19) ?_
  refine ah_cons (as_iload_n C dX11_see_4 rfl) ?_
  refine ah_cons (as_iload_n C dX11_see_5 rfl) ?_
  refine ah_cons (as_vI (ah_t1 (ah_okV (n := 2) C (mX0_hasTwo hW f) dX11_see_6 (ci := 0) rfl wt_303 wt_224 wt_223 wt_4 wt_225 ⟨by decide, by decide, by decide, by decide⟩ ⟨by decide, by decide⟩) ah_t0)) ?_
  refine ah_cons (as_if_ne C dX11_see_9 (by decide)) ?_
  refine ah_cons (as_bipush C dX11_see_12 (by decide)) ?_
  refine ah_cons (as_iret C rfl dX11_see_14) ?_
  refine ah_cons (as_iload_n C dX11_see_15 rfl) ?_
  refine ah_cons (as_iconst C dX11_see_16 (by decide)) ?_
  refine ah_cons (as_icmp_eq C dX11_see_17 (by decide)) ?_
  refine ah_cons (as_iload_n C dX11_see_20 rfl) ?_
  refine ah_cons (as_if_lt C dX11_see_21 (by decide)) ?_
  refine ah_cons (as_iload_n C dX11_see_24 rfl) ?_
  refine ah_cons (as_bipush C dX11_see_25 (by decide)) ?_
  refine ah_cons (as_icmp_le C dX11_see_27 (by decide)) ?_
  refine ah_cons (as_bipush C dX11_see_30 (by decide)) ?_
  refine ah_cons (as_iret C rfl dX11_see_32) ?_
  refine ah_cons (as_aload_n C dX11_see_33 rfl) ?_
  refine ah_cons (as_gfr C dX11_see_34 fgX11_19) ?_
  refine ah_cons (as_gfr C dX11_see_37 fgX11_113) ?_
  refine ah_cons (as_iload_n C dX11_see_40 rfl) ?_
  refine ah_cons (as_iload_n C dX11_see_41 rfl) ?_
  refine ah_cons (as_iload_n C dX11_see_42 rfl) ?_
  refine ah_cons (as_vI (ah_t1 (ah_okV (n := 3) C (mX7_note hW f) dX11_see_43 (ci := 7) rfl wt_381 wt_383 wt_382 wt_128 wt_384 ⟨by decide, by decide, by decide, by decide⟩ ⟨by decide, by decide⟩) ah_t0)) ?_
  refine ah_cons (as_if_eq C dX11_see_46 (by decide)) ?_
  refine ah_cons (as_aload_n C dX11_see_49 rfl) ?_
  refine ah_cons (as_gfr C dX11_see_50 fgX11_19) ?_
  refine ah_cons (as_gfr C dX11_see_53 fgX11_113) ?_
  refine ah_cons (as_gfi C dX11_see_56 fgX11_212) ?_
  refine ah_cons (as_goto C dX11_see_59 (by decide)) ?_
  refine ah_cons (as_bipush C dX11_see_62 (by decide)) ?_
  refine ah_cons (as_iret C rfl dX11_see_64) ?_
  exact ah_nil
def kX11_forget (f : Nat) : List (Nat × ah_S) := [
  (0, ah_ald 0 1),
  (1, ah_gfr [11] 1 4),
  (4, ah_gfr [0] 1 7),
  (7, ah_gfi [7] 0 10),
  (10, ah_ist 1 11),
  (11, ah_ald 0 12),
  (12, ah_gfr [11] 1 15),
  (15, ah_gfr [0] 1 18),
  (18, ah_vV [(7, aX7_clear f)] 1 21),
  (21, ah_ild 1 22),
  (22, ah_iret)]
def aX11_forget (f : Nat) : ah_F := ah_fun (kX11_forget f) 2 f
set_option maxRecDepth 100000 in
set_option maxHeartbeats 4000000 in
theorem mX11_forget {l : Launch} {s0 : State} {D : va_G} {tc : Nat → ClassId} {ad : Nat → Nat} {A : Nat → Prop} (hW : ah_W0 s0 ad A) (f : Nat) : ah_Met l s0 D tc ad A yX11_forget cX11_forget 2 (some .int) 1 20 (aX11_forget f) := by
  refine ah_met hW.1 (by decide) (fun p e s m args below meth c res C => ?_)
  refine ah_cons (as_aload_n C dX11_forget_0 rfl) ?_
  refine ah_cons (as_gfr C dX11_forget_1 fgX11_19) ?_
  refine ah_cons (as_gfr C dX11_forget_4 fgX11_113) ?_
  refine ah_cons (as_gfi C dX11_forget_7 fgX11_212) ?_
  refine ah_cons (as_istore_n C dX11_forget_10 rfl (by decide)) ?_
  refine ah_cons (as_aload_n C dX11_forget_11 rfl) ?_
  refine ah_cons (as_gfr C dX11_forget_12 fgX11_19) ?_
  refine ah_cons (as_gfr C dX11_forget_15 fgX11_113) ?_
  refine ah_cons (as_vV (ah_t1 (ah_okV (n := 0) C (mX7_clear hW f) dX11_forget_18 (ci := 7) rfl wt_386 wt_388 wt_387 wt_128 wt_389 ⟨by decide, by decide, by decide, by decide⟩ ⟨by decide, by decide⟩) ah_t0)) ?_
  refine ah_cons (as_iload_n C dX11_forget_21 rfl) ?_
  refine ah_cons (as_iret C rfl dX11_forget_22) ?_
  exact ah_nil
def kX11_winters (f : Nat) : List (Nat × ah_S) := [
  (0, ah_ild 1 1),
  (1, ah_push (.int (1)) 2),
  (2, ah_clt 24 5),
  (5, ah_ild 1 6),
  (6, ah_push (.int (60)) 8),
  (8, ah_cgt 24 11),
  (11, ah_ild 2 12),
  (12, ah_zlt 24 15),
  (15, ah_ild 3 16),
  (16, ah_zlt 24 19),
  (19, ah_ild 3 20),
  (20, ah_push (.int (2)) 21),
  (21, ah_cgt 24 27),
  (24, ah_push (.int (-102)) 26),
  (26, ah_iret),
  (27, ah_ald 0 28),
  (28, ah_gfr [11] 1 31),
  (31, ah_vI [(0, aX0_isMissing f)] 1 34),
  (34, ah_zeq 40 37),
  (37, ah_push (.int (-103)) 39),
  (39, ah_iret),
  (40, ah_ald 0 41),
  (41, ah_gfr [11] 4 44),
  (44, ah_ald 0 45),
  (45, ah_gfr [11] 1 48),
  (48, ah_ild 1 49),
  (49, ah_ild 2 50),
  (50, ah_vV [(10, aX10_pass f)] 4 53),
  (53, ah_ild 3 54),
  (54, ah_sw [(0, 80), (1, 88)] 96),
  (80, ah_ald 0 81),
  (81, ah_gfr [11] 4 84),
  (84, ah_gfi [10] 0 87),
  (87, ah_iret),
  (88, ah_ald 0 89),
  (89, ah_gfr [11] 4 92),
  (92, ah_gfi [10] 1 95),
  (95, ah_iret),
  (96, ah_ald 0 97),
  (97, ah_gfr [11] 4 100),
  (100, ah_gfl [10] 2 103),
  (103, ah_l2i 104),
  (104, ah_iret)]
def aX11_winters (f : Nat) : ah_F := ah_fun (kX11_winters f) 4 f
set_option maxRecDepth 100000 in
set_option maxHeartbeats 4000000 in
theorem mX11_winters {l : Launch} {s0 : State} {D : va_G} {tc : Nat → ClassId} {ad : Nat → Nat} {A : Nat → Prop} (hW : ah_W0 s0 ad A) (f : Nat) : ah_Met l s0 D tc ad A yX11_winters cX11_winters 4 (some .int) 5 116 (aX11_winters f) := by
  refine ah_met hW.1 (by decide) (fun p e s m args below meth c res C => ?_)
  refine ah_cons (as_iload_n C dX11_winters_0 rfl) ?_
  refine ah_cons (as_iconst C dX11_winters_1 (by decide)) ?_
  refine ah_cons (as_icmp_lt C dX11_winters_2 (by decide)) ?_
  refine ah_cons (as_iload_n C dX11_winters_5 rfl) ?_
  refine ah_cons (as_bipush C dX11_winters_6 (by decide)) ?_
  refine ah_cons (as_icmp_gt C dX11_winters_8 (by decide)) ?_
  refine ah_cons (as_iload_n C dX11_winters_11 rfl) ?_
  refine ah_cons (as_if_lt C dX11_winters_12 (by decide)) ?_
  refine ah_cons (as_iload_n C dX11_winters_15 rfl) ?_
  refine ah_cons (as_if_lt C dX11_winters_16 (by decide)) ?_
  refine ah_cons (as_iload_n C dX11_winters_19 rfl) ?_
  refine ah_cons (as_iconst C dX11_winters_20 (by decide)) ?_
  refine ah_cons (as_icmp_le C dX11_winters_21 (by decide)) ?_
  refine ah_cons (as_bipush C dX11_winters_24 (by decide)) ?_
  refine ah_cons (as_iret C rfl dX11_winters_26) ?_
  refine ah_cons (as_aload_n C dX11_winters_27 rfl) ?_
  refine ah_cons (as_gfr C dX11_winters_28 fgX11_19) ?_
  refine ah_cons (as_vI (ah_t1 (ah_okV (n := 0) C (mX0_isMissing hW f) dX11_winters_31 (ci := 0) rfl wt_325 wt_327 wt_326 wt_4 wt_328 ⟨by decide, by decide, by decide, by decide⟩ ⟨by decide, by decide⟩) ah_t0)) ?_
  refine ah_cons (as_if_eq C dX11_winters_34 (by decide)) ?_
  refine ah_cons (as_bipush C dX11_winters_37 (by decide)) ?_
  refine ah_cons (as_iret C rfl dX11_winters_39) ?_
  refine ah_cons (as_aload_n C dX11_winters_40 rfl) ?_
  refine ah_cons (as_gfr C dX11_winters_41 fgX11_40) ?_
  refine ah_cons (as_aload_n C dX11_winters_44 rfl) ?_
  refine ah_cons (as_gfr C dX11_winters_45 fgX11_19) ?_
  refine ah_cons (as_iload_n C dX11_winters_48 rfl) ?_
  refine ah_cons (as_iload_n C dX11_winters_49 rfl) ?_
  refine ah_cons (as_vV (ah_t1 (ah_okV (n := 3) C (mX10_pass hW f) dX11_winters_50 (ci := 10) rfl wt_391 wt_393 wt_392 wt_235 wt_394 ⟨by decide, by decide, by decide, by decide⟩ ⟨by decide, by decide⟩) ah_t0)) ?_
  refine ah_cons (as_iload_n C dX11_winters_53 rfl) ?_
  refine ah_cons (as_lsw C dX11_winters_54 (by decide) (by decide) (by decide)) ?_
  refine ah_cons (as_aload_n C dX11_winters_80 rfl) ?_
  refine ah_cons (as_gfr C dX11_winters_81 fgX11_40) ?_
  refine ah_cons (as_gfi C dX11_winters_84 fgX11_217) ?_
  refine ah_cons (as_iret C rfl dX11_winters_87) ?_
  refine ah_cons (as_aload_n C dX11_winters_88 rfl) ?_
  refine ah_cons (as_gfr C dX11_winters_89 fgX11_40) ?_
  refine ah_cons (as_gfi C dX11_winters_92 fgX11_219) ?_
  refine ah_cons (as_iret C rfl dX11_winters_95) ?_
  refine ah_cons (as_aload_n C dX11_winters_96 rfl) ?_
  refine ah_cons (as_gfr C dX11_winters_97 fgX11_40) ?_
  refine ah_cons (as_gfl C dX11_winters_100 fgX11_222) ?_
  refine ah_cons (as_l2i C dX11_winters_103) ?_
  refine ah_cons (as_iret C rfl dX11_winters_104) ?_
  exact ah_nil
def kX11_image (f : Nat) : List (Nat × ah_S) := [
  (0, ah_ald 0 1),
  (1, ah_gfr [11] 1 4),
  (4, ah_vI [(0, aX0_isMissing f)] 1 7),
  (7, ah_zeq 13 10),
  (10, ah_push (.int (-103)) 12),
  (12, ah_iret),
  (13, ah_ald 0 14),
  (14, ah_gfr [11] 2 17),
  (17, ah_ald 0 18),
  (18, ah_gfr [11] 1 21),
  (21, ah_vV [(2, aX2_keep f)] 2 24),
  (24, ah_ald 0 25),
  (25, ah_gfr [11] 1 28),
  (28, ah_gfi [0] 3 31),
  (31, ah_iret)]
def aX11_image (f : Nat) : ah_F := ah_fun (kX11_image f) 1 f
set_option maxRecDepth 100000 in
set_option maxHeartbeats 4000000 in
theorem mX11_image {l : Launch} {s0 : State} {D : va_G} {tc : Nat → ClassId} {ad : Nat → Nat} {A : Nat → Prop} (hW : ah_W0 s0 ad A) (f : Nat) : ah_Met l s0 D tc ad A yX11_image cX11_image 1 (some .int) 2 44 (aX11_image f) := by
  refine ah_met hW.1 (by decide) (fun p e s m args below meth c res C => ?_)
  refine ah_cons (as_aload_n C dX11_image_0 rfl) ?_
  refine ah_cons (as_gfr C dX11_image_1 fgX11_19) ?_
  refine ah_cons (as_vI (ah_t1 (ah_okV (n := 0) C (mX0_isMissing hW f) dX11_image_4 (ci := 0) rfl wt_325 wt_327 wt_326 wt_4 wt_328 ⟨by decide, by decide, by decide, by decide⟩ ⟨by decide, by decide⟩) ah_t0)) ?_
  refine ah_cons (as_if_eq C dX11_image_7 (by decide)) ?_
  refine ah_cons (as_bipush C dX11_image_10 (by decide)) ?_
  refine ah_cons (as_iret C rfl dX11_image_12) ?_
  refine ah_cons (as_aload_n C dX11_image_13 rfl) ?_
  refine ah_cons (as_gfr C dX11_image_14 fgX11_26) ?_
  refine ah_cons (as_aload_n C dX11_image_17 rfl) ?_
  refine ah_cons (as_gfr C dX11_image_18 fgX11_19) ?_
  refine ah_cons (as_vV (ah_t1 (ah_okV (n := 1) C (mX2_keep hW f) dX11_image_21 (ci := 2) rfl wt_399 wt_401 wt_400 wt_402 wt_403 ⟨by decide, by decide, by decide, by decide⟩ ⟨by decide, by decide⟩) ah_t0)) ?_
  refine ah_cons (as_aload_n C dX11_image_24 rfl) ?_
  refine ah_cons (as_gfr C dX11_image_25 fgX11_19) ?_
  refine ah_cons (as_gfi C dX11_image_28 fgX11_230) ?_
  refine ah_cons (as_iret C rfl dX11_image_31) ?_
  exact ah_nil
def kX11_restore (f : Nat) : List (Nat × ah_S) := [
  (0, ah_ald 0 1),
  (1, ah_gfr [11] 2 4),
  (4, ah_gfi [2] 0 7),
  (7, ah_zeq 10 13),
  (10, ah_push (.int (-103)) 12),
  (12, ah_iret),
  (13, ah_ald 0 14),
  (14, ah_gfr [11] 2 17),
  (17, ah_ald 0 18),
  (18, ah_gfr [11] 1 21),
  (21, ah_vV [(2, aX2_giveBack f)] 2 24),
  (24, ah_ald 0 25),
  (25, ah_gfr [11] 1 28),
  (28, ah_gfi [0] 3 31),
  (31, ah_iret)]
def aX11_restore (f : Nat) : ah_F := ah_fun (kX11_restore f) 1 f
set_option maxRecDepth 100000 in
set_option maxHeartbeats 4000000 in
theorem mX11_restore {l : Launch} {s0 : State} {D : va_G} {tc : Nat → ClassId} {ad : Nat → Nat} {A : Nat → Prop} (hW : ah_W0 s0 ad A) (f : Nat) : ah_Met l s0 D tc ad A yX11_restore cX11_restore 1 (some .int) 2 44 (aX11_restore f) := by
  refine ah_met hW.1 (by decide) (fun p e s m args below meth c res C => ?_)
  refine ah_cons (as_aload_n C dX11_restore_0 rfl) ?_
  refine ah_cons (as_gfr C dX11_restore_1 fgX11_26) ?_
  refine ah_cons (as_gfi C dX11_restore_4 fgX11_70) ?_
  refine ah_cons (as_if_ne C dX11_restore_7 (by decide)) ?_
  refine ah_cons (as_bipush C dX11_restore_10 (by decide)) ?_
  refine ah_cons (as_iret C rfl dX11_restore_12) ?_
  refine ah_cons (as_aload_n C dX11_restore_13 rfl) ?_
  refine ah_cons (as_gfr C dX11_restore_14 fgX11_26) ?_
  refine ah_cons (as_aload_n C dX11_restore_17 rfl) ?_
  refine ah_cons (as_gfr C dX11_restore_18 fgX11_19) ?_
  refine ah_cons (as_vV (ah_t1 (ah_okV (n := 1) C (mX2_giveBack hW f) dX11_restore_21 (ci := 2) rfl wt_406 wt_408 wt_407 wt_402 wt_409 ⟨by decide, by decide, by decide, by decide⟩ ⟨by decide, by decide⟩) ah_t0)) ?_
  refine ah_cons (as_aload_n C dX11_restore_24 rfl) ?_
  refine ah_cons (as_gfr C dX11_restore_25 fgX11_19) ?_
  refine ah_cons (as_gfi C dX11_restore_28 fgX11_230) ?_
  refine ah_cons (as_iret C rfl dX11_restore_31) ?_
  exact ah_nil
def kX11_count (f : Nat) : List (Nat × ah_S) := [
  (0, ah_ild 1 1),
  (1, ah_sw [(0, 68), (1, 76), (2, 84), (3, 92), (4, 100), (5, 109), (6, 118), (7, 126), (8, 134), (9, 142), (10, 150), (11, 161), (12, 169)] 174),
  (68, ah_ald 0 69),
  (69, ah_gfr [11] 1 72),
  (72, ah_gfi [0] 2 75),
  (75, ah_iret),
  (76, ah_ald 0 77),
  (77, ah_gfr [11] 1 80),
  (80, ah_vI [(0, aX0_pairs f)] 1 83),
  (83, ah_iret),
  (84, ah_ald 0 85),
  (85, ah_gfr [11] 1 88),
  (88, ah_vI [(0, aX0_likenessOfPairs f)] 1 91),
  (91, ah_iret),
  (92, ah_ald 0 93),
  (93, ah_gfr [11] 1 96),
  (96, ah_vI [(0, aX0_matches f)] 1 99),
  (99, ah_iret),
  (100, ah_ald 0 101),
  (101, ah_gfr [11] 1 104),
  (104, ah_push (.int (0)) 105),
  (105, ah_vI [(0, aX0_alone f)] 2 108),
  (108, ah_iret),
  (109, ah_ald 0 110),
  (110, ah_gfr [11] 1 113),
  (113, ah_push (.int (1)) 114),
  (114, ah_vI [(0, aX0_alone f)] 2 117),
  (117, ah_iret),
  (118, ah_ald 0 119),
  (119, ah_gfr [11] 1 122),
  (122, ah_gfi [0] 3 125),
  (125, ah_iret),
  (126, ah_ald 0 127),
  (127, ah_gfr [11] 1 130),
  (130, ah_gfi [0] 4 133),
  (133, ah_iret),
  (134, ah_ald 0 135),
  (135, ah_gfr [11] 1 138),
  (138, ah_gfi [0] 5 141),
  (141, ah_iret),
  (142, ah_ald 0 143),
  (143, ah_gfr [11] 1 146),
  (146, ah_gfi [0] 6 149),
  (149, ah_iret),
  (150, ah_ald 0 151),
  (151, ah_gfr [11] 1 154),
  (154, ah_gfr [0] 1 157),
  (157, ah_gfi [7] 0 160),
  (160, ah_iret),
  (161, ah_ald 0 162),
  (162, ah_gfr [11] 0 165),
  (165, ah_gfi [4] 1 168),
  (168, ah_iret),
  (169, ah_ald 0 170),
  (170, ah_gfi [11] 5 173),
  (173, ah_iret),
  (174, ah_push (.int (-102)) 176),
  (176, ah_iret)]
def aX11_count (f : Nat) : ah_F := ah_fun (kX11_count f) 2 f
set_option maxRecDepth 100000 in
set_option maxHeartbeats 4000000 in
theorem mX11_count {l : Launch} {s0 : State} {D : va_G} {tc : Nat → ClassId} {ad : Nat → Nat} {A : Nat → Prop} (hW : ah_W0 s0 ad A) (f : Nat) : ah_Met l s0 D tc ad A yX11_count cX11_count 2 (some .int) 6 133 (aX11_count f) := by
  refine ah_met hW.1 (by decide) (fun p e s m args below meth c res C => ?_)
  refine ah_cons (as_iload_n C dX11_count_0 rfl) ?_
  refine ah_cons (as_tsw C dX11_count_1 (by decide) (by decide) (by decide)) ?_
  refine ah_cons (as_aload_n C dX11_count_68 rfl) ?_
  refine ah_cons (as_gfr C dX11_count_69 fgX11_19) ?_
  refine ah_cons (as_gfi C dX11_count_72 fgX11_74) ?_
  refine ah_cons (as_iret C rfl dX11_count_75) ?_
  refine ah_cons (as_aload_n C dX11_count_76 rfl) ?_
  refine ah_cons (as_gfr C dX11_count_77 fgX11_19) ?_
  refine ah_cons (as_vI (ah_t1 (ah_okV (n := 0) C (mX0_pairs hW f) dX11_count_80 (ci := 0) rfl wt_334 wt_336 wt_335 wt_4 wt_337 ⟨by decide, by decide, by decide, by decide⟩ ⟨by decide, by decide⟩) ah_t0)) ?_
  refine ah_cons (as_iret C rfl dX11_count_83) ?_
  refine ah_cons (as_aload_n C dX11_count_84 rfl) ?_
  refine ah_cons (as_gfr C dX11_count_85 fgX11_19) ?_
  refine ah_cons (as_vI (ah_t1 (ah_okV (n := 0) C (mX0_likenessOfPairs hW f) dX11_count_88 (ci := 0) rfl wt_411 wt_413 wt_412 wt_4 wt_414 ⟨by decide, by decide, by decide, by decide⟩ ⟨by decide, by decide⟩) ah_t0)) ?_
  refine ah_cons (as_iret C rfl dX11_count_91) ?_
  refine ah_cons (as_aload_n C dX11_count_92 rfl) ?_
  refine ah_cons (as_gfr C dX11_count_93 fgX11_19) ?_
  refine ah_cons (as_vI (ah_t1 (ah_okV (n := 0) C (mX0_matches hW f) dX11_count_96 (ci := 0) rfl wt_415 wt_417 wt_416 wt_4 wt_418 ⟨by decide, by decide, by decide, by decide⟩ ⟨by decide, by decide⟩) ah_t0)) ?_
  refine ah_cons (as_iret C rfl dX11_count_99) ?_
  refine ah_cons (as_aload_n C dX11_count_100 rfl) ?_
  refine ah_cons (as_gfr C dX11_count_101 fgX11_19) ?_
  refine ah_cons (as_iconst C dX11_count_104 (by decide)) ?_
  refine ah_cons (as_vI (ah_t1 (ah_okV (n := 1) C (mX0_alone hW f) dX11_count_105 (ci := 0) rfl wt_419 wt_109 wt_108 wt_4 wt_110 ⟨by decide, by decide, by decide, by decide⟩ ⟨by decide, by decide⟩) ah_t0)) ?_
  refine ah_cons (as_iret C rfl dX11_count_108) ?_
  refine ah_cons (as_aload_n C dX11_count_109 rfl) ?_
  refine ah_cons (as_gfr C dX11_count_110 fgX11_19) ?_
  refine ah_cons (as_iconst C dX11_count_113 (by decide)) ?_
  refine ah_cons (as_vI (ah_t1 (ah_okV (n := 1) C (mX0_alone hW f) dX11_count_114 (ci := 0) rfl wt_419 wt_109 wt_108 wt_4 wt_110 ⟨by decide, by decide, by decide, by decide⟩ ⟨by decide, by decide⟩) ah_t0)) ?_
  refine ah_cons (as_iret C rfl dX11_count_117) ?_
  refine ah_cons (as_aload_n C dX11_count_118 rfl) ?_
  refine ah_cons (as_gfr C dX11_count_119 fgX11_19) ?_
  refine ah_cons (as_gfi C dX11_count_122 fgX11_230) ?_
  refine ah_cons (as_iret C rfl dX11_count_125) ?_
  refine ah_cons (as_aload_n C dX11_count_126 rfl) ?_
  refine ah_cons (as_gfr C dX11_count_127 fgX11_19) ?_
  refine ah_cons (as_gfi C dX11_count_130 fgX11_158) ?_
  refine ah_cons (as_iret C rfl dX11_count_133) ?_
  refine ah_cons (as_aload_n C dX11_count_134 rfl) ?_
  refine ah_cons (as_gfr C dX11_count_135 fgX11_19) ?_
  refine ah_cons (as_gfi C dX11_count_138 fgX11_165) ?_
  refine ah_cons (as_iret C rfl dX11_count_141) ?_
  refine ah_cons (as_aload_n C dX11_count_142 rfl) ?_
  refine ah_cons (as_gfr C dX11_count_143 fgX11_19) ?_
  refine ah_cons (as_gfi C dX11_count_146 fgX11_174) ?_
  refine ah_cons (as_iret C rfl dX11_count_149) ?_
  refine ah_cons (as_aload_n C dX11_count_150 rfl) ?_
  refine ah_cons (as_gfr C dX11_count_151 fgX11_19) ?_
  refine ah_cons (as_gfr C dX11_count_154 fgX11_113) ?_
  refine ah_cons (as_gfi C dX11_count_157 fgX11_212) ?_
  refine ah_cons (as_iret C rfl dX11_count_160) ?_
  refine ah_cons (as_aload_n C dX11_count_161 rfl) ?_
  refine ah_cons (as_gfr C dX11_count_162 fgX11_10) ?_
  refine ah_cons (as_gfi C dX11_count_165 fgX11_52) ?_
  refine ah_cons (as_iret C rfl dX11_count_168) ?_
  refine ah_cons (as_aload_n C dX11_count_169 rfl) ?_
  refine ah_cons (as_gfi C dX11_count_170 fgX11_44) ?_
  refine ah_cons (as_iret C rfl dX11_count_173) ?_
  refine ah_cons (as_bipush C dX11_count_174 (by decide)) ?_
  refine ah_cons (as_iret C rfl dX11_count_176) ?_
  exact ah_nil
def kX11_with (f : Nat) : List (Nat × ah_S) := [
  (0, ah_push (.long (31)) 3),
  (3, ah_lld 0 4),
  (4, ah_lbin (fun x y => x * y) 5),
  (5, ah_lld 2 6),
  (6, ah_lbin (fun x y => x + y) 7),
  (7, ah_lret)]
def aX11_with (f : Nat) : ah_F := ah_fun (kX11_with f) 4 f
set_option maxRecDepth 100000 in
set_option maxHeartbeats 4000000 in
theorem mX11_with {l : Launch} {s0 : State} {D : va_G} {tc : Nat → ClassId} {ad : Nat → Nat} {A : Nat → Prop} (hW : ah_W0 s0 ad A) (f : Nat) : ah_Met l s0 D tc ad A yX11_with cX11_with 4 (some .long) 0 0 (aX11_with f) := by
  refine ah_met hW.1 (by decide) (fun p e s m args below meth c res C => ?_)
  refine ah_cons (as_ldc2 C dX11_with_0 wt_421) ?_
  refine ah_cons (as_lload_n C dX11_with_3 rfl) ?_
  refine ah_cons (as_lmul C dX11_with_4) ?_
  refine ah_cons (as_lload_n C dX11_with_5 rfl) ?_
  refine ah_cons (as_ladd C dX11_with_6) ?_
  refine ah_cons (as_lret C rfl dX11_with_7) ?_
  exact ah_nil
def kX11_withRows (f : Nat) : List (Nat × ah_S) := [
  (37, ah_ild 5 39),
  (0, ah_ald 0 1),
  (1, ah_gfr [11] 3 4),
  (4, ah_ald 0 5),
  (5, ah_gfr [11] 1 8),
  (8, ah_push (.int (0)) 9),
  (9, ah_push (.int (30)) 11),
  (11, ah_vV [(6, aX6_seek f)] 4 14),
  (14, ah_lld 1 15),
  (15, ah_ald 0 16),
  (16, ah_push (.int (0)) 17),
  (17, ah_vI [(11, aX11_mostTold f)] 2 20),
  (20, ah_i2l 21),
  (21, ah_sL (aX11_with f) 2 24),
  (24, ah_ald 0 25),
  (25, ah_push (.int (1)) 26),
  (26, ah_vI [(11, aX11_mostTold f)] 2 29),
  (29, ah_i2l 30),
  (30, ah_sL (aX11_with f) 2 33),
  (33, ah_lst 3 34),
  (34, ah_push (.int (0)) 35),
  (35, ah_lim 37 [0, 3, 5] (ah_ist 5 37)),
  (39, ah_push (.int (7)) 41),
  (41, ah_clt 44 65),
  (44, ah_lld 3 45),
  (45, ah_ald 0 46),
  (46, ah_push (.int (10)) 48),
  (48, ah_ild 5 50),
  (50, ah_bin (fun x y => x + y) 51),
  (51, ah_vI [(11, aX11_mostTold f)] 2 54),
  (54, ah_i2l 55),
  (55, ah_sL (aX11_with f) 2 58),
  (58, ah_lst 3 59),
  (59, ah_inc 5 (1) 62),
  (62, ah_lim 37 [0, 3, 5] (ah_goto 37)),
  (65, ah_ald 0 66),
  (66, ah_gfr [11] 3 69),
  (69, ah_ald 0 70),
  (70, ah_gfr [11] 1 73),
  (73, ah_push (.int (1)) 74),
  (74, ah_push (.int (4)) 75),
  (75, ah_vV [(6, aX6_seek f)] 4 78),
  (78, ah_lld 3 79),
  (79, ah_ald 0 80),
  (80, ah_push (.int (0)) 81),
  (81, ah_vI [(11, aX11_bestTold f)] 2 84),
  (84, ah_i2l 85),
  (85, ah_sL (aX11_with f) 2 88),
  (88, ah_ald 0 89),
  (89, ah_push (.int (1)) 90),
  (90, ah_vI [(11, aX11_bestTold f)] 2 93),
  (93, ah_i2l 94),
  (94, ah_sL (aX11_with f) 2 97),
  (97, ah_lst 3 98),
  (98, ah_ald 0 99),
  (99, ah_gfr [11] 3 102),
  (102, ah_ald 0 103),
  (103, ah_gfr [11] 1 106),
  (106, ah_push (.int (2)) 107),
  (107, ah_push (.int (30)) 109),
  (109, ah_vV [(6, aX6_seek f)] 4 112),
  (112, ah_lld 3 113),
  (113, ah_ald 0 114),
  (114, ah_push (.int (0)) 115),
  (115, ah_vI [(11, aX11_stableTold f)] 2 118),
  (118, ah_i2l 119),
  (119, ah_sL (aX11_with f) 2 122),
  (122, ah_ald 0 123),
  (123, ah_push (.int (1)) 124),
  (124, ah_vI [(11, aX11_stableTold f)] 2 127),
  (127, ah_i2l 128),
  (128, ah_sL (aX11_with f) 2 131),
  (131, ah_lret)]
def aX11_withRows (f : Nat) : ah_F := ah_fun (kX11_withRows f) 6 f
set_option maxRecDepth 100000 in
set_option maxHeartbeats 4000000 in
theorem mX11_withRows {l : Launch} {s0 : State} {D : va_G} {tc : Nat → ClassId} {ad : Nat → Nat} {A : Nat → Prop} (hW : ah_W0 s0 ad A) (f : Nat) : ah_Met l s0 D tc ad A yX11_withRows cX11_withRows 6 (some .long) 17 445 (aX11_withRows f) := by
  refine ah_met hW.1 (by decide) (fun p e s m args below meth c res C => ?_)
  refine ah_cons (as_iload C dX11_withRows_37) ?_
  refine ah_cons (as_aload_n C dX11_withRows_0 rfl) ?_
  refine ah_cons (as_gfr C dX11_withRows_1 fgX11_33) ?_
  refine ah_cons (as_aload_n C dX11_withRows_4 rfl) ?_
  refine ah_cons (as_gfr C dX11_withRows_5 fgX11_19) ?_
  refine ah_cons (as_iconst C dX11_withRows_8 (by decide)) ?_
  refine ah_cons (as_bipush C dX11_withRows_9 (by decide)) ?_
  refine ah_cons (as_vV (ah_t1 (ah_okV (n := 3) C (mX6_seek hW f) dX11_withRows_11 (ci := 6) rfl wt_348 wt_350 wt_349 wt_163 wt_351 ⟨by decide, by decide, by decide, by decide⟩ ⟨by decide, by decide⟩) ah_t0)) ?_
  refine ah_cons (as_lload_n C dX11_withRows_14 rfl) ?_
  refine ah_cons (as_aload_n C dX11_withRows_15 rfl) ?_
  refine ah_cons (as_iconst C dX11_withRows_16 (by decide)) ?_
  refine ah_cons (as_vI (ah_t1 (ah_okV (n := 1) C (mX11_mostTold hW f) dX11_withRows_17 (ci := 11) rfl wt_352 wt_354 wt_353 wt_301 wt_355 ⟨by decide, by decide, by decide, by decide⟩ ⟨by decide, by decide⟩) ah_t0)) ?_
  refine ah_cons (as_i2l C dX11_withRows_20) ?_
  refine ah_cons (as_sL C (mX11_with hW f) dX11_withRows_21 wt_422 wt_423 wt_301 wt_424 ⟨by decide, by decide, by decide⟩ ⟨by decide, by decide⟩) ?_
  refine ah_cons (as_aload_n C dX11_withRows_24 rfl) ?_
  refine ah_cons (as_iconst C dX11_withRows_25 (by decide)) ?_
  refine ah_cons (as_vI (ah_t1 (ah_okV (n := 1) C (mX11_mostTold hW f) dX11_withRows_26 (ci := 11) rfl wt_352 wt_354 wt_353 wt_301 wt_355 ⟨by decide, by decide, by decide, by decide⟩ ⟨by decide, by decide⟩) ah_t0)) ?_
  refine ah_cons (as_i2l C dX11_withRows_29) ?_
  refine ah_cons (as_sL C (mX11_with hW f) dX11_withRows_30 wt_422 wt_423 wt_301 wt_424 ⟨by decide, by decide, by decide⟩ ⟨by decide, by decide⟩) ?_
  refine ah_cons (as_lstore_n C dX11_withRows_33 rfl (by decide)) ?_
  refine ah_cons (as_iconst C dX11_withRows_34 (by decide)) ?_
  refine ah_cons (as_lim (as_istore C dX11_withRows_35 (by decide))) ?_
  refine ah_cons (as_bipush C dX11_withRows_39 (by decide)) ?_
  refine ah_cons (as_icmp_ge C dX11_withRows_41 (by decide)) ?_
  refine ah_cons (as_lload_n C dX11_withRows_44 rfl) ?_
  refine ah_cons (as_aload_n C dX11_withRows_45 rfl) ?_
  refine ah_cons (as_bipush C dX11_withRows_46 (by decide)) ?_
  refine ah_cons (as_iload C dX11_withRows_48) ?_
  refine ah_cons (as_iadd C dX11_withRows_50) ?_
  refine ah_cons (as_vI (ah_t1 (ah_okV (n := 1) C (mX11_mostTold hW f) dX11_withRows_51 (ci := 11) rfl wt_352 wt_354 wt_353 wt_301 wt_355 ⟨by decide, by decide, by decide, by decide⟩ ⟨by decide, by decide⟩) ah_t0)) ?_
  refine ah_cons (as_i2l C dX11_withRows_54) ?_
  refine ah_cons (as_sL C (mX11_with hW f) dX11_withRows_55 wt_422 wt_423 wt_301 wt_424 ⟨by decide, by decide, by decide⟩ ⟨by decide, by decide⟩) ?_
  refine ah_cons (as_lstore_n C dX11_withRows_58 rfl (by decide)) ?_
  refine ah_cons (as_iinc C dX11_withRows_59 (by decide) (by decide)) ?_
  refine ah_cons (as_lim (as_goto C dX11_withRows_62 (by decide))) ?_
  refine ah_cons (as_aload_n C dX11_withRows_65 rfl) ?_
  refine ah_cons (as_gfr C dX11_withRows_66 fgX11_33) ?_
  refine ah_cons (as_aload_n C dX11_withRows_69 rfl) ?_
  refine ah_cons (as_gfr C dX11_withRows_70 fgX11_19) ?_
  refine ah_cons (as_iconst C dX11_withRows_73 (by decide)) ?_
  refine ah_cons (as_iconst C dX11_withRows_74 (by decide)) ?_
  refine ah_cons (as_vV (ah_t1 (ah_okV (n := 3) C (mX6_seek hW f) dX11_withRows_75 (ci := 6) rfl wt_348 wt_350 wt_349 wt_163 wt_351 ⟨by decide, by decide, by decide, by decide⟩ ⟨by decide, by decide⟩) ah_t0)) ?_
  refine ah_cons (as_lload_n C dX11_withRows_78 rfl) ?_
  refine ah_cons (as_aload_n C dX11_withRows_79 rfl) ?_
  refine ah_cons (as_iconst C dX11_withRows_80 (by decide)) ?_
  refine ah_cons (as_vI (ah_t1 (ah_okV (n := 1) C (mX11_bestTold hW f) dX11_withRows_81 (ci := 11) rfl wt_357 wt_359 wt_358 wt_301 wt_360 ⟨by decide, by decide, by decide, by decide⟩ ⟨by decide, by decide⟩) ah_t0)) ?_
  refine ah_cons (as_i2l C dX11_withRows_84) ?_
  refine ah_cons (as_sL C (mX11_with hW f) dX11_withRows_85 wt_422 wt_423 wt_301 wt_424 ⟨by decide, by decide, by decide⟩ ⟨by decide, by decide⟩) ?_
  refine ah_cons (as_aload_n C dX11_withRows_88 rfl) ?_
  refine ah_cons (as_iconst C dX11_withRows_89 (by decide)) ?_
  refine ah_cons (as_vI (ah_t1 (ah_okV (n := 1) C (mX11_bestTold hW f) dX11_withRows_90 (ci := 11) rfl wt_357 wt_359 wt_358 wt_301 wt_360 ⟨by decide, by decide, by decide, by decide⟩ ⟨by decide, by decide⟩) ah_t0)) ?_
  refine ah_cons (as_i2l C dX11_withRows_93) ?_
  refine ah_cons (as_sL C (mX11_with hW f) dX11_withRows_94 wt_422 wt_423 wt_301 wt_424 ⟨by decide, by decide, by decide⟩ ⟨by decide, by decide⟩) ?_
  refine ah_cons (as_lstore_n C dX11_withRows_97 rfl (by decide)) ?_
  refine ah_cons (as_aload_n C dX11_withRows_98 rfl) ?_
  refine ah_cons (as_gfr C dX11_withRows_99 fgX11_33) ?_
  refine ah_cons (as_aload_n C dX11_withRows_102 rfl) ?_
  refine ah_cons (as_gfr C dX11_withRows_103 fgX11_19) ?_
  refine ah_cons (as_iconst C dX11_withRows_106 (by decide)) ?_
  refine ah_cons (as_bipush C dX11_withRows_107 (by decide)) ?_
  refine ah_cons (as_vV (ah_t1 (ah_okV (n := 3) C (mX6_seek hW f) dX11_withRows_109 (ci := 6) rfl wt_348 wt_350 wt_349 wt_163 wt_351 ⟨by decide, by decide, by decide, by decide⟩ ⟨by decide, by decide⟩) ah_t0)) ?_
  refine ah_cons (as_lload_n C dX11_withRows_112 rfl) ?_
  refine ah_cons (as_aload_n C dX11_withRows_113 rfl) ?_
  refine ah_cons (as_iconst C dX11_withRows_114 (by decide)) ?_
  refine ah_cons (as_vI (ah_t1 (ah_okV (n := 1) C (mX11_stableTold hW f) dX11_withRows_115 (ci := 11) rfl wt_362 wt_364 wt_363 wt_301 wt_365 ⟨by decide, by decide, by decide, by decide⟩ ⟨by decide, by decide⟩) ah_t0)) ?_
  refine ah_cons (as_i2l C dX11_withRows_118) ?_
  refine ah_cons (as_sL C (mX11_with hW f) dX11_withRows_119 wt_422 wt_423 wt_301 wt_424 ⟨by decide, by decide, by decide⟩ ⟨by decide, by decide⟩) ?_
  refine ah_cons (as_aload_n C dX11_withRows_122 rfl) ?_
  refine ah_cons (as_iconst C dX11_withRows_123 (by decide)) ?_
  refine ah_cons (as_vI (ah_t1 (ah_okV (n := 1) C (mX11_stableTold hW f) dX11_withRows_124 (ci := 11) rfl wt_362 wt_364 wt_363 wt_301 wt_365 ⟨by decide, by decide, by decide, by decide⟩ ⟨by decide, by decide⟩) ah_t0)) ?_
  refine ah_cons (as_i2l C dX11_withRows_127) ?_
  refine ah_cons (as_sL C (mX11_with hW f) dX11_withRows_128 wt_422 wt_423 wt_301 wt_424 ⟨by decide, by decide, by decide⟩ ⟨by decide, by decide⟩) ?_
  refine ah_cons (as_lret C rfl dX11_withRows_131) ?_
  exact ah_nil
def kX11_digest (f : Nat) : List (Nat × ah_S) := [
  (6, ah_ild 3 7),
  (20, ah_ild 4 22),
  (49, ah_ild 4 51),
  (117, ah_ild 3 118),
  (165, ah_ild 3 166),
  (199, ah_ild 3 200),
  (0, ah_push (.long (1129)) 3),
  (3, ah_lst 1 4),
  (4, ah_push (.int (0)) 5),
  (5, ah_lim 6 [0, 1, 3] (ah_ist 3 6)),
  (7, ah_ald 0 8),
  (8, ah_gfr [11] 1 11),
  (11, ah_gfi [0] 2 14),
  (14, ah_clt 17 99),
  (17, ah_push (.int (0)) 18),
  (18, ah_lim 20 [0, 1, 3, 4] (ah_ist 4 20)),
  (22, ah_push (.int (11)) 24),
  (24, ah_clt 27 46),
  (27, ah_lld 1 28),
  (28, ah_ald 0 29),
  (29, ah_ild 3 30),
  (30, ah_ild 4 32),
  (32, ah_vI [(11, aX11_single f)] 3 35),
  (35, ah_i2l 36),
  (36, ah_sL (aX11_with f) 2 39),
  (39, ah_lst 1 40),
  (40, ah_inc 4 (1) 43),
  (43, ah_lim 20 [0, 1, 3, 4] (ah_goto 20)),
  (46, ah_push (.int (0)) 47),
  (47, ah_lim 49 [0, 1, 3, 4] (ah_ist 4 49)),
  (51, ah_ald 0 52),
  (52, ah_gfr [11] 1 55),
  (55, ah_gfi [0] 2 58),
  (58, ah_clt 61 93),
  (61, ah_ild 4 63),
  (63, ah_ild 3 64),
  (64, ah_ceq 67 71),
  (67, ah_lld 1 68),
  (68, ah_goto 86),
  (71, ah_lld 1 72),
  (72, ah_ald 0 73),
  (73, ah_gfr [11] 1 76),
  (76, ah_ild 3 77),
  (77, ah_ild 4 79),
  (79, ah_vI [(0, aX0_likenessOf f)] 3 82),
  (82, ah_i2l 83),
  (83, ah_sL (aX11_with f) 2 86),
  (86, ah_lst 1 87),
  (87, ah_inc 4 (1) 90),
  (90, ah_lim 49 [0, 1, 3, 4] (ah_goto 49)),
  (93, ah_inc 3 (1) 96),
  (96, ah_lim 6 [0, 1, 3] (ah_goto 6)),
  (99, ah_ald 0 100),
  (100, ah_gfr [11] 1 103),
  (103, ah_vI [(0, aX0_isMissing f)] 1 106),
  (106, ah_zeq 109 163),
  (109, ah_ald 0 110),
  (110, ah_lld 1 111),
  (111, ah_vL [(11, aX11_withRows f)] 2 114),
  (114, ah_lst 1 115),
  (115, ah_push (.int (0)) 116),
  (116, ah_lim 117 [0, 1, 3] (ah_ist 3 117)),
  (118, ah_push (.int (6)) 120),
  (120, ah_clt 123 143),
  (123, ah_lld 1 124),
  (124, ah_ald 0 125),
  (125, ah_gfr [11] 1 128),
  (128, ah_ild 3 129),
  (129, ah_vI [(0, aX0_roundFrom f)] 2 132),
  (132, ah_i2l 133),
  (133, ah_sL (aX11_with f) 2 136),
  (136, ah_lst 1 137),
  (137, ah_inc 3 (1) 140),
  (140, ah_lim 117 [0, 1, 3] (ah_goto 117)),
  (143, ah_lld 1 144),
  (144, ah_ald 0 145),
  (145, ah_push (.int (0)) 146),
  (146, ah_vI [(11, aX11_odds f)] 2 149),
  (149, ah_i2l 150),
  (150, ah_sL (aX11_with f) 2 153),
  (153, ah_ald 0 154),
  (154, ah_push (.int (1)) 155),
  (155, ah_vI [(11, aX11_odds f)] 2 158),
  (158, ah_i2l 159),
  (159, ah_sL (aX11_with f) 2 162),
  (162, ah_lst 1 163),
  (163, ah_push (.int (0)) 164),
  (164, ah_lim 165 [0, 1, 3] (ah_ist 3 165)),
  (166, ah_ald 0 167),
  (167, ah_gfr [11] 0 170),
  (170, ah_gfi [4] 1 173),
  (173, ah_clt 176 197),
  (176, ah_lld 1 177),
  (177, ah_ald 0 178),
  (178, ah_gfr [11] 0 181),
  (181, ah_gfr [4] 0 184),
  (184, ah_ild 3 185),
  (185, ah_iald 0 186),
  (186, ah_i2l 187),
  (187, ah_sL (aX11_with f) 2 190),
  (190, ah_lst 1 191),
  (191, ah_inc 3 (1) 194),
  (194, ah_lim 165 [0, 1, 3] (ah_goto 165)),
  (197, ah_push (.int (0)) 198),
  (198, ah_lim 199 [0, 1, 3] (ah_ist 3 199)),
  (200, ah_push (.int (13)) 202),
  (202, ah_clt 205 222),
  (205, ah_lld 1 206),
  (206, ah_ald 0 207),
  (207, ah_ild 3 208),
  (208, ah_vI [(11, aX11_count f)] 2 211),
  (211, ah_i2l 212),
  (212, ah_sL (aX11_with f) 2 215),
  (215, ah_lst 1 216),
  (216, ah_inc 3 (1) 219),
  (219, ah_lim 199 [0, 1, 3] (ah_goto 199)),
  (222, ah_lld 1 223),
  (223, ah_lret)]
def aX11_digest (f : Nat) : ah_F := ah_fun (kX11_digest f) 5 f
set_option maxRecDepth 100000 in
set_option maxHeartbeats 4000000 in
theorem mX11_digest {l : Launch} {s0 : State} {D : va_G} {tc : Nat → ClassId} {ad : Nat → Nat} {A : Nat → Prop} (hW : ah_W0 s0 ad A) (f : Nat) : ah_Met l s0 D tc ad A yX11_digest cX11_digest 5 (some .long) 18 470 (aX11_digest f) := by
  refine ah_met hW.1 (by decide) (fun p e s m args below meth c res C => ?_)
  refine ah_cons (as_iload_n C dX11_digest_6 rfl) ?_
  refine ah_cons (as_iload C dX11_digest_20) ?_
  refine ah_cons (as_iload C dX11_digest_49) ?_
  refine ah_cons (as_iload_n C dX11_digest_117 rfl) ?_
  refine ah_cons (as_iload_n C dX11_digest_165 rfl) ?_
  refine ah_cons (as_iload_n C dX11_digest_199 rfl) ?_
  refine ah_cons (as_ldc2 C dX11_digest_0 wt_425) ?_
  refine ah_cons (as_lstore_n C dX11_digest_3 rfl (by decide)) ?_
  refine ah_cons (as_iconst C dX11_digest_4 (by decide)) ?_
  refine ah_cons (as_lim (as_istore_n C dX11_digest_5 rfl (by decide))) ?_
  refine ah_cons (as_aload_n C dX11_digest_7 rfl) ?_
  refine ah_cons (as_gfr C dX11_digest_8 fgX11_19) ?_
  refine ah_cons (as_gfi C dX11_digest_11 fgX11_74) ?_
  refine ah_cons (as_icmp_ge C dX11_digest_14 (by decide)) ?_
  refine ah_cons (as_iconst C dX11_digest_17 (by decide)) ?_
  refine ah_cons (as_lim (as_istore C dX11_digest_18 (by decide))) ?_
  refine ah_cons (as_bipush C dX11_digest_22 (by decide)) ?_
  refine ah_cons (as_icmp_ge C dX11_digest_24 (by decide)) ?_
  refine ah_cons (as_lload_n C dX11_digest_27 rfl) ?_
  refine ah_cons (as_aload_n C dX11_digest_28 rfl) ?_
  refine ah_cons (as_iload_n C dX11_digest_29 rfl) ?_
  refine ah_cons (as_iload C dX11_digest_30) ?_
  refine ah_cons (as_vI (ah_t1 (ah_okV (n := 2) C (mX11_single hW f) dX11_digest_32 (ci := 11) rfl wt_426 wt_428 wt_427 wt_301 wt_429 ⟨by decide, by decide, by decide, by decide⟩ ⟨by decide, by decide⟩) ah_t0)) ?_
  refine ah_cons (as_i2l C dX11_digest_35) ?_
  refine ah_cons (as_sL C (mX11_with hW f) dX11_digest_36 wt_422 wt_423 wt_301 wt_424 ⟨by decide, by decide, by decide⟩ ⟨by decide, by decide⟩) ?_
  refine ah_cons (as_lstore_n C dX11_digest_39 rfl (by decide)) ?_
  refine ah_cons (as_iinc C dX11_digest_40 (by decide) (by decide)) ?_
  refine ah_cons (as_lim (as_goto C dX11_digest_43 (by decide))) ?_
  refine ah_cons (as_iconst C dX11_digest_46 (by decide)) ?_
  refine ah_cons (as_lim (as_istore C dX11_digest_47 (by decide))) ?_
  refine ah_cons (as_aload_n C dX11_digest_51 rfl) ?_
  refine ah_cons (as_gfr C dX11_digest_52 fgX11_19) ?_
  refine ah_cons (as_gfi C dX11_digest_55 fgX11_74) ?_
  refine ah_cons (as_icmp_ge C dX11_digest_58 (by decide)) ?_
  refine ah_cons (as_iload C dX11_digest_61) ?_
  refine ah_cons (as_iload_n C dX11_digest_63 rfl) ?_
  refine ah_cons (as_icmp_ne C dX11_digest_64 (by decide)) ?_
  refine ah_cons (as_lload_n C dX11_digest_67 rfl) ?_
  refine ah_cons (as_goto C dX11_digest_68 (by decide)) ?_
  refine ah_cons (as_lload_n C dX11_digest_71 rfl) ?_
  refine ah_cons (as_aload_n C dX11_digest_72 rfl) ?_
  refine ah_cons (as_gfr C dX11_digest_73 fgX11_19) ?_
  refine ah_cons (as_iload_n C dX11_digest_76 rfl) ?_
  refine ah_cons (as_iload C dX11_digest_77) ?_
  refine ah_cons (as_vI (ah_t1 (ah_okV (n := 2) C (mX0_likenessOf hW f) dX11_digest_79 (ci := 0) rfl wt_304 wt_62 wt_61 wt_4 wt_63 ⟨by decide, by decide, by decide, by decide⟩ ⟨by decide, by decide⟩) ah_t0)) ?_
  refine ah_cons (as_i2l C dX11_digest_82) ?_
  refine ah_cons (as_sL C (mX11_with hW f) dX11_digest_83 wt_422 wt_423 wt_301 wt_424 ⟨by decide, by decide, by decide⟩ ⟨by decide, by decide⟩) ?_
  refine ah_cons (as_lstore_n C dX11_digest_86 rfl (by decide)) ?_
  refine ah_cons (as_iinc C dX11_digest_87 (by decide) (by decide)) ?_
  refine ah_cons (as_lim (as_goto C dX11_digest_90 (by decide))) ?_
  refine ah_cons (as_iinc C dX11_digest_93 (by decide) (by decide)) ?_
  refine ah_cons (as_lim (as_goto C dX11_digest_96 (by decide))) ?_
  refine ah_cons (as_aload_n C dX11_digest_99 rfl) ?_
  refine ah_cons (as_gfr C dX11_digest_100 fgX11_19) ?_
  refine ah_cons (as_vI (ah_t1 (ah_okV (n := 0) C (mX0_isMissing hW f) dX11_digest_103 (ci := 0) rfl wt_325 wt_327 wt_326 wt_4 wt_328 ⟨by decide, by decide, by decide, by decide⟩ ⟨by decide, by decide⟩) ah_t0)) ?_
  refine ah_cons (as_if_ne C dX11_digest_106 (by decide)) ?_
  refine ah_cons (as_aload_n C dX11_digest_109 rfl) ?_
  refine ah_cons (as_lload_n C dX11_digest_110 rfl) ?_
  refine ah_cons (as_vL (ah_t1 (ah_okV (n := 1) C (mX11_withRows hW f) dX11_digest_111 (ci := 11) rfl wt_430 wt_432 wt_431 wt_301 wt_433 ⟨by decide, by decide, by decide, by decide⟩ ⟨by decide, by decide⟩) ah_t0)) ?_
  refine ah_cons (as_lstore_n C dX11_digest_114 rfl (by decide)) ?_
  refine ah_cons (as_iconst C dX11_digest_115 (by decide)) ?_
  refine ah_cons (as_lim (as_istore_n C dX11_digest_116 rfl (by decide))) ?_
  refine ah_cons (as_bipush C dX11_digest_118 (by decide)) ?_
  refine ah_cons (as_icmp_ge C dX11_digest_120 (by decide)) ?_
  refine ah_cons (as_lload_n C dX11_digest_123 rfl) ?_
  refine ah_cons (as_aload_n C dX11_digest_124 rfl) ?_
  refine ah_cons (as_gfr C dX11_digest_125 fgX11_19) ?_
  refine ah_cons (as_iload_n C dX11_digest_128 rfl) ?_
  refine ah_cons (as_vI (ah_t1 (ah_okV (n := 1) C (mX0_roundFrom hW f) dX11_digest_129 (ci := 0) rfl wt_366 wt_368 wt_367 wt_4 wt_369 ⟨by decide, by decide, by decide, by decide⟩ ⟨by decide, by decide⟩) ah_t0)) ?_
  refine ah_cons (as_i2l C dX11_digest_132) ?_
  refine ah_cons (as_sL C (mX11_with hW f) dX11_digest_133 wt_422 wt_423 wt_301 wt_424 ⟨by decide, by decide, by decide⟩ ⟨by decide, by decide⟩) ?_
  refine ah_cons (as_lstore_n C dX11_digest_136 rfl (by decide)) ?_
  refine ah_cons (as_iinc C dX11_digest_137 (by decide) (by decide)) ?_
  refine ah_cons (as_lim (as_goto C dX11_digest_140 (by decide))) ?_
  refine ah_cons (as_lload_n C dX11_digest_143 rfl) ?_
  refine ah_cons (as_aload_n C dX11_digest_144 rfl) ?_
  refine ah_cons (as_iconst C dX11_digest_145 (by decide)) ?_
  refine ah_cons (as_vI (ah_t1 (ah_okV (n := 1) C (mX11_odds hW f) dX11_digest_146 (ci := 11) rfl wt_434 wt_436 wt_435 wt_301 wt_437 ⟨by decide, by decide, by decide, by decide⟩ ⟨by decide, by decide⟩) ah_t0)) ?_
  refine ah_cons (as_i2l C dX11_digest_149) ?_
  refine ah_cons (as_sL C (mX11_with hW f) dX11_digest_150 wt_422 wt_423 wt_301 wt_424 ⟨by decide, by decide, by decide⟩ ⟨by decide, by decide⟩) ?_
  refine ah_cons (as_aload_n C dX11_digest_153 rfl) ?_
  refine ah_cons (as_iconst C dX11_digest_154 (by decide)) ?_
  refine ah_cons (as_vI (ah_t1 (ah_okV (n := 1) C (mX11_odds hW f) dX11_digest_155 (ci := 11) rfl wt_434 wt_436 wt_435 wt_301 wt_437 ⟨by decide, by decide, by decide, by decide⟩ ⟨by decide, by decide⟩) ah_t0)) ?_
  refine ah_cons (as_i2l C dX11_digest_158) ?_
  refine ah_cons (as_sL C (mX11_with hW f) dX11_digest_159 wt_422 wt_423 wt_301 wt_424 ⟨by decide, by decide, by decide⟩ ⟨by decide, by decide⟩) ?_
  refine ah_cons (as_lstore_n C dX11_digest_162 rfl (by decide)) ?_
  refine ah_cons (as_iconst C dX11_digest_163 (by decide)) ?_
  refine ah_cons (as_lim (as_istore_n C dX11_digest_164 rfl (by decide))) ?_
  refine ah_cons (as_aload_n C dX11_digest_166 rfl) ?_
  refine ah_cons (as_gfr C dX11_digest_167 fgX11_10) ?_
  refine ah_cons (as_gfi C dX11_digest_170 fgX11_52) ?_
  refine ah_cons (as_icmp_ge C dX11_digest_173 (by decide)) ?_
  refine ah_cons (as_lload_n C dX11_digest_176 rfl) ?_
  refine ah_cons (as_aload_n C dX11_digest_177 rfl) ?_
  refine ah_cons (as_gfr C dX11_digest_178 fgX11_10) ?_
  refine ah_cons (as_gfr C dX11_digest_181 fgX11_261) ?_
  refine ah_cons (as_iload_n C dX11_digest_184 rfl) ?_
  refine ah_cons (as_iald C dX11_digest_185) ?_
  refine ah_cons (as_i2l C dX11_digest_186) ?_
  refine ah_cons (as_sL C (mX11_with hW f) dX11_digest_187 wt_422 wt_423 wt_301 wt_424 ⟨by decide, by decide, by decide⟩ ⟨by decide, by decide⟩) ?_
  refine ah_cons (as_lstore_n C dX11_digest_190 rfl (by decide)) ?_
  refine ah_cons (as_iinc C dX11_digest_191 (by decide) (by decide)) ?_
  refine ah_cons (as_lim (as_goto C dX11_digest_194 (by decide))) ?_
  refine ah_cons (as_iconst C dX11_digest_197 (by decide)) ?_
  refine ah_cons (as_lim (as_istore_n C dX11_digest_198 rfl (by decide))) ?_
  refine ah_cons (as_bipush C dX11_digest_200 (by decide)) ?_
  refine ah_cons (as_icmp_ge C dX11_digest_202 (by decide)) ?_
  refine ah_cons (as_lload_n C dX11_digest_205 rfl) ?_
  refine ah_cons (as_aload_n C dX11_digest_206 rfl) ?_
  refine ah_cons (as_iload_n C dX11_digest_207 rfl) ?_
  refine ah_cons (as_vI (ah_t1 (ah_okV (n := 1) C (mX11_count hW f) dX11_digest_208 (ci := 11) rfl wt_439 wt_441 wt_440 wt_301 wt_442 ⟨by decide, by decide, by decide, by decide⟩ ⟨by decide, by decide⟩) ah_t0)) ?_
  refine ah_cons (as_i2l C dX11_digest_211) ?_
  refine ah_cons (as_sL C (mX11_with hW f) dX11_digest_212 wt_422 wt_423 wt_301 wt_424 ⟨by decide, by decide, by decide⟩ ⟨by decide, by decide⟩) ?_
  refine ah_cons (as_lstore_n C dX11_digest_215 rfl (by decide)) ?_
  refine ah_cons (as_iinc C dX11_digest_216 (by decide) (by decide)) ?_
  refine ah_cons (as_lim (as_goto C dX11_digest_219 (by decide))) ?_
  refine ah_cons (as_lload_n C dX11_digest_222 rfl) ?_
  refine ah_cons (as_lret C rfl dX11_digest_223) ?_
  exact ah_nil
