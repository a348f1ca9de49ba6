def kX12_in (f : Nat) : List (Nat × ah_S) := [
  (0, ah_lld 0 1),
  (1, ah_lld 2 2),
  (2, ah_lcmp 3),
  (3, ah_zlt 17 6),
  (6, ah_lld 0 7),
  (7, ah_lld 4 9),
  (9, ah_lcmp 10),
  (10, ah_zgt 17 13),
  (13, ah_push (.int (1)) 14),
  (14, ah_goto 18),
  (17, ah_push (.int (0)) 18),
  (18, ah_zret)]
def aX12_in (f : Nat) : ah_F := ah_fun (kX12_in f) 6 f
set_option maxRecDepth 100000 in
set_option maxHeartbeats 4000000 in
theorem mX12_in {l : Launch} {s0 : State} {D : va_G} {tc : Nat → ClassId} {ad : Nat → Nat} {A : Nat → Prop} (hW : ah_W0 s0 ad A) (f : Nat) : ah_Met l s0 D tc ad A yX12_in cX12_in 6 (some .boolean) 0 0 (aX12_in f) := by
  refine ah_met hW.1 (by decide) (fun p e s m args below meth c res C => ?_)
  refine ah_cons (as_lload_n C dX12_in_0 rfl) ?_
  refine ah_cons (as_lload_n C dX12_in_1 rfl) ?_
  refine ah_cons (as_lcmp C dX12_in_2) ?_
  refine ah_cons (as_if_lt C dX12_in_3 (by decide)) ?_
  refine ah_cons (as_lload_n C dX12_in_6 rfl) ?_
  refine ah_cons (as_lload C dX12_in_7) ?_
  refine ah_cons (as_lcmp C dX12_in_9) ?_
  refine ah_cons (as_if_gt C dX12_in_10 (by decide)) ?_
  refine ah_cons (as_iconst C dX12_in_13 (by decide)) ?_
  refine ah_cons (as_goto C dX12_in_14 (by decide)) ?_
  refine ah_cons (as_iconst C dX12_in_17 (by decide)) ?_
  refine ah_cons (as_zret C rfl dX12_in_18) ?_
  exact ah_nil
def kX12_copy (f : Nat) : List (Nat × ah_S) := [
  (2, ah_ild 2 3),
  (0, ah_push (.int (0)) 1),
  (1, ah_lim 2 [0, 1, 2] (ah_ist 2 2)),
  (3, ah_ald 0 4),
  (4, ah_alen 5),
  (5, ah_clt 8 20),
  (8, ah_ald 1 9),
  (9, ah_ild 2 10),
  (10, ah_ald 0 11),
  (11, ah_ild 2 12),
  (12, ah_iald 0 13),
  (13, ah_iast 14),
  (14, ah_inc 2 (1) 17),
  (17, ah_lim 2 [0, 1, 2] (ah_goto 2)),
  (20, ah_vret)]
def aX12_copy (f : Nat) : ah_F := ah_fun (kX12_copy f) 3 f
set_option maxRecDepth 100000 in
set_option maxHeartbeats 4000000 in
theorem mX12_copy {l : Launch} {s0 : State} {D : va_G} {tc : Nat → ClassId} {ad : Nat → Nat} {A : Nat → Prop} (hW : ah_W0 s0 ad A) (f : Nat) : ah_Met l s0 D tc ad A yX12_copy cX12_copy 3 none 0 0 (aX12_copy f) := by
  refine ah_met hW.1 (by decide) (fun p e s m args below meth c res C => ?_)
  refine ah_cons (as_iload_n C dX12_copy_2 rfl) ?_
  refine ah_cons (as_iconst C dX12_copy_0 (by decide)) ?_
  refine ah_cons (as_lim (as_istore_n C dX12_copy_1 rfl (by decide))) ?_
  refine ah_cons (as_aload_n C dX12_copy_3 rfl) ?_
  refine ah_cons (as_alen C dX12_copy_4) ?_
  refine ah_cons (as_icmp_ge C dX12_copy_5 (by decide)) ?_
  refine ah_cons (as_aload_n C dX12_copy_8 rfl) ?_
  refine ah_cons (as_iload_n C dX12_copy_9 rfl) ?_
  refine ah_cons (as_aload_n C dX12_copy_10 rfl) ?_
  refine ah_cons (as_iload_n C dX12_copy_11 rfl) ?_
  refine ah_cons (as_iald C dX12_copy_12) ?_
  refine ah_cons (as_iast C dX12_copy_13) ?_
  refine ah_cons (as_iinc C dX12_copy_14 (by decide) (by decide)) ?_
  refine ah_cons (as_lim (as_goto C dX12_copy_17 (by decide))) ?_
  refine ah_cons (as_vret C rfl dX12_copy_20) ?_
  exact ah_nil
def kX12_far (f : Nat) : List (Nat × ah_S) := [
  (0, ah_ild 0 1),
  (1, ah_ild 1 2),
  (2, ah_clt 5 11),
  (5, ah_ild 1 6),
  (6, ah_ild 0 7),
  (7, ah_bin (fun x y => x - y) 8),
  (8, ah_goto 14),
  (11, ah_ild 0 12),
  (12, ah_ild 1 13),
  (13, ah_bin (fun x y => x - y) 14),
  (14, ah_iret)]
def aX12_far (f : Nat) : ah_F := ah_fun (kX12_far f) 2 f
set_option maxRecDepth 100000 in
set_option maxHeartbeats 4000000 in
theorem mX12_far {l : Launch} {s0 : State} {D : va_G} {tc : Nat → ClassId} {ad : Nat → Nat} {A : Nat → Prop} (hW : ah_W0 s0 ad A) (f : Nat) : ah_Met l s0 D tc ad A yX12_far cX12_far 2 (some .int) 0 0 (aX12_far f) := by
  refine ah_met hW.1 (by decide) (fun p e s m args below meth c res C => ?_)
  refine ah_cons (as_iload_n C dX12_far_0 rfl) ?_
  refine ah_cons (as_iload_n C dX12_far_1 rfl) ?_
  refine ah_cons (as_icmp_ge C dX12_far_2 (by decide)) ?_
  refine ah_cons (as_iload_n C dX12_far_5 rfl) ?_
  refine ah_cons (as_iload_n C dX12_far_6 rfl) ?_
  refine ah_cons (as_isub C dX12_far_7) ?_
  refine ah_cons (as_goto C dX12_far_8 (by decide)) ?_
  refine ah_cons (as_iload_n C dX12_far_11 rfl) ?_
  refine ah_cons (as_iload_n C dX12_far_12 rfl) ?_
  refine ah_cons (as_isub C dX12_far_13) ?_
  refine ah_cons (as_iret C rfl dX12_far_14) ?_
  exact ah_nil
def kX12_ones (f : Nat) : List (Nat × ah_S) := [
  (4, ah_ild 2 5),
  (0, ah_push (.int (0)) 1),
  (1, ah_ist 1 2),
  (2, ah_push (.int (0)) 3),
  (3, ah_lim 4 [0, 1, 2] (ah_ist 2 4)),
  (5, ah_push (.int (10)) 7),
  (7, ah_clt 10 24),
  (10, ah_ild 1 11),
  (11, ah_ild 0 12),
  (12, ah_ild 2 13),
  (13, ah_bin (fun x y => x >>> (y &&& 31)) 14),
  (14, ah_push (.int (1)) 15),
  (15, ah_bin (fun x y => x &&& y) 16),
  (16, ah_bin (fun x y => x + y) 17),
  (17, ah_ist 1 18),
  (18, ah_inc 2 (1) 21),
  (21, ah_lim 4 [0, 1, 2] (ah_goto 4)),
  (24, ah_ild 1 25),
  (25, ah_iret)]
def aX12_ones (f : Nat) : ah_F := ah_fun (kX12_ones f) 3 f
set_option maxRecDepth 100000 in
set_option maxHeartbeats 4000000 in
theorem mX12_ones {l : Launch} {s0 : State} {D : va_G} {tc : Nat → ClassId} {ad : Nat → Nat} {A : Nat → Prop} (hW : ah_W0 s0 ad A) (f : Nat) : ah_Met l s0 D tc ad A yX12_ones cX12_ones 3 (some .int) 0 0 (aX12_ones f) := by
  refine ah_met hW.1 (by decide) (fun p e s m args below meth c res C => ?_)
  refine ah_cons (as_iload_n C dX12_ones_4 rfl) ?_
  refine ah_cons (as_iconst C dX12_ones_0 (by decide)) ?_
  refine ah_cons (as_istore_n C dX12_ones_1 rfl (by decide)) ?_
  refine ah_cons (as_iconst C dX12_ones_2 (by decide)) ?_
  refine ah_cons (as_lim (as_istore_n C dX12_ones_3 rfl (by decide))) ?_
  refine ah_cons (as_bipush C dX12_ones_5 (by decide)) ?_
  refine ah_cons (as_icmp_ge C dX12_ones_7 (by decide)) ?_
  refine ah_cons (as_iload_n C dX12_ones_10 rfl) ?_
  refine ah_cons (as_iload_n C dX12_ones_11 rfl) ?_
  refine ah_cons (as_iload_n C dX12_ones_12 rfl) ?_
  refine ah_cons (as_ishr C dX12_ones_13) ?_
  refine ah_cons (as_iconst C dX12_ones_14 (by decide)) ?_
  refine ah_cons (as_iand C dX12_ones_15) ?_
  refine ah_cons (as_iadd C dX12_ones_16) ?_
  refine ah_cons (as_istore_n C dX12_ones_17 rfl (by decide)) ?_
  refine ah_cons (as_iinc C dX12_ones_18 (by decide) (by decide)) ?_
  refine ah_cons (as_lim (as_goto C dX12_ones_21 (by decide))) ?_
  refine ah_cons (as_iload_n C dX12_ones_24 rfl) ?_
  refine ah_cons (as_iret C rfl dX12_ones_25) ?_
  exact ah_nil
def kX12_common (f : Nat) : List (Nat × ah_S) := [
  (4, ah_ild 3 5),
  (0, ah_ild 0 1),
  (1, ah_ist 2 2),
  (2, ah_ild 1 3),
  (3, ah_lim 4 [2, 3] (ah_ist 3 4)),
  (5, ah_zgt 8 21),
  (8, ah_ild 2 9),
  (9, ah_ild 3 10),
  (10, ah_rem 11),
  (11, ah_ist 4 13),
  (13, ah_ild 3 14),
  (14, ah_ist 2 15),
  (15, ah_ild 4 17),
  (17, ah_ist 3 18),
  (18, ah_lim 4 [2, 3] (ah_goto 4)),
  (21, ah_ild 2 22),
  (22, ah_iret)]
def aX12_common (f : Nat) : ah_F := ah_fun (kX12_common f) 5 f
set_option maxRecDepth 100000 in
set_option maxHeartbeats 4000000 in
theorem mX12_common {l : Launch} {s0 : State} {D : va_G} {tc : Nat → ClassId} {ad : Nat → Nat} {A : Nat → Prop} (hW : ah_W0 s0 ad A) (f : Nat) : ah_Met l s0 D tc ad A yX12_common cX12_common 5 (some .int) 0 0 (aX12_common f) := by
  refine ah_met hW.1 (by decide) (fun p e s m args below meth c res C => ?_)
  refine ah_cons (as_iload_n C dX12_common_4 rfl) ?_
  refine ah_cons (as_iload_n C dX12_common_0 rfl) ?_
  refine ah_cons (as_istore_n C dX12_common_1 rfl (by decide)) ?_
  refine ah_cons (as_iload_n C dX12_common_2 rfl) ?_
  refine ah_cons (as_lim (as_istore_n C dX12_common_3 rfl (by decide))) ?_
  refine ah_cons (as_if_le C dX12_common_5 (by decide)) ?_
  refine ah_cons (as_iload_n C dX12_common_8 rfl) ?_
  refine ah_cons (as_iload_n C dX12_common_9 rfl) ?_
  refine ah_cons (as_irem C dX12_common_10) ?_
  refine ah_cons (as_istore C dX12_common_11 (by decide)) ?_
  refine ah_cons (as_iload_n C dX12_common_13 rfl) ?_
  refine ah_cons (as_istore_n C dX12_common_14 rfl (by decide)) ?_
  refine ah_cons (as_iload C dX12_common_15) ?_
  refine ah_cons (as_istore_n C dX12_common_17 rfl (by decide)) ?_
  refine ah_cons (as_lim (as_goto C dX12_common_18 (by decide))) ?_
  refine ah_cons (as_iload_n C dX12_common_21 rfl) ?_
  refine ah_cons (as_iret C rfl dX12_common_22) ?_
  exact ah_nil
def kX12_letter (f : Nat) : List (Nat × ah_S) := [
  (0, ah_ild 1 1),
  (1, ah_i2l 2),
  (2, ah_push (.long (1)) 3),
  (3, ah_push (.long (126)) 6),
  (6, ah_sI (aX12_in f) 3 9),
  (9, ah_zeq 12 15),
  (12, ah_push (.int (-102)) 14),
  (14, ah_iret),
  (15, ah_ald 0 16),
  (16, ah_gfi [12] 1 19),
  (19, ah_push (.int (36)) 21),
  (21, ah_ceq 24 27),
  (24, ah_push (.int (-104)) 26),
  (26, ah_iret),
  (27, ah_ald 0 28),
  (28, ah_gfr [12] 0 31),
  (31, ah_ald 0 32),
  (32, ah_gfi [12] 1 35),
  (35, ah_ild 1 36),
  (36, ah_iast 37),
  (37, ah_ald 0 38),
  (38, ah_dupR 39),
  (39, ah_gfi [12] 1 42),
  (42, ah_push (.int (1)) 43),
  (43, ah_bin (fun x y => x + y) 44),
  (44, ah_pfi [12] 1 47),
  (47, ah_ald 0 48),
  (48, ah_gfi [12] 1 51),
  (51, ah_iret)]
def aX12_letter (f : Nat) : ah_F := ah_fun (kX12_letter f) 2 f
set_option maxRecDepth 100000 in
set_option maxHeartbeats 4000000 in
theorem mX12_letter {l : Launch} {s0 : State} {D : va_G} {tc : Nat → ClassId} {ad : Nat → Nat} {A : Nat → Prop} (hW : ah_W0 s0 ad A) (f : Nat) : ah_Met l s0 D tc ad A yX12_letter cX12_letter 2 (some .int) 1 25 (aX12_letter f) := by
  refine ah_met hW.1 (by decide) (fun p e s m args below meth c res C => ?_)
  refine ah_cons (as_iload_n C dX12_letter_0 rfl) ?_
  refine ah_cons (as_i2l C dX12_letter_1) ?_
  refine ah_cons (as_lconst C dX12_letter_2 (by decide)) ?_
  refine ah_cons (as_ldc2 C dX12_letter_3 wt_443) ?_
  refine ah_cons (as_sI C (mX12_in hW f) dX12_letter_6 wt_444 wt_445 wt_446 wt_447 ⟨by decide, by decide, by decide⟩ ⟨by decide, by decide⟩) ?_
  refine ah_cons (as_if_ne C dX12_letter_9 (by decide)) ?_
  refine ah_cons (as_bipush C dX12_letter_12 (by decide)) ?_
  refine ah_cons (as_iret C rfl dX12_letter_14) ?_
  refine ah_cons (as_aload_n C dX12_letter_15 rfl) ?_
  refine ah_cons (as_gfi C dX12_letter_16 fgX12_62) ?_
  refine ah_cons (as_bipush C dX12_letter_19 (by decide)) ?_
  refine ah_cons (as_icmp_ne C dX12_letter_21 (by decide)) ?_
  refine ah_cons (as_bipush C dX12_letter_24 (by decide)) ?_
  refine ah_cons (as_iret C rfl dX12_letter_26) ?_
  refine ah_cons (as_aload_n C dX12_letter_27 rfl) ?_
  refine ah_cons (as_gfr C dX12_letter_28 fgX12_7) ?_
  refine ah_cons (as_aload_n C dX12_letter_31 rfl) ?_
  refine ah_cons (as_gfi C dX12_letter_32 fgX12_62) ?_
  refine ah_cons (as_iload_n C dX12_letter_35 rfl) ?_
  refine ah_cons (as_iast C dX12_letter_36) ?_
  refine ah_cons (as_aload_n C dX12_letter_37 rfl) ?_
  refine ah_cons (as_dupR C dX12_letter_38) ?_
  refine ah_cons (as_gfi C dX12_letter_39 fgX12_62) ?_
  refine ah_cons (as_iconst C dX12_letter_42 (by decide)) ?_
  refine ah_cons (as_iadd C dX12_letter_43) ?_
  refine ah_cons (as_pfi C dX12_letter_44 fpX12_62) ?_
  refine ah_cons (as_aload_n C dX12_letter_47 rfl) ?_
  refine ah_cons (as_gfi C dX12_letter_48 fgX12_62) ?_
  refine ah_cons (as_iret C rfl dX12_letter_51) ?_
  exact ah_nil
def kX12_blank (f : Nat) : List (Nat × ah_S) := [
  (0, ah_ald 0 1),
  (1, ah_gfi [12] 1 4),
  (4, ah_ist 1 5),
  (5, ah_ald 0 6),
  (6, ah_push (.int (0)) 7),
  (7, ah_pfi [12] 1 10),
  (10, ah_ild 1 11),
  (11, ah_iret)]
def aX12_blank (f : Nat) : ah_F := ah_fun (kX12_blank f) 2 f
set_option maxRecDepth 100000 in
set_option maxHeartbeats 4000000 in
theorem mX12_blank {l : Launch} {s0 : State} {D : va_G} {tc : Nat → ClassId} {ad : Nat → Nat} {A : Nat → Prop} (hW : ah_W0 s0 ad A) (f : Nat) : ah_Met l s0 D tc ad A yX12_blank cX12_blank 2 (some .int) 0 0 (aX12_blank f) := by
  refine ah_met hW.1 (by decide) (fun p e s m args below meth c res C => ?_)
  refine ah_cons (as_aload_n C dX12_blank_0 rfl) ?_
  refine ah_cons (as_gfi C dX12_blank_1 fgX12_62) ?_
  refine ah_cons (as_istore_n C dX12_blank_4 rfl (by decide)) ?_
  refine ah_cons (as_aload_n C dX12_blank_5 rfl) ?_
  refine ah_cons (as_iconst C dX12_blank_6 (by decide)) ?_
  refine ah_cons (as_pfi C dX12_blank_7 fpX12_62) ?_
  refine ah_cons (as_iload_n C dX12_blank_10 rfl) ?_
  refine ah_cons (as_iret C rfl dX12_blank_11) ?_
  exact ah_nil
def kX12_kindBy (f : Nat) : List (Nat × ah_S) := [
  (0, ah_ild 0 1),
  (1, ah_sw [(103, 70), (104, 78), (105, 78), (106, 78), (107, 72), (108, 78), (109, 76), (110, 78), (111, 78), (112, 78), (113, 78), (114, 74), (115, 68)] 78),
  (68, ah_push (.int (0)) 69),
  (69, ah_iret),
  (70, ah_push (.int (1)) 71),
  (71, ah_iret),
  (72, ah_push (.int (2)) 73),
  (73, ah_iret),
  (74, ah_push (.int (3)) 75),
  (75, ah_iret),
  (76, ah_push (.int (4)) 77),
  (77, ah_iret),
  (78, ah_push (.int (-1)) 79),
  (79, ah_iret)]
def aX12_kindBy (f : Nat) : ah_F := ah_fun (kX12_kindBy f) 1 f
set_option maxRecDepth 100000 in
set_option maxHeartbeats 4000000 in
theorem mX12_kindBy {l : Launch} {s0 : State} {D : va_G} {tc : Nat → ClassId} {ad : Nat → Nat} {A : Nat → Prop} (hW : ah_W0 s0 ad A) (f : Nat) : ah_Met l s0 D tc ad A yX12_kindBy cX12_kindBy 1 (some .int) 0 0 (aX12_kindBy f) := by
  refine ah_met hW.1 (by decide) (fun p e s m args below meth c res C => ?_)
  refine ah_cons (as_iload_n C dX12_kindBy_0 rfl) ?_
  refine ah_cons (as_tsw C dX12_kindBy_1 (by decide) (by decide) (by decide)) ?_
  refine ah_cons (as_iconst C dX12_kindBy_68 (by decide)) ?_
  refine ah_cons (as_iret C rfl dX12_kindBy_69) ?_
  refine ah_cons (as_iconst C dX12_kindBy_70 (by decide)) ?_
  refine ah_cons (as_iret C rfl dX12_kindBy_71) ?_
  refine ah_cons (as_iconst C dX12_kindBy_72 (by decide)) ?_
  refine ah_cons (as_iret C rfl dX12_kindBy_73) ?_
  refine ah_cons (as_iconst C dX12_kindBy_74 (by decide)) ?_
  refine ah_cons (as_iret C rfl dX12_kindBy_75) ?_
  refine ah_cons (as_iconst C dX12_kindBy_76 (by decide)) ?_
  refine ah_cons (as_iret C rfl dX12_kindBy_77) ?_
  refine ah_cons (as_iconst C dX12_kindBy_78 (by decide)) ?_
  refine ah_cons (as_iret C rfl dX12_kindBy_79) ?_
  exact ah_nil
def kX12_isGood (f : Nat) : List (Nat × ah_S) := [
  (0, ah_ild 0 1),
  (1, ah_push (.int (5)) 2),
  (2, ah_rem 3),
  (3, ah_sw [(0, 32), (1, 46), (2, 58), (3, 70)] 82),
  (32, ah_ild 1 33),
  (33, ah_sI (aX12_kindBy f) 1 36),
  (36, ah_push (.int (-1)) 37),
  (37, ah_ceq 44 40),
  (40, ah_push (.int (1)) 41),
  (41, ah_goto 45),
  (44, ah_push (.int (0)) 45),
  (45, ah_zret),
  (46, ah_ild 1 47),
  (47, ah_i2l 48),
  (48, ah_push (.long (48)) 51),
  (51, ah_push (.long (49)) 54),
  (54, ah_sI (aX12_in f) 3 57),
  (57, ah_zret),
  (58, ah_ild 1 59),
  (59, ah_i2l 60),
  (60, ah_push (.long (48)) 63),
  (63, ah_push (.long (57)) 66),
  (66, ah_sI (aX12_in f) 3 69),
  (69, ah_zret),
  (70, ah_ild 1 71),
  (71, ah_i2l 72),
  (72, ah_push (.long (48)) 75),
  (75, ah_push (.long (53)) 78),
  (78, ah_sI (aX12_in f) 3 81),
  (81, ah_zret),
  (82, ah_ild 1 83),
  (83, ah_push (.int (44)) 85),
  (85, ah_ceq 88 98),
  (88, ah_ild 0 89),
  (89, ah_push (.int (34)) 91),
  (91, ah_clt 94 98),
  (94, ah_push (.int (1)) 95),
  (95, ah_goto 99),
  (98, ah_push (.int (0)) 99),
  (99, ah_zret)]
def aX12_isGood (f : Nat) : ah_F := ah_fun (kX12_isGood f) 2 f
set_option maxRecDepth 100000 in
set_option maxHeartbeats 4000000 in
theorem mX12_isGood {l : Launch} {s0 : State} {D : va_G} {tc : Nat → ClassId} {ad : Nat → Nat} {A : Nat → Prop} (hW : ah_W0 s0 ad A) (f : Nat) : ah_Met l s0 D tc ad A yX12_isGood cX12_isGood 2 (some .boolean) 1 25 (aX12_isGood f) := by
  refine ah_met hW.1 (by decide) (fun p e s m args below meth c res C => ?_)
  refine ah_cons (as_iload_n C dX12_isGood_0 rfl) ?_
  refine ah_cons (as_iconst C dX12_isGood_1 (by decide)) ?_
  refine ah_cons (as_irem C dX12_isGood_2) ?_
  refine ah_cons (as_tsw C dX12_isGood_3 (by decide) (by decide) (by decide)) ?_
  refine ah_cons (as_iload_n C dX12_isGood_32 rfl) ?_
  refine ah_cons (as_sI C (mX12_kindBy hW f) dX12_isGood_33 wt_450 wt_451 wt_446 wt_452 ⟨by decide, by decide, by decide⟩ ⟨by decide, by decide⟩) ?_
  refine ah_cons (as_iconst C dX12_isGood_36 (by decide)) ?_
  refine ah_cons (as_icmp_eq C dX12_isGood_37 (by decide)) ?_
  refine ah_cons (as_iconst C dX12_isGood_40 (by decide)) ?_
  refine ah_cons (as_goto C dX12_isGood_41 (by decide)) ?_
  refine ah_cons (as_iconst C dX12_isGood_44 (by decide)) ?_
  refine ah_cons (as_zret C rfl dX12_isGood_45) ?_
  refine ah_cons (as_iload_n C dX12_isGood_46 rfl) ?_
  refine ah_cons (as_i2l C dX12_isGood_47) ?_
  refine ah_cons (as_ldc2 C dX12_isGood_48 wt_453) ?_
  refine ah_cons (as_ldc2 C dX12_isGood_51 wt_454) ?_
  refine ah_cons (as_sI C (mX12_in hW f) dX12_isGood_54 wt_444 wt_445 wt_446 wt_447 ⟨by decide, by decide, by decide⟩ ⟨by decide, by decide⟩) ?_
  refine ah_cons (as_zret C rfl dX12_isGood_57) ?_
  refine ah_cons (as_iload_n C dX12_isGood_58 rfl) ?_
  refine ah_cons (as_i2l C dX12_isGood_59) ?_
  refine ah_cons (as_ldc2 C dX12_isGood_60 wt_453) ?_
  refine ah_cons (as_ldc2 C dX12_isGood_63 wt_455) ?_
  refine ah_cons (as_sI C (mX12_in hW f) dX12_isGood_66 wt_444 wt_445 wt_446 wt_447 ⟨by decide, by decide, by decide⟩ ⟨by decide, by decide⟩) ?_
  refine ah_cons (as_zret C rfl dX12_isGood_69) ?_
  refine ah_cons (as_iload_n C dX12_isGood_70 rfl) ?_
  refine ah_cons (as_i2l C dX12_isGood_71) ?_
  refine ah_cons (as_ldc2 C dX12_isGood_72 wt_453) ?_
  refine ah_cons (as_ldc2 C dX12_isGood_75 wt_456) ?_
  refine ah_cons (as_sI C (mX12_in hW f) dX12_isGood_78 wt_444 wt_445 wt_446 wt_447 ⟨by decide, by decide, by decide⟩ ⟨by decide, by decide⟩) ?_
  refine ah_cons (as_zret C rfl dX12_isGood_81) ?_
  refine ah_cons (as_iload_n C dX12_isGood_82 rfl) ?_
  refine ah_cons (as_bipush C dX12_isGood_83 (by decide)) ?_
  refine ah_cons (as_icmp_ne C dX12_isGood_85 (by decide)) ?_
  refine ah_cons (as_iload_n C dX12_isGood_88 rfl) ?_
  refine ah_cons (as_bipush C dX12_isGood_89 (by decide)) ?_
  refine ah_cons (as_icmp_ge C dX12_isGood_91 (by decide)) ?_
  refine ah_cons (as_iconst C dX12_isGood_94 (by decide)) ?_
  refine ah_cons (as_goto C dX12_isGood_95 (by decide)) ?_
  refine ah_cons (as_iconst C dX12_isGood_98 (by decide)) ?_
  refine ah_cons (as_zret C rfl dX12_isGood_99) ?_
  exact ah_nil
def kX12_faultOf (f : Nat) : List (Nat × ah_S) := [
  (2, ah_ild 1 3),
  (0, ah_push (.int (0)) 1),
  (1, ah_lim 2 [0, 1] (ah_ist 1 2)),
  (3, ah_ald 0 4),
  (4, ah_gfi [12] 1 7),
  (7, ah_clt 10 29),
  (10, ah_ild 1 11),
  (11, ah_ald 0 12),
  (12, ah_gfr [12] 0 15),
  (15, ah_ild 1 16),
  (16, ah_iald 0 17),
  (17, ah_sI (aX12_isGood f) 2 20),
  (20, ah_zeq 29 23),
  (23, ah_inc 1 (1) 26),
  (26, ah_lim 2 [0, 1] (ah_goto 2)),
  (29, ah_ild 1 30),
  (30, ah_iret)]
def aX12_faultOf (f : Nat) : ah_F := ah_fun (kX12_faultOf f) 2 f
set_option maxRecDepth 100000 in
set_option maxHeartbeats 4000000 in
theorem mX12_faultOf {l : Launch} {s0 : State} {D : va_G} {tc : Nat → ClassId} {ad : Nat → Nat} {A : Nat → Prop} (hW : ah_W0 s0 ad A) (f : Nat) : ah_Met l s0 D tc ad A yX12_faultOf cX12_faultOf 2 (some .int) 2 46 (aX12_faultOf f) := by
  refine ah_met hW.1 (by decide) (fun p e s m args below meth c res C => ?_)
  refine ah_cons (as_iload_n C dX12_faultOf_2 rfl) ?_
  refine ah_cons (as_iconst C dX12_faultOf_0 (by decide)) ?_
  refine ah_cons (as_lim (as_istore_n C dX12_faultOf_1 rfl (by decide))) ?_
  refine ah_cons (as_aload_n C dX12_faultOf_3 rfl) ?_
  refine ah_cons (as_gfi C dX12_faultOf_4 fgX12_62) ?_
  refine ah_cons (as_icmp_ge C dX12_faultOf_7 (by decide)) ?_
  refine ah_cons (as_iload_n C dX12_faultOf_10 rfl) ?_
  refine ah_cons (as_aload_n C dX12_faultOf_11 rfl) ?_
  refine ah_cons (as_gfr C dX12_faultOf_12 fgX12_7) ?_
  refine ah_cons (as_iload_n C dX12_faultOf_15 rfl) ?_
  refine ah_cons (as_iald C dX12_faultOf_16) ?_
  refine ah_cons (as_sI C (mX12_isGood hW f) dX12_faultOf_17 wt_457 wt_458 wt_446 wt_459 ⟨by decide, by decide, by decide⟩ ⟨by decide, by decide⟩) ?_
  refine ah_cons (as_if_eq C dX12_faultOf_20 (by decide)) ?_
  refine ah_cons (as_iinc C dX12_faultOf_23 (by decide) (by decide)) ?_
  refine ah_cons (as_lim (as_goto C dX12_faultOf_26 (by decide))) ?_
  refine ah_cons (as_iload_n C dX12_faultOf_29 rfl) ?_
  refine ah_cons (as_iret C rfl dX12_faultOf_30) ?_
  exact ah_nil
def kX12_fault (f : Nat) : List (Nat × ah_S) := [
  (0, ah_ald 0 1),
  (1, ah_vI [(12, aX12_faultOf f)] 1 4),
  (4, ah_iret)]
def aX12_fault (f : Nat) : ah_F := ah_fun (kX12_fault f) 1 f
set_option maxRecDepth 100000 in
set_option maxHeartbeats 4000000 in
theorem mX12_fault {l : Launch} {s0 : State} {D : va_G} {tc : Nat → ClassId} {ad : Nat → Nat} {A : Nat → Prop} (hW : ah_W0 s0 ad A) (f : Nat) : ah_Met l s0 D tc ad A yX12_fault cX12_fault 1 (some .int) 3 67 (aX12_fault f) := by
  refine ah_met hW.1 (by decide) (fun p e s m args below meth c res C => ?_)
  refine ah_cons (as_aload_n C dX12_fault_0 rfl) ?_
  refine ah_cons (as_vI (ah_t1 (ah_okV (n := 0) C (mX12_faultOf hW f) dX12_fault_1 (ci := 12) rfl wt_460 wt_462 wt_461 wt_446 wt_463 ⟨by decide, by decide, by decide, by decide⟩ ⟨by decide, by decide⟩) ah_t0)) ?_
  refine ah_cons (as_iret C rfl dX12_fault_4) ?_
  exact ah_nil
def kX12_drawer (f : Nat) : List (Nat × ah_S) := [
  (47, ah_ild 1 48),
  (74, ah_ald 0 75),
  (97, ah_ald 0 98),
  (116, ah_ald 0 117),
  (148, ah_ald 0 149),
  (0, ah_ald 0 1),
  (1, ah_gfi [12] 1 4),
  (4, ah_push (.int (9)) 6),
  (6, ah_clt 30 9),
  (9, ah_ald 0 10),
  (10, ah_gfi [12] 1 13),
  (13, ah_push (.int (5)) 14),
  (14, ah_rem 15),
  (15, ah_push (.int (4)) 16),
  (16, ah_ceq 19 30),
  (19, ah_ald 0 20),
  (20, ah_vI [(12, aX12_faultOf f)] 1 23),
  (23, ah_ald 0 24),
  (24, ah_gfi [12] 1 27),
  (27, ah_clt 30 33),
  (30, ah_push (.int (-103)) 32),
  (32, ah_iret),
  (33, ah_ald 0 34),
  (34, ah_ald 0 35),
  (35, ah_gfi [12] 1 38),
  (38, ah_push (.int (1)) 39),
  (39, ah_bin (fun x y => x + y) 40),
  (40, ah_push (.int (5)) 41),
  (41, ah_div 42),
  (42, ah_pfi [12] 2 45),
  (45, ah_push (.int (0)) 46),
  (46, ah_lim 47 [0, 1] (ah_ist 1 47)),
  (48, ah_ald 0 49),
  (49, ah_gfi [12] 2 52),
  (52, ah_lim 148 [0] (ah_clt 55 148)),
  (55, ah_ald 0 56),
  (56, ah_gfr [12] 8 59),
  (59, ah_push (.int (2)) 60),
  (60, ah_ild 1 61),
  (61, ah_bin (fun x y => x * y) 62),
  (62, ah_ald 0 63),
  (63, ah_gfr [12] 0 66),
  (66, ah_push (.int (5)) 67),
  (67, ah_ild 1 68),
  (68, ah_bin (fun x y => x * y) 69),
  (69, ah_iald 0 70),
  (70, ah_sI (aX12_kindBy f) 1 73),
  (73, ah_lim 74 [0, 1] (ah_iast 74)),
  (75, ah_gfr [12] 8 78),
  (78, ah_push (.int (2)) 79),
  (79, ah_ild 1 80),
  (80, ah_bin (fun x y => x * y) 81),
  (81, ah_push (.int (1)) 82),
  (82, ah_bin (fun x y => x + y) 83),
  (83, ah_ald 0 84),
  (84, ah_gfr [12] 0 87),
  (87, ah_push (.int (5)) 88),
  (88, ah_ild 1 89),
  (89, ah_bin (fun x y => x * y) 90),
  (90, ah_push (.int (1)) 91),
  (91, ah_bin (fun x y => x + y) 92),
  (92, ah_iald 0 93),
  (93, ah_push (.int (48)) 95),
  (95, ah_bin (fun x y => x - y) 96),
  (96, ah_lim 97 [0, 1] (ah_iast 97)),
  (98, ah_gfr [12] 9 101),
  (101, ah_ild 1 102),
  (102, ah_ald 0 103),
  (103, ah_gfr [12] 0 106),
  (106, ah_push (.int (5)) 107),
  (107, ah_ild 1 108),
  (108, ah_bin (fun x y => x * y) 109),
  (109, ah_push (.int (2)) 110),
  (110, ah_bin (fun x y => x + y) 111),
  (111, ah_iald 0 112),
  (112, ah_push (.int (48)) 114),
  (114, ah_bin (fun x y => x - y) 115),
  (115, ah_lim 116 [0, 1] (ah_iast 116)),
  (117, ah_gfr [12] 10 120),
  (120, ah_ild 1 121),
  (121, ah_ald 0 122),
  (122, ah_gfr [12] 0 125),
  (125, ah_push (.int (5)) 126),
  (126, ah_ild 1 127),
  (127, ah_bin (fun x y => x * y) 128),
  (128, ah_push (.int (3)) 129),
  (129, ah_bin (fun x y => x + y) 130),
  (130, ah_iald 0 131),
  (131, ah_push (.int (48)) 133),
  (133, ah_bin (fun x y => x - y) 134),
  (134, ah_iast 135),
  (135, ah_ald 0 136),
  (136, ah_gfr [12] 11 139),
  (139, ah_ild 1 140),
  (140, ah_push (.int (-1)) 141),
  (141, ah_iast 142),
  (142, ah_inc 1 (1) 145),
  (145, ah_lim 47 [0, 1] (ah_goto 47)),
  (149, ah_push (.int (0)) 150),
  (150, ah_pfi [12] 3 153),
  (153, ah_ald 0 154),
  (154, ah_push (.int (0)) 155),
  (155, ah_pfi [12] 4 158),
  (158, ah_ald 0 159),
  (159, ah_push (.int (0)) 160),
  (160, ah_pfi [12] 5 163),
  (163, ah_ald 0 164),
  (164, ah_push (.int (0)) 165),
  (165, ah_pfi [12] 6 168),
  (168, ah_ald 0 169),
  (169, ah_push (.int (0)) 170),
  (170, ah_pfi [12] 15 173),
  (173, ah_ald 0 174),
  (174, ah_dupR 175),
  (175, ah_gfi [12] 7 178),
  (178, ah_push (.int (1)) 179),
  (179, ah_bin (fun x y => x + y) 180),
  (180, ah_pfi [12] 7 183),
  (183, ah_ald 0 184),
  (184, ah_push (.int (0)) 185),
  (185, ah_pfi [12] 1 188),
  (188, ah_ald 0 189),
  (189, ah_gfi [12] 2 192),
  (192, ah_iret)]
def aX12_drawer (f : Nat) : ah_F := ah_fun (kX12_drawer f) 2 f
set_option maxRecDepth 100000 in
set_option maxHeartbeats 4000000 in
theorem mX12_drawer {l : Launch} {s0 : State} {D : va_G} {tc : Nat → ClassId} {ad : Nat → Nat} {A : Nat → Prop} (hW : ah_W0 s0 ad A) (f : Nat) : ah_Met l s0 D tc ad A yX12_drawer cX12_drawer 2 (some .int) 3 67 (aX12_drawer f) := by
  refine ah_met hW.1 (by decide) (fun p e s m args below meth c res C => ?_)
  refine ah_cons (as_iload_n C dX12_drawer_47 rfl) ?_
  refine ah_cons (as_aload_n C dX12_drawer_74 rfl) ?_
  refine ah_cons (as_aload_n C dX12_drawer_97 rfl) ?_
  refine ah_cons (as_aload_n C dX12_drawer_116 rfl) ?_
  refine ah_cons (as_aload_n C dX12_drawer_148 rfl) ?_
  refine ah_cons (as_aload_n C dX12_drawer_0 rfl) ?_
  refine ah_cons (as_gfi C dX12_drawer_1 fgX12_62) ?_
  refine ah_cons (as_bipush C dX12_drawer_4 (by decide)) ?_
  refine ah_cons (as_icmp_lt C dX12_drawer_6 (by decide)) ?_
  refine ah_cons (as_aload_n C dX12_drawer_9 rfl) ?_
  refine ah_cons (as_gfi C dX12_drawer_10 fgX12_62) ?_
  refine ah_cons (as_iconst C dX12_drawer_13 (by decide)) ?_
  refine ah_cons (as_irem C dX12_drawer_14) ?_
  refine ah_cons (as_iconst C dX12_drawer_15 (by decide)) ?_
  refine ah_cons (as_icmp_ne C dX12_drawer_16 (by decide)) ?_
  refine ah_cons (as_aload_n C dX12_drawer_19 rfl) ?_
  refine ah_cons (as_vI (ah_t1 (ah_okV (n := 0) C (mX12_faultOf hW f) dX12_drawer_20 (ci := 12) rfl wt_460 wt_462 wt_461 wt_446 wt_463 ⟨by decide, by decide, by decide, by decide⟩ ⟨by decide, by decide⟩) ah_t0)) ?_
  refine ah_cons (as_aload_n C dX12_drawer_23 rfl) ?_
  refine ah_cons (as_gfi C dX12_drawer_24 fgX12_62) ?_
  refine ah_cons (as_icmp_ge C dX12_drawer_27 (by decide)) ?_
  refine ah_cons (as_bipush C dX12_drawer_30 (by decide)) ?_
  refine ah_cons (as_iret C rfl dX12_drawer_32) ?_
  refine ah_cons (as_aload_n C dX12_drawer_33 rfl) ?_
  refine ah_cons (as_aload_n C dX12_drawer_34 rfl) ?_
  refine ah_cons (as_gfi C dX12_drawer_35 fgX12_62) ?_
  refine ah_cons (as_iconst C dX12_drawer_38 (by decide)) ?_
  refine ah_cons (as_iadd C dX12_drawer_39) ?_
  refine ah_cons (as_iconst C dX12_drawer_40 (by decide)) ?_
  refine ah_cons (as_idiv C dX12_drawer_41) ?_
  refine ah_cons (as_pfi C dX12_drawer_42 fpX12_85) ?_
  refine ah_cons (as_iconst C dX12_drawer_45 (by decide)) ?_
  refine ah_cons (as_lim (as_istore_n C dX12_drawer_46 rfl (by decide))) ?_
  refine ah_cons (as_aload_n C dX12_drawer_48 rfl) ?_
  refine ah_cons (as_gfi C dX12_drawer_49 fgX12_85) ?_
  refine ah_cons (as_lim (as_icmp_ge C dX12_drawer_52 (by decide))) ?_
  refine ah_cons (as_aload_n C dX12_drawer_55 rfl) ?_
  refine ah_cons (as_gfr C dX12_drawer_56 fgX12_13) ?_
  refine ah_cons (as_iconst C dX12_drawer_59 (by decide)) ?_
  refine ah_cons (as_iload_n C dX12_drawer_60 rfl) ?_
  refine ah_cons (as_imul C dX12_drawer_61) ?_
  refine ah_cons (as_aload_n C dX12_drawer_62 rfl) ?_
  refine ah_cons (as_gfr C dX12_drawer_63 fgX12_7) ?_
  refine ah_cons (as_iconst C dX12_drawer_66 (by decide)) ?_
  refine ah_cons (as_iload_n C dX12_drawer_67 rfl) ?_
  refine ah_cons (as_imul C dX12_drawer_68) ?_
  refine ah_cons (as_iald C dX12_drawer_69) ?_
  refine ah_cons (as_sI C (mX12_kindBy hW f) dX12_drawer_70 wt_450 wt_451 wt_446 wt_452 ⟨by decide, by decide, by decide⟩ ⟨by decide, by decide⟩) ?_
  refine ah_cons (as_lim (as_iast C dX12_drawer_73)) ?_
  refine ah_cons (as_gfr C dX12_drawer_75 fgX12_13) ?_
  refine ah_cons (as_iconst C dX12_drawer_78 (by decide)) ?_
  refine ah_cons (as_iload_n C dX12_drawer_79 rfl) ?_
  refine ah_cons (as_imul C dX12_drawer_80) ?_
  refine ah_cons (as_iconst C dX12_drawer_81 (by decide)) ?_
  refine ah_cons (as_iadd C dX12_drawer_82) ?_
  refine ah_cons (as_aload_n C dX12_drawer_83 rfl) ?_
  refine ah_cons (as_gfr C dX12_drawer_84 fgX12_7) ?_
  refine ah_cons (as_iconst C dX12_drawer_87 (by decide)) ?_
  refine ah_cons (as_iload_n C dX12_drawer_88 rfl) ?_
  refine ah_cons (as_imul C dX12_drawer_89) ?_
  refine ah_cons (as_iconst C dX12_drawer_90 (by decide)) ?_
  refine ah_cons (as_iadd C dX12_drawer_91) ?_
  refine ah_cons (as_iald C dX12_drawer_92) ?_
  refine ah_cons (as_bipush C dX12_drawer_93 (by decide)) ?_
  refine ah_cons (as_isub C dX12_drawer_95) ?_
  refine ah_cons (as_lim (as_iast C dX12_drawer_96)) ?_
  refine ah_cons (as_gfr C dX12_drawer_98 fgX12_16) ?_
  refine ah_cons (as_iload_n C dX12_drawer_101 rfl) ?_
  refine ah_cons (as_aload_n C dX12_drawer_102 rfl) ?_
  refine ah_cons (as_gfr C dX12_drawer_103 fgX12_7) ?_
  refine ah_cons (as_iconst C dX12_drawer_106 (by decide)) ?_
  refine ah_cons (as_iload_n C dX12_drawer_107 rfl) ?_
  refine ah_cons (as_imul C dX12_drawer_108) ?_
  refine ah_cons (as_iconst C dX12_drawer_109 (by decide)) ?_
  refine ah_cons (as_iadd C dX12_drawer_110) ?_
  refine ah_cons (as_iald C dX12_drawer_111) ?_
  refine ah_cons (as_bipush C dX12_drawer_112 (by decide)) ?_
  refine ah_cons (as_isub C dX12_drawer_114) ?_
  refine ah_cons (as_lim (as_iast C dX12_drawer_115)) ?_
  refine ah_cons (as_gfr C dX12_drawer_117 fgX12_19) ?_
  refine ah_cons (as_iload_n C dX12_drawer_120 rfl) ?_
  refine ah_cons (as_aload_n C dX12_drawer_121 rfl) ?_
  refine ah_cons (as_gfr C dX12_drawer_122 fgX12_7) ?_
  refine ah_cons (as_iconst C dX12_drawer_125 (by decide)) ?_
  refine ah_cons (as_iload_n C dX12_drawer_126 rfl) ?_
  refine ah_cons (as_imul C dX12_drawer_127) ?_
  refine ah_cons (as_iconst C dX12_drawer_128 (by decide)) ?_
  refine ah_cons (as_iadd C dX12_drawer_129) ?_
  refine ah_cons (as_iald C dX12_drawer_130) ?_
  refine ah_cons (as_bipush C dX12_drawer_131 (by decide)) ?_
  refine ah_cons (as_isub C dX12_drawer_133) ?_
  refine ah_cons (as_iast C dX12_drawer_134) ?_
  refine ah_cons (as_aload_n C dX12_drawer_135 rfl) ?_
  refine ah_cons (as_gfr C dX12_drawer_136 fgX12_22) ?_
  refine ah_cons (as_iload_n C dX12_drawer_139 rfl) ?_
  refine ah_cons (as_iconst C dX12_drawer_140 (by decide)) ?_
  refine ah_cons (as_iast C dX12_drawer_141) ?_
  refine ah_cons (as_iinc C dX12_drawer_142 (by decide) (by decide)) ?_
  refine ah_cons (as_lim (as_goto C dX12_drawer_145 (by decide))) ?_
  refine ah_cons (as_iconst C dX12_drawer_149 (by decide)) ?_
  refine ah_cons (as_pfi C dX12_drawer_150 fpX12_88) ?_
  refine ah_cons (as_aload_n C dX12_drawer_153 rfl) ?_
  refine ah_cons (as_iconst C dX12_drawer_154 (by decide)) ?_
  refine ah_cons (as_pfi C dX12_drawer_155 fpX12_91) ?_
  refine ah_cons (as_aload_n C dX12_drawer_158 rfl) ?_
  refine ah_cons (as_iconst C dX12_drawer_159 (by decide)) ?_
  refine ah_cons (as_pfi C dX12_drawer_160 fpX12_94) ?_
  refine ah_cons (as_aload_n C dX12_drawer_163 rfl) ?_
  refine ah_cons (as_iconst C dX12_drawer_164 (by decide)) ?_
  refine ah_cons (as_pfi C dX12_drawer_165 fpX12_97) ?_
  refine ah_cons (as_aload_n C dX12_drawer_168 rfl) ?_
  refine ah_cons (as_iconst C dX12_drawer_169 (by decide)) ?_
  refine ah_cons (as_pfi C dX12_drawer_170 fpX12_100) ?_
  refine ah_cons (as_aload_n C dX12_drawer_173 rfl) ?_
  refine ah_cons (as_dupR C dX12_drawer_174) ?_
  refine ah_cons (as_gfi C dX12_drawer_175 fgX12_103) ?_
  refine ah_cons (as_iconst C dX12_drawer_178 (by decide)) ?_
  refine ah_cons (as_iadd C dX12_drawer_179) ?_
  refine ah_cons (as_pfi C dX12_drawer_180 fpX12_103) ?_
  refine ah_cons (as_aload_n C dX12_drawer_183 rfl) ?_
  refine ah_cons (as_iconst C dX12_drawer_184 (by decide)) ?_
  refine ah_cons (as_pfi C dX12_drawer_185 fpX12_62) ?_
  refine ah_cons (as_aload_n C dX12_drawer_188 rfl) ?_
  refine ah_cons (as_gfi C dX12_drawer_189 fgX12_85) ?_
  refine ah_cons (as_iret C rfl dX12_drawer_192) ?_
  exact ah_nil
def kX12_lacks (f : Nat) : List (Nat × ah_S) := [
  (0, ah_ald 0 1),
  (1, ah_gfi [12] 2 4),
  (4, ah_zeq 7 11),
  (7, ah_push (.int (1)) 8),
  (8, ah_goto 12),
  (11, ah_push (.int (0)) 12),
  (12, ah_zret)]
def aX12_lacks (f : Nat) : ah_F := ah_fun (kX12_lacks f) 1 f
set_option maxRecDepth 100000 in
set_option maxHeartbeats 4000000 in
theorem mX12_lacks {l : Launch} {s0 : State} {D : va_G} {tc : Nat → ClassId} {ad : Nat → Nat} {A : Nat → Prop} (hW : ah_W0 s0 ad A) (f : Nat) : ah_Met l s0 D tc ad A yX12_lacks cX12_lacks 1 (some .boolean) 0 0 (aX12_lacks f) := by
  refine ah_met hW.1 (by decide) (fun p e s m args below meth c res C => ?_)
  refine ah_cons (as_aload_n C dX12_lacks_0 rfl) ?_
  refine ah_cons (as_gfi C dX12_lacks_1 fgX12_85) ?_
  refine ah_cons (as_if_ne C dX12_lacks_4 (by decide)) ?_
  refine ah_cons (as_iconst C dX12_lacks_7 (by decide)) ?_
  refine ah_cons (as_goto C dX12_lacks_8 (by decide)) ?_
  refine ah_cons (as_iconst C dX12_lacks_11 (by decide)) ?_
  refine ah_cons (as_zret C rfl dX12_lacks_12) ?_
  exact ah_nil
def kX12_isSingle (f : Nat) : List (Nat × ah_S) := [
  (0, ah_ild 1 1),
  (1, ah_i2l 2),
  (2, ah_push (.long (0)) 3),
  (3, ah_ald 0 4),
  (4, ah_gfi [12] 2 7),
  (7, ah_push (.int (1)) 8),
  (8, ah_bin (fun x y => x - y) 9),
  (9, ah_i2l 10),
  (10, ah_sI (aX12_in f) 3 13),
  (13, ah_zret)]
def aX12_isSingle (f : Nat) : ah_F := ah_fun (kX12_isSingle f) 2 f
set_option maxRecDepth 100000 in
set_option maxHeartbeats 4000000 in
theorem mX12_isSingle {l : Launch} {s0 : State} {D : va_G} {tc : Nat → ClassId} {ad : Nat → Nat} {A : Nat → Prop} (hW : ah_W0 s0 ad A) (f : Nat) : ah_Met l s0 D tc ad A yX12_isSingle cX12_isSingle 2 (some .boolean) 1 25 (aX12_isSingle f) := by
  refine ah_met hW.1 (by decide) (fun p e s m args below meth c res C => ?_)
  refine ah_cons (as_iload_n C dX12_isSingle_0 rfl) ?_
  refine ah_cons (as_i2l C dX12_isSingle_1) ?_
  refine ah_cons (as_lconst C dX12_isSingle_2 (by decide)) ?_
  refine ah_cons (as_aload_n C dX12_isSingle_3 rfl) ?_
  refine ah_cons (as_gfi C dX12_isSingle_4 fgX12_85) ?_
  refine ah_cons (as_iconst C dX12_isSingle_7 (by decide)) ?_
  refine ah_cons (as_isub C dX12_isSingle_8) ?_
  refine ah_cons (as_i2l C dX12_isSingle_9) ?_
  refine ah_cons (as_sI C (mX12_in hW f) dX12_isSingle_10 wt_444 wt_445 wt_446 wt_447 ⟨by decide, by decide, by decide⟩ ⟨by decide, by decide⟩) ?_
  refine ah_cons (as_zret C rfl dX12_isSingle_13) ?_
  exact ah_nil
def kX12_areTwo (f : Nat) : List (Nat × ah_S) := [
  (0, ah_ald 0 1),
  (1, ah_ild 1 2),
  (2, ah_vI [(12, aX12_isSingle f)] 2 5),
  (5, ah_zeq 25 8),
  (8, ah_ald 0 9),
  (9, ah_ild 2 10),
  (10, ah_vI [(12, aX12_isSingle f)] 2 13),
  (13, ah_zeq 25 16),
  (16, ah_ild 1 17),
  (17, ah_ild 2 18),
  (18, ah_ceq 25 21),
  (21, ah_push (.int (1)) 22),
  (22, ah_goto 26),
  (25, ah_push (.int (0)) 26),
  (26, ah_zret)]
def aX12_areTwo (f : Nat) : ah_F := ah_fun (kX12_areTwo f) 3 f
set_option maxRecDepth 100000 in
set_option maxHeartbeats 4000000 in
theorem mX12_areTwo {l : Launch} {s0 : State} {D : va_G} {tc : Nat → ClassId} {ad : Nat → Nat} {A : Nat → Prop} (hW : ah_W0 s0 ad A) (f : Nat) : ah_Met l s0 D tc ad A yX12_areTwo cX12_areTwo 3 (some .boolean) 2 46 (aX12_areTwo f) := by
  refine ah_met hW.1 (by decide) (fun p e s m args below meth c res C => ?_)
  refine ah_cons (as_aload_n C dX12_areTwo_0 rfl) ?_
  refine ah_cons (as_iload_n C dX12_areTwo_1 rfl) ?_
  refine ah_cons (as_vI (ah_t1 (ah_okV (n := 1) C (mX12_isSingle hW f) dX12_areTwo_2 (ci := 12) rfl wt_475 wt_477 wt_476 wt_446 wt_478 ⟨by decide, by decide, by decide, by decide⟩ ⟨by decide, by decide⟩) ah_t0)) ?_
  refine ah_cons (as_if_eq C dX12_areTwo_5 (by decide)) ?_
  refine ah_cons (as_aload_n C dX12_areTwo_8 rfl) ?_
  refine ah_cons (as_iload_n C dX12_areTwo_9 rfl) ?_
  refine ah_cons (as_vI (ah_t1 (ah_okV (n := 1) C (mX12_isSingle hW f) dX12_areTwo_10 (ci := 12) rfl wt_475 wt_477 wt_476 wt_446 wt_478 ⟨by decide, by decide, by decide, by decide⟩ ⟨by decide, by decide⟩) ah_t0)) ?_
  refine ah_cons (as_if_eq C dX12_areTwo_13 (by decide)) ?_
  refine ah_cons (as_iload_n C dX12_areTwo_16 rfl) ?_
  refine ah_cons (as_iload_n C dX12_areTwo_17 rfl) ?_
  refine ah_cons (as_icmp_eq C dX12_areTwo_18 (by decide)) ?_
  refine ah_cons (as_iconst C dX12_areTwo_21 (by decide)) ?_
  refine ah_cons (as_goto C dX12_areTwo_22 (by decide)) ?_
  refine ah_cons (as_iconst C dX12_areTwo_25 (by decide)) ?_
  refine ah_cons (as_zret C rfl dX12_areTwo_26) ?_
  exact ah_nil
def kX12_isGlove (f : Nat) : List (Nat × ah_S) := [
  (0, ah_ald 0 1),
  (1, ah_gfr [12] 8 4),
  (4, ah_push (.int (2)) 5),
  (5, ah_ild 1 6),
  (6, ah_bin (fun x y => x * y) 7),
  (7, ah_iald 0 8),
  (8, ah_push (.int (1)) 9),
  (9, ah_ceq 24 12),
  (12, ah_ald 0 13),
  (13, ah_gfr [12] 8 16),
  (16, ah_push (.int (2)) 17),
  (17, ah_ild 1 18),
  (18, ah_bin (fun x y => x * y) 19),
  (19, ah_iald 0 20),
  (20, ah_push (.int (4)) 21),
  (21, ah_ceq 24 28),
  (24, ah_push (.int (1)) 25),
  (25, ah_goto 29),
  (28, ah_push (.int (0)) 29),
  (29, ah_zret)]
def aX12_isGlove (f : Nat) : ah_F := ah_fun (kX12_isGlove f) 2 f
set_option maxRecDepth 100000 in
set_option maxHeartbeats 4000000 in
theorem mX12_isGlove {l : Launch} {s0 : State} {D : va_G} {tc : Nat → ClassId} {ad : Nat → Nat} {A : Nat → Prop} (hW : ah_W0 s0 ad A) (f : Nat) : ah_Met l s0 D tc ad A yX12_isGlove cX12_isGlove 2 (some .boolean) 0 0 (aX12_isGlove f) := by
  refine ah_met hW.1 (by decide) (fun p e s m args below meth c res C => ?_)
  refine ah_cons (as_aload_n C dX12_isGlove_0 rfl) ?_
  refine ah_cons (as_gfr C dX12_isGlove_1 fgX12_13) ?_
  refine ah_cons (as_iconst C dX12_isGlove_4 (by decide)) ?_
  refine ah_cons (as_iload_n C dX12_isGlove_5 rfl) ?_
  refine ah_cons (as_imul C dX12_isGlove_6) ?_
  refine ah_cons (as_iald C dX12_isGlove_7) ?_
  refine ah_cons (as_iconst C dX12_isGlove_8 (by decide)) ?_
  refine ah_cons (as_icmp_eq C dX12_isGlove_9 (by decide)) ?_
  refine ah_cons (as_aload_n C dX12_isGlove_12 rfl) ?_
  refine ah_cons (as_gfr C dX12_isGlove_13 fgX12_13) ?_
  refine ah_cons (as_iconst C dX12_isGlove_16 (by decide)) ?_
  refine ah_cons (as_iload_n C dX12_isGlove_17 rfl) ?_
  refine ah_cons (as_imul C dX12_isGlove_18) ?_
  refine ah_cons (as_iald C dX12_isGlove_19) ?_
  refine ah_cons (as_iconst C dX12_isGlove_20 (by decide)) ?_
  refine ah_cons (as_icmp_ne C dX12_isGlove_21 (by decide)) ?_
  refine ah_cons (as_iconst C dX12_isGlove_24 (by decide)) ?_
  refine ah_cons (as_goto C dX12_isGlove_25 (by decide)) ?_
  refine ah_cons (as_iconst C dX12_isGlove_28 (by decide)) ?_
  refine ah_cons (as_zret C rfl dX12_isGlove_29) ?_
  exact ah_nil
def kX12_takes (f : Nat) : List (Nat × ah_S) := [
  (28, ah_ist 3 29),
  (0, ah_ald 0 1),
  (1, ah_gfr [12] 8 4),
  (4, ah_push (.int (2)) 5),
  (5, ah_ild 1 6),
  (6, ah_bin (fun x y => x * y) 7),
  (7, ah_push (.int (1)) 8),
  (8, ah_bin (fun x y => x + y) 9),
  (9, ah_iald 0 10),
  (10, ah_ald 0 11),
  (11, ah_gfr [12] 8 14),
  (14, ah_push (.int (2)) 15),
  (15, ah_ild 2 16),
  (16, ah_bin (fun x y => x * y) 17),
  (17, ah_push (.int (1)) 18),
  (18, ah_bin (fun x y => x + y) 19),
  (19, ah_iald 0 20),
  (20, ah_ceq 27 23),
  (23, ah_push (.int (1)) 24),
  (24, ah_lim 28 [0, 1, 2] (ah_goto 28)),
  (27, ah_lim 28 [0, 1, 2] (ah_push (.int (0)) 28)),
  (29, ah_ald 0 30),
  (30, ah_gfr [12] 8 33),
  (33, ah_push (.int (2)) 34),
  (34, ah_ild 1 35),
  (35, ah_bin (fun x y => x * y) 36),
  (36, ah_iald 0 37),
  (37, ah_sw [(1, 68), (2, 86), (3, 104), (4, 68)] 129),
  (68, ah_ild 3 69),
  (69, ah_zeq 84 72),
  (72, ah_ald 0 73),
  (73, ah_ild 2 74),
  (74, ah_vI [(12, aX12_isGlove f)] 2 77),
  (77, ah_zeq 84 80),
  (80, ah_push (.int (1)) 81),
  (81, ah_goto 85),
  (84, ah_push (.int (0)) 85),
  (85, ah_zret),
  (86, ah_ald 0 87),
  (87, ah_gfr [12] 8 90),
  (90, ah_push (.int (2)) 91),
  (91, ah_ild 2 92),
  (92, ah_bin (fun x y => x * y) 93),
  (93, ah_iald 0 94),
  (94, ah_push (.int (2)) 95),
  (95, ah_ceq 98 102),
  (98, ah_push (.int (1)) 99),
  (99, ah_goto 103),
  (102, ah_push (.int (0)) 103),
  (103, ah_zret),
  (104, ah_ild 3 105),
  (105, ah_zeq 127 108),
  (108, ah_ald 0 109),
  (109, ah_gfr [12] 9 112),
  (112, ah_ild 1 113),
  (113, ah_iald 0 114),
  (114, ah_ald 0 115),
  (115, ah_gfr [12] 9 118),
  (118, ah_ild 2 119),
  (119, ah_iald 0 120),
  (120, ah_ceq 123 127),
  (123, ah_push (.int (1)) 124),
  (124, ah_goto 128),
  (127, ah_push (.int (0)) 128),
  (128, ah_zret),
  (129, ah_ild 3 130),
  (130, ah_zret)]
def aX12_takes (f : Nat) : ah_F := ah_fun (kX12_takes f) 4 f
set_option maxRecDepth 100000 in
set_option maxHeartbeats 4000000 in
theorem mX12_takes {l : Launch} {s0 : State} {D : va_G} {tc : Nat → ClassId} {ad : Nat → Nat} {A : Nat → Prop} (hW : ah_W0 s0 ad A) (f : Nat) : ah_Met l s0 D tc ad A yX12_takes cX12_takes 4 (some .boolean) 1 21 (aX12_takes f) := by
  refine ah_met hW.1 (by decide) (fun p e s m args below meth c res C => ?_)
  refine ah_cons (as_istore_n C dX12_takes_28 rfl (by decide)) ?_
  refine ah_cons (as_aload_n C dX12_takes_0 rfl) ?_
  refine ah_cons (as_gfr C dX12_takes_1 fgX12_13) ?_
  refine ah_cons (as_iconst C dX12_takes_4 (by decide)) ?_
  refine ah_cons (as_iload_n C dX12_takes_5 rfl) ?_
  refine ah_cons (as_imul C dX12_takes_6) ?_
  refine ah_cons (as_iconst C dX12_takes_7 (by decide)) ?_
  refine ah_cons (as_iadd C dX12_takes_8) ?_
  refine ah_cons (as_iald C dX12_takes_9) ?_
  refine ah_cons (as_aload_n C dX12_takes_10 rfl) ?_
  refine ah_cons (as_gfr C dX12_takes_11 fgX12_13) ?_
  refine ah_cons (as_iconst C dX12_takes_14 (by decide)) ?_
  refine ah_cons (as_iload_n C dX12_takes_15 rfl) ?_
  refine ah_cons (as_imul C dX12_takes_16) ?_
  refine ah_cons (as_iconst C dX12_takes_17 (by decide)) ?_
  refine ah_cons (as_iadd C dX12_takes_18) ?_
  refine ah_cons (as_iald C dX12_takes_19) ?_
  refine ah_cons (as_icmp_eq C dX12_takes_20 (by decide)) ?_
  refine ah_cons (as_iconst C dX12_takes_23 (by decide)) ?_
  refine ah_cons (as_lim (as_goto C dX12_takes_24 (by decide))) ?_
  refine ah_cons (as_lim (as_iconst C dX12_takes_27 (by decide))) ?_
  refine ah_cons (as_aload_n C dX12_takes_29 rfl) ?_
  refine ah_cons (as_gfr C dX12_takes_30 fgX12_13) ?_
  refine ah_cons (as_iconst C dX12_takes_33 (by decide)) ?_
  refine ah_cons (as_iload_n C dX12_takes_34 rfl) ?_
  refine ah_cons (as_imul C dX12_takes_35) ?_
  refine ah_cons (as_iald C dX12_takes_36) ?_
  refine ah_cons (as_tsw C dX12_takes_37 (by decide) (by decide) (by decide)) ?_
  refine ah_cons (as_iload_n C dX12_takes_68 rfl) ?_
  refine ah_cons (as_if_eq C dX12_takes_69 (by decide)) ?_
  refine ah_cons (as_aload_n C dX12_takes_72 rfl) ?_
  refine ah_cons (as_iload_n C dX12_takes_73 rfl) ?_
  refine ah_cons (as_vI (ah_t1 (ah_okV (n := 1) C (mX12_isGlove hW f) dX12_takes_74 (ci := 12) rfl wt_479 wt_481 wt_480 wt_446 wt_482 ⟨by decide, by decide, by decide, by decide⟩ ⟨by decide, by decide⟩) ah_t0)) ?_
  refine ah_cons (as_if_eq C dX12_takes_77 (by decide)) ?_
  refine ah_cons (as_iconst C dX12_takes_80 (by decide)) ?_
  refine ah_cons (as_goto C dX12_takes_81 (by decide)) ?_
  refine ah_cons (as_iconst C dX12_takes_84 (by decide)) ?_
  refine ah_cons (as_zret C rfl dX12_takes_85) ?_
  refine ah_cons (as_aload_n C dX12_takes_86 rfl) ?_
  refine ah_cons (as_gfr C dX12_takes_87 fgX12_13) ?_
  refine ah_cons (as_iconst C dX12_takes_90 (by decide)) ?_
  refine ah_cons (as_iload_n C dX12_takes_91 rfl) ?_
  refine ah_cons (as_imul C dX12_takes_92) ?_
  refine ah_cons (as_iald C dX12_takes_93) ?_
  refine ah_cons (as_iconst C dX12_takes_94 (by decide)) ?_
  refine ah_cons (as_icmp_ne C dX12_takes_95 (by decide)) ?_
  refine ah_cons (as_iconst C dX12_takes_98 (by decide)) ?_
  refine ah_cons (as_goto C dX12_takes_99 (by decide)) ?_
  refine ah_cons (as_iconst C dX12_takes_102 (by decide)) ?_
  refine ah_cons (as_zret C rfl dX12_takes_103) ?_
  refine ah_cons (as_iload_n C dX12_takes_104 rfl) ?_
  refine ah_cons (as_if_eq C dX12_takes_105 (by decide)) ?_
  refine ah_cons (as_aload_n C dX12_takes_108 rfl) ?_
  refine ah_cons (as_gfr C dX12_takes_109 fgX12_16) ?_
  refine ah_cons (as_iload_n C dX12_takes_112 rfl) ?_
  refine ah_cons (as_iald C dX12_takes_113) ?_
  refine ah_cons (as_aload_n C dX12_takes_114 rfl) ?_
  refine ah_cons (as_gfr C dX12_takes_115 fgX12_16) ?_
  refine ah_cons (as_iload_n C dX12_takes_118 rfl) ?_
  refine ah_cons (as_iald C dX12_takes_119) ?_
  refine ah_cons (as_icmp_ne C dX12_takes_120 (by decide)) ?_
  refine ah_cons (as_iconst C dX12_takes_123 (by decide)) ?_
  refine ah_cons (as_goto C dX12_takes_124 (by decide)) ?_
  refine ah_cons (as_iconst C dX12_takes_127 (by decide)) ?_
  refine ah_cons (as_zret C rfl dX12_takes_128) ?_
  refine ah_cons (as_iload_n C dX12_takes_129 rfl) ?_
  refine ah_cons (as_zret C rfl dX12_takes_130) ?_
  exact ah_nil
def kX12_mayBe (f : Nat) : List (Nat × ah_S) := [
  (0, ah_ild 1 1),
  (1, ah_ild 2 2),
  (2, ah_ceq 27 5),
  (5, ah_ald 0 6),
  (6, ah_ild 1 7),
  (7, ah_ild 2 8),
  (8, ah_vI [(12, aX12_takes f)] 3 11),
  (11, ah_zeq 27 14),
  (14, ah_ald 0 15),
  (15, ah_ild 2 16),
  (16, ah_ild 1 17),
  (17, ah_vI [(12, aX12_takes f)] 3 20),
  (20, ah_zeq 27 23),
  (23, ah_push (.int (1)) 24),
  (24, ah_goto 28),
  (27, ah_push (.int (0)) 28),
  (28, ah_zret)]
def aX12_mayBe (f : Nat) : ah_F := ah_fun (kX12_mayBe f) 3 f
set_option maxRecDepth 100000 in
set_option maxHeartbeats 4000000 in
theorem mX12_mayBe {l : Launch} {s0 : State} {D : va_G} {tc : Nat → ClassId} {ad : Nat → Nat} {A : Nat → Prop} (hW : ah_W0 s0 ad A) (f : Nat) : ah_Met l s0 D tc ad A yX12_mayBe cX12_mayBe 3 (some .boolean) 2 44 (aX12_mayBe f) := by
  refine ah_met hW.1 (by decide) (fun p e s m args below meth c res C => ?_)
  refine ah_cons (as_iload_n C dX12_mayBe_0 rfl) ?_
  refine ah_cons (as_iload_n C dX12_mayBe_1 rfl) ?_
  refine ah_cons (as_icmp_eq C dX12_mayBe_2 (by decide)) ?_
  refine ah_cons (as_aload_n C dX12_mayBe_5 rfl) ?_
  refine ah_cons (as_iload_n C dX12_mayBe_6 rfl) ?_
  refine ah_cons (as_iload_n C dX12_mayBe_7 rfl) ?_
  refine ah_cons (as_vI (ah_t1 (ah_okV (n := 2) C (mX12_takes hW f) dX12_mayBe_8 (ci := 12) rfl wt_483 wt_485 wt_484 wt_446 wt_486 ⟨by decide, by decide, by decide, by decide⟩ ⟨by decide, by decide⟩) ah_t0)) ?_
  refine ah_cons (as_if_eq C dX12_mayBe_11 (by decide)) ?_
  refine ah_cons (as_aload_n C dX12_mayBe_14 rfl) ?_
  refine ah_cons (as_iload_n C dX12_mayBe_15 rfl) ?_
  refine ah_cons (as_iload_n C dX12_mayBe_16 rfl) ?_
  refine ah_cons (as_vI (ah_t1 (ah_okV (n := 2) C (mX12_takes hW f) dX12_mayBe_17 (ci := 12) rfl wt_483 wt_485 wt_484 wt_446 wt_486 ⟨by decide, by decide, by decide, by decide⟩ ⟨by decide, by decide⟩) ah_t0)) ?_
  refine ah_cons (as_if_eq C dX12_mayBe_20 (by decide)) ?_
  refine ah_cons (as_iconst C dX12_mayBe_23 (by decide)) ?_
  refine ah_cons (as_goto C dX12_mayBe_24 (by decide)) ?_
  refine ah_cons (as_iconst C dX12_mayBe_27 (by decide)) ?_
  refine ah_cons (as_zret C rfl dX12_mayBe_28) ?_
  exact ah_nil
def kX12_apartOf (f : Nat) : List (Nat × ah_S) := [
  (0, ah_ald 0 1),
  (1, ah_gfr [12] 9 4),
  (4, ah_ild 1 5),
  (5, ah_iald 0 6),
  (6, ah_ald 0 7),
  (7, ah_gfr [12] 9 10),
  (10, ah_ild 2 11),
  (11, ah_iald 0 12),
  (12, ah_sI (aX12_far f) 2 15),
  (15, ah_ist 3 16),
  (16, ah_ald 0 17),
  (17, ah_gfr [12] 8 20),
  (20, ah_push (.int (2)) 21),
  (21, ah_ild 1 22),
  (22, ah_bin (fun x y => x * y) 23),
  (23, ah_iald 0 24),
  (24, ah_push (.int (4)) 25),
  (25, ah_ceq 28 34),
  (28, ah_ild 3 29),
  (29, ah_push (.int (2)) 30),
  (30, ah_div 31),
  (31, ah_goto 35),
  (34, ah_ild 3 35),
  (35, ah_iret)]
def aX12_apartOf (f : Nat) : ah_F := ah_fun (kX12_apartOf f) 4 f
set_option maxRecDepth 100000 in
set_option maxHeartbeats 4000000 in
theorem mX12_apartOf {l : Launch} {s0 : State} {D : va_G} {tc : Nat → ClassId} {ad : Nat → Nat} {A : Nat → Prop} (hW : ah_W0 s0 ad A) (f : Nat) : ah_Met l s0 D tc ad A yX12_apartOf cX12_apartOf 4 (some .int) 1 21 (aX12_apartOf f) := by
  refine ah_met hW.1 (by decide) (fun p e s m args below meth c res C => ?_)
  refine ah_cons (as_aload_n C dX12_apartOf_0 rfl) ?_
  refine ah_cons (as_gfr C dX12_apartOf_1 fgX12_16) ?_
  refine ah_cons (as_iload_n C dX12_apartOf_4 rfl) ?_
  refine ah_cons (as_iald C dX12_apartOf_5) ?_
  refine ah_cons (as_aload_n C dX12_apartOf_6 rfl) ?_
  refine ah_cons (as_gfr C dX12_apartOf_7 fgX12_16) ?_
  refine ah_cons (as_iload_n C dX12_apartOf_10 rfl) ?_
  refine ah_cons (as_iald C dX12_apartOf_11) ?_
  refine ah_cons (as_sI C (mX12_far hW f) dX12_apartOf_12 wt_487 wt_488 wt_446 wt_489 ⟨by decide, by decide, by decide⟩ ⟨by decide, by decide⟩) ?_
  refine ah_cons (as_istore_n C dX12_apartOf_15 rfl (by decide)) ?_
  refine ah_cons (as_aload_n C dX12_apartOf_16 rfl) ?_
  refine ah_cons (as_gfr C dX12_apartOf_17 fgX12_13) ?_
  refine ah_cons (as_iconst C dX12_apartOf_20 (by decide)) ?_
  refine ah_cons (as_iload_n C dX12_apartOf_21 rfl) ?_
  refine ah_cons (as_imul C dX12_apartOf_22) ?_
  refine ah_cons (as_iald C dX12_apartOf_23) ?_
  refine ah_cons (as_iconst C dX12_apartOf_24 (by decide)) ?_
  refine ah_cons (as_icmp_ne C dX12_apartOf_25 (by decide)) ?_
  refine ah_cons (as_iload_n C dX12_apartOf_28 rfl) ?_
  refine ah_cons (as_iconst C dX12_apartOf_29 (by decide)) ?_
  refine ah_cons (as_idiv C dX12_apartOf_30) ?_
  refine ah_cons (as_goto C dX12_apartOf_31 (by decide)) ?_
  refine ah_cons (as_iload_n C dX12_apartOf_34 rfl) ?_
  refine ah_cons (as_iret C rfl dX12_apartOf_35) ?_
  exact ah_nil
def kX12_likenessOf (f : Nat) : List (Nat × ah_S) := [
  (0, ah_ald 0 1),
  (1, ah_ild 1 2),
  (2, ah_ild 2 3),
  (3, ah_vI [(12, aX12_mayBe f)] 3 6),
  (6, ah_zeq 28 9),
  (9, ah_push (.int (18)) 11),
  (11, ah_ald 0 12),
  (12, ah_ild 1 13),
  (13, ah_ild 2 14),
  (14, ah_vI [(12, aX12_apartOf f)] 3 17),
  (17, ah_bin (fun x y => x - y) 18),
  (18, ah_ald 0 19),
  (19, ah_ild 2 20),
  (20, ah_ild 1 21),
  (21, ah_vI [(12, aX12_apartOf f)] 3 24),
  (24, ah_bin (fun x y => x - y) 25),
  (25, ah_goto 29),
  (28, ah_push (.int (-1)) 29),
  (29, ah_iret)]
def aX12_likenessOf (f : Nat) : ah_F := ah_fun (kX12_likenessOf f) 3 f
set_option maxRecDepth 100000 in
set_option maxHeartbeats 4000000 in
theorem mX12_likenessOf {l : Launch} {s0 : State} {D : va_G} {tc : Nat → ClassId} {ad : Nat → Nat} {A : Nat → Prop} (hW : ah_W0 s0 ad A) (f : Nat) : ah_Met l s0 D tc ad A yX12_likenessOf cX12_likenessOf 3 (some .int) 3 66 (aX12_likenessOf f) := by
  refine ah_met hW.1 (by decide) (fun p e s m args below meth c res C => ?_)
  refine ah_cons (as_aload_n C dX12_likenessOf_0 rfl) ?_
  refine ah_cons (as_iload_n C dX12_likenessOf_1 rfl) ?_
  refine ah_cons (as_iload_n C dX12_likenessOf_2 rfl) ?_
  refine ah_cons (as_vI (ah_t1 (ah_okV (n := 2) C (mX12_mayBe hW f) dX12_likenessOf_3 (ci := 12) rfl wt_490 wt_492 wt_491 wt_446 wt_493 ⟨by decide, by decide, by decide, by decide⟩ ⟨by decide, by decide⟩) ah_t0)) ?_
  refine ah_cons (as_if_eq C dX12_likenessOf_6 (by decide)) ?_
  refine ah_cons (as_bipush C dX12_likenessOf_9 (by decide)) ?_
  refine ah_cons (as_aload_n C dX12_likenessOf_11 rfl) ?_
  refine ah_cons (as_iload_n C dX12_likenessOf_12 rfl) ?_
  refine ah_cons (as_iload_n C dX12_likenessOf_13 rfl) ?_
  refine ah_cons (as_vI (ah_t1 (ah_okV (n := 2) C (mX12_apartOf hW f) dX12_likenessOf_14 (ci := 12) rfl wt_494 wt_496 wt_495 wt_446 wt_497 ⟨by decide, by decide, by decide, by decide⟩ ⟨by decide, by decide⟩) ah_t0)) ?_
  refine ah_cons (as_isub C dX12_likenessOf_17) ?_
  refine ah_cons (as_aload_n C dX12_likenessOf_18 rfl) ?_
  refine ah_cons (as_iload_n C dX12_likenessOf_19 rfl) ?_
  refine ah_cons (as_iload_n C dX12_likenessOf_20 rfl) ?_
  refine ah_cons (as_vI (ah_t1 (ah_okV (n := 2) C (mX12_apartOf hW f) dX12_likenessOf_21 (ci := 12) rfl wt_494 wt_496 wt_495 wt_446 wt_497 ⟨by decide, by decide, by decide, by decide⟩ ⟨by decide, by decide⟩) ah_t0)) ?_
  refine ah_cons (as_isub C dX12_likenessOf_24) ?_
  refine ah_cons (as_goto C dX12_likenessOf_25 (by decide)) ?_
  refine ah_cons (as_iconst C dX12_likenessOf_28 (by decide)) ?_
  refine ah_cons (as_iret C rfl dX12_likenessOf_29) ?_
  exact ah_nil
def kX12_prefers (f : Nat) : List (Nat × ah_S) := [
  (0, ah_ild 3 1),
  (1, ah_push (.int (-1)) 2),
  (2, ah_ceq 5 7),
  (5, ah_push (.int (1)) 6),
  (6, ah_zret),
  (7, ah_ald 0 8),
  (8, ah_ild 1 9),
  (9, ah_ild 2 10),
  (10, ah_vI [(12, aX12_likenessOf f)] 3 13),
  (13, ah_ald 0 14),
  (14, ah_ild 1 15),
  (15, ah_ild 3 16),
  (16, ah_vI [(12, aX12_likenessOf f)] 3 19),
  (19, ah_bin (fun x y => x - y) 20),
  (20, ah_ist 4 22),
  (22, ah_ild 4 24),
  (24, ah_zgt 37 27),
  (27, ah_ild 4 29),
  (29, ah_zeq 32 41),
  (32, ah_ild 2 33),
  (33, ah_ild 3 34),
  (34, ah_clt 37 41),
  (37, ah_push (.int (1)) 38),
  (38, ah_goto 42),
  (41, ah_push (.int (0)) 42),
  (42, ah_zret)]
def aX12_prefers (f : Nat) : ah_F := ah_fun (kX12_prefers f) 5 f
set_option maxRecDepth 100000 in
set_option maxHeartbeats 4000000 in
theorem mX12_prefers {l : Launch} {s0 : State} {D : va_G} {tc : Nat → ClassId} {ad : Nat → Nat} {A : Nat → Prop} (hW : ah_W0 s0 ad A) (f : Nat) : ah_Met l s0 D tc ad A yX12_prefers cX12_prefers 5 (some .boolean) 4 88 (aX12_prefers f) := by
  refine ah_met hW.1 (by decide) (fun p e s m args below meth c res C => ?_)
  refine ah_cons (as_iload_n C dX12_prefers_0 rfl) ?_
  refine ah_cons (as_iconst C dX12_prefers_1 (by decide)) ?_
  refine ah_cons (as_icmp_ne C dX12_prefers_2 (by decide)) ?_
  refine ah_cons (as_iconst C dX12_prefers_5 (by decide)) ?_
  refine ah_cons (as_zret C rfl dX12_prefers_6) ?_
  refine ah_cons (as_aload_n C dX12_prefers_7 rfl) ?_
  refine ah_cons (as_iload_n C dX12_prefers_8 rfl) ?_
  refine ah_cons (as_iload_n C dX12_prefers_9 rfl) ?_
  refine ah_cons (as_vI (ah_t1 (ah_okV (n := 2) C (mX12_likenessOf hW f) dX12_prefers_10 (ci := 12) rfl wt_498 wt_500 wt_499 wt_446 wt_501 ⟨by decide, by decide, by decide, by decide⟩ ⟨by decide, by decide⟩) ah_t0)) ?_
  refine ah_cons (as_aload_n C dX12_prefers_13 rfl) ?_
  refine ah_cons (as_iload_n C dX12_prefers_14 rfl) ?_
  refine ah_cons (as_iload_n C dX12_prefers_15 rfl) ?_
  refine ah_cons (as_vI (ah_t1 (ah_okV (n := 2) C (mX12_likenessOf hW f) dX12_prefers_16 (ci := 12) rfl wt_498 wt_500 wt_499 wt_446 wt_501 ⟨by decide, by decide, by decide, by decide⟩ ⟨by decide, by decide⟩) ah_t0)) ?_
  refine ah_cons (as_isub C dX12_prefers_19) ?_
  refine ah_cons (as_istore C dX12_prefers_20 (by decide)) ?_
  refine ah_cons (as_iload C dX12_prefers_22) ?_
  refine ah_cons (as_if_gt C dX12_prefers_24 (by decide)) ?_
  refine ah_cons (as_iload C dX12_prefers_27) ?_
  refine ah_cons (as_if_ne C dX12_prefers_29 (by decide)) ?_
  refine ah_cons (as_iload_n C dX12_prefers_32 rfl) ?_
  refine ah_cons (as_iload_n C dX12_prefers_33 rfl) ?_
  refine ah_cons (as_icmp_ge C dX12_prefers_34 (by decide)) ?_
  refine ah_cons (as_iconst C dX12_prefers_37 (by decide)) ?_
  refine ah_cons (as_goto C dX12_prefers_38 (by decide)) ?_
  refine ah_cons (as_iconst C dX12_prefers_41 (by decide)) ?_
  refine ah_cons (as_zret C rfl dX12_prefers_42) ?_
  exact ah_nil
def kX12_mayBits (f : Nat) : List (Nat × ah_S) := [
  (4, ah_ild 3 5),
  (0, ah_push (.int (0)) 1),
  (1, ah_ist 2 2),
  (2, ah_push (.int (0)) 3),
  (3, ah_lim 4 [0, 1, 2, 3] (ah_ist 3 4)),
  (5, ah_ald 0 6),
  (6, ah_gfi [12] 2 9),
  (9, ah_clt 12 37),
  (12, ah_ild 2 13),
  (13, ah_ald 0 14),
  (14, ah_ild 1 15),
  (15, ah_ild 3 16),
  (16, ah_vI [(12, aX12_mayBe f)] 3 19),
  (19, ah_zeq 28 22),
  (22, ah_push (.int (1)) 23),
  (23, ah_ild 3 24),
  (24, ah_bin (fun x y => x <<< (y &&& 31)) 25),
  (25, ah_goto 29),
  (28, ah_push (.int (0)) 29),
  (29, ah_bin (fun x y => x ||| y) 30),
  (30, ah_ist 2 31),
  (31, ah_inc 3 (1) 34),
  (34, ah_lim 4 [0, 1, 2, 3] (ah_goto 4)),
  (37, ah_ild 2 38),
  (38, ah_iret)]
def aX12_mayBits (f : Nat) : ah_F := ah_fun (kX12_mayBits f) 4 f
set_option maxRecDepth 100000 in
set_option maxHeartbeats 4000000 in
theorem mX12_mayBits {l : Launch} {s0 : State} {D : va_G} {tc : Nat → ClassId} {ad : Nat → Nat} {A : Nat → Prop} (hW : ah_W0 s0 ad A) (f : Nat) : ah_Met l s0 D tc ad A yX12_mayBits cX12_mayBits 4 (some .int) 3 66 (aX12_mayBits f) := by
  refine ah_met hW.1 (by decide) (fun p e s m args below meth c res C => ?_)
  refine ah_cons (as_iload_n C dX12_mayBits_4 rfl) ?_
  refine ah_cons (as_iconst C dX12_mayBits_0 (by decide)) ?_
  refine ah_cons (as_istore_n C dX12_mayBits_1 rfl (by decide)) ?_
  refine ah_cons (as_iconst C dX12_mayBits_2 (by decide)) ?_
  refine ah_cons (as_lim (as_istore_n C dX12_mayBits_3 rfl (by decide))) ?_
  refine ah_cons (as_aload_n C dX12_mayBits_5 rfl) ?_
  refine ah_cons (as_gfi C dX12_mayBits_6 fgX12_85) ?_
  refine ah_cons (as_icmp_ge C dX12_mayBits_9 (by decide)) ?_
  refine ah_cons (as_iload_n C dX12_mayBits_12 rfl) ?_
  refine ah_cons (as_aload_n C dX12_mayBits_13 rfl) ?_
  refine ah_cons (as_iload_n C dX12_mayBits_14 rfl) ?_
  refine ah_cons (as_iload_n C dX12_mayBits_15 rfl) ?_
  refine ah_cons (as_vI (ah_t1 (ah_okV (n := 2) C (mX12_mayBe hW f) dX12_mayBits_16 (ci := 12) rfl wt_490 wt_492 wt_491 wt_446 wt_493 ⟨by decide, by decide, by decide, by decide⟩ ⟨by decide, by decide⟩) ah_t0)) ?_
  refine ah_cons (as_if_eq C dX12_mayBits_19 (by decide)) ?_
  refine ah_cons (as_iconst C dX12_mayBits_22 (by decide)) ?_
  refine ah_cons (as_iload_n C dX12_mayBits_23 rfl) ?_
  refine ah_cons (as_ishl C dX12_mayBits_24) ?_
  refine ah_cons (as_goto C dX12_mayBits_25 (by decide)) ?_
  refine ah_cons (as_iconst C dX12_mayBits_28 (by decide)) ?_
  refine ah_cons (as_ior C dX12_mayBits_29) ?_
  refine ah_cons (as_istore_n C dX12_mayBits_30 rfl (by decide)) ?_
  refine ah_cons (as_iinc C dX12_mayBits_31 (by decide) (by decide)) ?_
  refine ah_cons (as_lim (as_goto C dX12_mayBits_34 (by decide))) ?_
  refine ah_cons (as_iload_n C dX12_mayBits_37 rfl) ?_
  refine ah_cons (as_iret C rfl dX12_mayBits_38) ?_
  exact ah_nil
def kX12_preferredOf (f : Nat) : List (Nat × ah_S) := [
  (4, ah_ild 3 5),
  (0, ah_push (.int (-1)) 1),
  (1, ah_ist 2 2),
  (2, ah_push (.int (0)) 3),
  (3, ah_lim 4 [0, 1, 2, 3] (ah_ist 3 4)),
  (5, ah_ald 0 6),
  (6, ah_gfi [12] 2 9),
  (9, ah_clt 12 43),
  (12, ah_ald 0 13),
  (13, ah_ild 1 14),
  (14, ah_ild 3 15),
  (15, ah_vI [(12, aX12_mayBe f)] 3 18),
  (18, ah_zeq 35 21),
  (21, ah_ald 0 22),
  (22, ah_ild 1 23),
  (23, ah_ild 3 24),
  (24, ah_ild 2 25),
  (25, ah_vI [(12, aX12_prefers f)] 4 28),
  (28, ah_zeq 35 31),
  (31, ah_ild 3 32),
  (32, ah_goto 36),
  (35, ah_ild 2 36),
  (36, ah_ist 2 37),
  (37, ah_inc 3 (1) 40),
  (40, ah_lim 4 [0, 1, 2, 3] (ah_goto 4)),
  (43, ah_ild 2 44),
  (44, ah_iret)]
def aX12_preferredOf (f : Nat) : ah_F := ah_fun (kX12_preferredOf f) 4 f
set_option maxRecDepth 100000 in
set_option maxHeartbeats 4000000 in
theorem mX12_preferredOf {l : Launch} {s0 : State} {D : va_G} {tc : Nat → ClassId} {ad : Nat → Nat} {A : Nat → Prop} (hW : ah_W0 s0 ad A) (f : Nat) : ah_Met l s0 D tc ad A yX12_preferredOf cX12_preferredOf 4 (some .int) 5 112 (aX12_preferredOf f) := by
  refine ah_met hW.1 (by decide) (fun p e s m args below meth c res C => ?_)
  refine ah_cons (as_iload_n C dX12_preferredOf_4 rfl) ?_
  refine ah_cons (as_iconst C dX12_preferredOf_0 (by decide)) ?_
  refine ah_cons (as_istore_n C dX12_preferredOf_1 rfl (by decide)) ?_
  refine ah_cons (as_iconst C dX12_preferredOf_2 (by decide)) ?_
  refine ah_cons (as_lim (as_istore_n C dX12_preferredOf_3 rfl (by decide))) ?_
  refine ah_cons (as_aload_n C dX12_preferredOf_5 rfl) ?_
  refine ah_cons (as_gfi C dX12_preferredOf_6 fgX12_85) ?_
  refine ah_cons (as_icmp_ge C dX12_preferredOf_9 (by decide)) ?_
  refine ah_cons (as_aload_n C dX12_preferredOf_12 rfl) ?_
  refine ah_cons (as_iload_n C dX12_preferredOf_13 rfl) ?_
  refine ah_cons (as_iload_n C dX12_preferredOf_14 rfl) ?_
  refine ah_cons (as_vI (ah_t1 (ah_okV (n := 2) C (mX12_mayBe hW f) dX12_preferredOf_15 (ci := 12) rfl wt_490 wt_492 wt_491 wt_446 wt_493 ⟨by decide, by decide, by decide, by decide⟩ ⟨by decide, by decide⟩) ah_t0)) ?_
  refine ah_cons (as_if_eq C dX12_preferredOf_18 (by decide)) ?_
  refine ah_cons (as_aload_n C dX12_preferredOf_21 rfl) ?_
  refine ah_cons (as_iload_n C dX12_preferredOf_22 rfl) ?_
  refine ah_cons (as_iload_n C dX12_preferredOf_23 rfl) ?_
  refine ah_cons (as_iload_n C dX12_preferredOf_24 rfl) ?_
  refine ah_cons (as_vI (ah_t1 (ah_okV (n := 3) C (mX12_prefers hW f) dX12_preferredOf_25 (ci := 12) rfl wt_502 wt_504 wt_503 wt_446 wt_505 ⟨by decide, by decide, by decide, by decide⟩ ⟨by decide, by decide⟩) ah_t0)) ?_
  refine ah_cons (as_if_eq C dX12_preferredOf_28 (by decide)) ?_
  refine ah_cons (as_iload_n C dX12_preferredOf_31 rfl) ?_
  refine ah_cons (as_goto C dX12_preferredOf_32 (by decide)) ?_
  refine ah_cons (as_iload_n C dX12_preferredOf_35 rfl) ?_
  refine ah_cons (as_istore_n C dX12_preferredOf_36 rfl (by decide)) ?_
  refine ah_cons (as_iinc C dX12_preferredOf_37 (by decide) (by decide)) ?_
  refine ah_cons (as_lim (as_goto C dX12_preferredOf_40 (by decide))) ?_
  refine ah_cons (as_iload_n C dX12_preferredOf_43 rfl) ?_
  refine ah_cons (as_iret C rfl dX12_preferredOf_44) ?_
  exact ah_nil
def kX12_seenFrom (f : Nat) : List (Nat × ah_S) := [
  (5, ah_ild 4 7),
  (0, ah_push (.int (0)) 1),
  (1, ah_ist 3 2),
  (2, ah_push (.int (0)) 3),
  (3, ah_lim 5 [0, 1, 2, 3, 4] (ah_ist 4 5)),
  (7, ah_ald 0 8),
  (8, ah_gfi [12] 2 11),
  (11, ah_clt 14 64),
  (14, ah_ild 3 15),
  (15, ah_ald 0 16),
  (16, ah_ild 1 17),
  (17, ah_ild 4 19),
  (19, ah_vI [(12, aX12_mayBe f)] 3 22),
  (22, ah_zeq 55 25),
  (25, ah_ald 0 26),
  (26, ah_gfr [12] 11 29),
  (29, ah_ild 4 31),
  (31, ah_iald 0 32),
  (32, ah_push (.int (-1)) 33),
  (33, ah_ceq 36 55),
  (36, ah_ald 0 37),
  (37, ah_gfr [12] 10 40),
  (40, ah_ild 4 42),
  (42, ah_iald 0 43),
  (43, ah_ild 2 44),
  (44, ah_sI (aX12_far f) 2 47),
  (47, ah_push (.int (2)) 48),
  (48, ah_clt 51 55),
  (51, ah_push (.int (1)) 52),
  (52, ah_goto 56),
  (55, ah_push (.int (0)) 56),
  (56, ah_bin (fun x y => x + y) 57),
  (57, ah_ist 3 58),
  (58, ah_inc 4 (1) 61),
  (61, ah_lim 5 [0, 1, 2, 3, 4] (ah_goto 5)),
  (64, ah_ild 3 65),
  (65, ah_iret)]
def aX12_seenFrom (f : Nat) : ah_F := ah_fun (kX12_seenFrom f) 5 f
set_option maxRecDepth 100000 in
set_option maxHeartbeats 4000000 in
theorem mX12_seenFrom {l : Launch} {s0 : State} {D : va_G} {tc : Nat → ClassId} {ad : Nat → Nat} {A : Nat → Prop} (hW : ah_W0 s0 ad A) (f : Nat) : ah_Met l s0 D tc ad A yX12_seenFrom cX12_seenFrom 5 (some .int) 3 66 (aX12_seenFrom f) := by
  refine ah_met hW.1 (by decide) (fun p e s m args below meth c res C => ?_)
  refine ah_cons (as_iload C dX12_seenFrom_5) ?_
  refine ah_cons (as_iconst C dX12_seenFrom_0 (by decide)) ?_
  refine ah_cons (as_istore_n C dX12_seenFrom_1 rfl (by decide)) ?_
  refine ah_cons (as_iconst C dX12_seenFrom_2 (by decide)) ?_
  refine ah_cons (as_lim (as_istore C dX12_seenFrom_3 (by decide))) ?_
  refine ah_cons (as_aload_n C dX12_seenFrom_7 rfl) ?_
  refine ah_cons (as_gfi C dX12_seenFrom_8 fgX12_85) ?_
  refine ah_cons (as_icmp_ge C dX12_seenFrom_11 (by decide)) ?_
  refine ah_cons (as_iload_n C dX12_seenFrom_14 rfl) ?_
  refine ah_cons (as_aload_n C dX12_seenFrom_15 rfl) ?_
  refine ah_cons (as_iload_n C dX12_seenFrom_16 rfl) ?_
  refine ah_cons (as_iload C dX12_seenFrom_17) ?_
  refine ah_cons (as_vI (ah_t1 (ah_okV (n := 2) C (mX12_mayBe hW f) dX12_seenFrom_19 (ci := 12) rfl wt_490 wt_492 wt_491 wt_446 wt_493 ⟨by decide, by decide, by decide, by decide⟩ ⟨by decide, by decide⟩) ah_t0)) ?_
  refine ah_cons (as_if_eq C dX12_seenFrom_22 (by decide)) ?_
  refine ah_cons (as_aload_n C dX12_seenFrom_25 rfl) ?_
  refine ah_cons (as_gfr C dX12_seenFrom_26 fgX12_22) ?_
  refine ah_cons (as_iload C dX12_seenFrom_29) ?_
  refine ah_cons (as_iald C dX12_seenFrom_31) ?_
  refine ah_cons (as_iconst C dX12_seenFrom_32 (by decide)) ?_
  refine ah_cons (as_icmp_ne C dX12_seenFrom_33 (by decide)) ?_
  refine ah_cons (as_aload_n C dX12_seenFrom_36 rfl) ?_
  refine ah_cons (as_gfr C dX12_seenFrom_37 fgX12_19) ?_
  refine ah_cons (as_iload C dX12_seenFrom_40) ?_
  refine ah_cons (as_iald C dX12_seenFrom_42) ?_
  refine ah_cons (as_iload_n C dX12_seenFrom_43 rfl) ?_
  refine ah_cons (as_sI C (mX12_far hW f) dX12_seenFrom_44 wt_487 wt_488 wt_446 wt_489 ⟨by decide, by decide, by decide⟩ ⟨by decide, by decide⟩) ?_
  refine ah_cons (as_iconst C dX12_seenFrom_47 (by decide)) ?_
  refine ah_cons (as_icmp_ge C dX12_seenFrom_48 (by decide)) ?_
  refine ah_cons (as_iconst C dX12_seenFrom_51 (by decide)) ?_
  refine ah_cons (as_goto C dX12_seenFrom_52 (by decide)) ?_
  refine ah_cons (as_iconst C dX12_seenFrom_55 (by decide)) ?_
  refine ah_cons (as_iadd C dX12_seenFrom_56) ?_
  refine ah_cons (as_istore_n C dX12_seenFrom_57 rfl (by decide)) ?_
  refine ah_cons (as_iinc C dX12_seenFrom_58 (by decide) (by decide)) ?_
  refine ah_cons (as_lim (as_goto C dX12_seenFrom_61 (by decide))) ?_
  refine ah_cons (as_iload_n C dX12_seenFrom_64 rfl) ?_
  refine ah_cons (as_iret C rfl dX12_seenFrom_65) ?_
  exact ah_nil
def kX12_spikeOf (f : Nat) : List (Nat × ah_S) := [
  (5, ah_ild 4 7),
  (0, ah_push (.int (0)) 1),
  (1, ah_ist 3 2),
  (2, ah_push (.int (1)) 3),
  (3, ah_lim 5 [0, 1, 2, 3, 4] (ah_ist 4 5)),
  (7, ah_push (.int (6)) 9),
  (9, ah_clt 12 41),
  (12, ah_ald 0 13),
  (13, ah_ild 1 14),
  (14, ah_ild 4 16),
  (16, ah_vI [(12, aX12_seenFrom f)] 3 19),
  (19, ah_ald 0 20),
  (20, ah_ild 1 21),
  (21, ah_ild 3 22),
  (22, ah_vI [(12, aX12_seenFrom f)] 3 25),
  (25, ah_cgt 28 33),
  (28, ah_ild 4 30),
  (30, ah_goto 34),
  (33, ah_ild 3 34),
  (34, ah_ist 3 35),
  (35, ah_inc 4 (1) 38),
  (38, ah_lim 5 [0, 1, 2, 3, 4] (ah_goto 5)),
  (41, ah_ild 2 42),
  (42, ah_push (.int (7)) 44),
  (44, ah_ceq 47 51),
  (47, ah_ild 3 48),
  (48, ah_goto 57),
  (51, ah_ald 0 52),
  (52, ah_ild 1 53),
  (53, ah_ild 3 54),
  (54, ah_vI [(12, aX12_seenFrom f)] 3 57),
  (57, ah_iret)]
def aX12_spikeOf (f : Nat) : ah_F := ah_fun (kX12_spikeOf f) 5 f
set_option maxRecDepth 100000 in
set_option maxHeartbeats 4000000 in
theorem mX12_spikeOf {l : Launch} {s0 : State} {D : va_G} {tc : Nat → ClassId} {ad : Nat → Nat} {A : Nat → Prop} (hW : ah_W0 s0 ad A) (f : Nat) : ah_Met l s0 D tc ad A yX12_spikeOf cX12_spikeOf 5 (some .int) 4 90 (aX12_spikeOf f) := by
  refine ah_met hW.1 (by decide) (fun p e s m args below meth c res C => ?_)
  refine ah_cons (as_iload C dX12_spikeOf_5) ?_
  refine ah_cons (as_iconst C dX12_spikeOf_0 (by decide)) ?_
  refine ah_cons (as_istore_n C dX12_spikeOf_1 rfl (by decide)) ?_
  refine ah_cons (as_iconst C dX12_spikeOf_2 (by decide)) ?_
  refine ah_cons (as_lim (as_istore C dX12_spikeOf_3 (by decide))) ?_
  refine ah_cons (as_bipush C dX12_spikeOf_7 (by decide)) ?_
  refine ah_cons (as_icmp_ge C dX12_spikeOf_9 (by decide)) ?_
  refine ah_cons (as_aload_n C dX12_spikeOf_12 rfl) ?_
  refine ah_cons (as_iload_n C dX12_spikeOf_13 rfl) ?_
  refine ah_cons (as_iload C dX12_spikeOf_14) ?_
  refine ah_cons (as_vI (ah_t1 (ah_okV (n := 2) C (mX12_seenFrom hW f) dX12_spikeOf_16 (ci := 12) rfl wt_506 wt_508 wt_507 wt_446 wt_509 ⟨by decide, by decide, by decide, by decide⟩ ⟨by decide, by decide⟩) ah_t0)) ?_
  refine ah_cons (as_aload_n C dX12_spikeOf_19 rfl) ?_
  refine ah_cons (as_iload_n C dX12_spikeOf_20 rfl) ?_
  refine ah_cons (as_iload_n C dX12_spikeOf_21 rfl) ?_
  refine ah_cons (as_vI (ah_t1 (ah_okV (n := 2) C (mX12_seenFrom hW f) dX12_spikeOf_22 (ci := 12) rfl wt_506 wt_508 wt_507 wt_446 wt_509 ⟨by decide, by decide, by decide, by decide⟩ ⟨by decide, by decide⟩) ah_t0)) ?_
  refine ah_cons (as_icmp_le C dX12_spikeOf_25 (by decide)) ?_
  refine ah_cons (as_iload C dX12_spikeOf_28) ?_
  refine ah_cons (as_goto C dX12_spikeOf_30 (by decide)) ?_
  refine ah_cons (as_iload_n C dX12_spikeOf_33 rfl) ?_
  refine ah_cons (as_istore_n C dX12_spikeOf_34 rfl (by decide)) ?_
  refine ah_cons (as_iinc C dX12_spikeOf_35 (by decide) (by decide)) ?_
  refine ah_cons (as_lim (as_goto C dX12_spikeOf_38 (by decide))) ?_
  refine ah_cons (as_iload_n C dX12_spikeOf_41 rfl) ?_
  refine ah_cons (as_bipush C dX12_spikeOf_42 (by decide)) ?_
  refine ah_cons (as_icmp_ne C dX12_spikeOf_44 (by decide)) ?_
  refine ah_cons (as_iload_n C dX12_spikeOf_47 rfl) ?_
  refine ah_cons (as_goto C dX12_spikeOf_48 (by decide)) ?_
  refine ah_cons (as_aload_n C dX12_spikeOf_51 rfl) ?_
  refine ah_cons (as_iload_n C dX12_spikeOf_52 rfl) ?_
  refine ah_cons (as_iload_n C dX12_spikeOf_53 rfl) ?_
  refine ah_cons (as_vI (ah_t1 (ah_okV (n := 2) C (mX12_seenFrom hW f) dX12_spikeOf_54 (ci := 12) rfl wt_506 wt_508 wt_507 wt_446 wt_509 ⟨by decide, by decide, by decide, by decide⟩ ⟨by decide, by decide⟩) ah_t0)) ?_
  refine ah_cons (as_iret C rfl dX12_spikeOf_57) ?_
  exact ah_nil
def kX12_likenessAs (f : Nat) : List (Nat × ah_S) := [
  (0, ah_ald 0 1),
  (1, ah_gfr [12] 9 4),
  (4, ah_ild 1 5),
  (5, ah_iald 0 6),
  (6, ah_ist 4 8),
  (8, ah_ald 0 9),
  (9, ah_gfr [12] 9 12),
  (12, ah_ild 1 13),
  (13, ah_ild 2 14),
  (14, ah_iast 15),
  (15, ah_ald 0 16),
  (16, ah_ild 1 17),
  (17, ah_ild 3 18),
  (18, ah_vI [(12, aX12_likenessOf f)] 3 21),
  (21, ah_ist 5 23),
  (23, ah_ald 0 24),
  (24, ah_gfr [12] 9 27),
  (27, ah_ild 1 28),
  (28, ah_ild 4 30),
  (30, ah_iast 31),
  (31, ah_ild 5 33),
  (33, ah_iret)]
def aX12_likenessAs (f : Nat) : ah_F := ah_fun (kX12_likenessAs f) 6 f
set_option maxRecDepth 100000 in
set_option maxHeartbeats 4000000 in
theorem mX12_likenessAs {l : Launch} {s0 : State} {D : va_G} {tc : Nat → ClassId} {ad : Nat → Nat} {A : Nat → Prop} (hW : ah_W0 s0 ad A) (f : Nat) : ah_Met l s0 D tc ad A yX12_likenessAs cX12_likenessAs 6 (some .int) 4 88 (aX12_likenessAs f) := by
  refine ah_met hW.1 (by decide) (fun p e s m args below meth c res C => ?_)
  refine ah_cons (as_aload_n C dX12_likenessAs_0 rfl) ?_
  refine ah_cons (as_gfr C dX12_likenessAs_1 fgX12_16) ?_
  refine ah_cons (as_iload_n C dX12_likenessAs_4 rfl) ?_
  refine ah_cons (as_iald C dX12_likenessAs_5) ?_
  refine ah_cons (as_istore C dX12_likenessAs_6 (by decide)) ?_
  refine ah_cons (as_aload_n C dX12_likenessAs_8 rfl) ?_
  refine ah_cons (as_gfr C dX12_likenessAs_9 fgX12_16) ?_
  refine ah_cons (as_iload_n C dX12_likenessAs_12 rfl) ?_
  refine ah_cons (as_iload_n C dX12_likenessAs_13 rfl) ?_
  refine ah_cons (as_iast C dX12_likenessAs_14) ?_
  refine ah_cons (as_aload_n C dX12_likenessAs_15 rfl) ?_
  refine ah_cons (as_iload_n C dX12_likenessAs_16 rfl) ?_
  refine ah_cons (as_iload_n C dX12_likenessAs_17 rfl) ?_
  refine ah_cons (as_vI (ah_t1 (ah_okV (n := 2) C (mX12_likenessOf hW f) dX12_likenessAs_18 (ci := 12) rfl wt_498 wt_500 wt_499 wt_446 wt_501 ⟨by decide, by decide, by decide, by decide⟩ ⟨by decide, by decide⟩) ah_t0)) ?_
  refine ah_cons (as_istore C dX12_likenessAs_21 (by decide)) ?_
  refine ah_cons (as_aload_n C dX12_likenessAs_23 rfl) ?_
  refine ah_cons (as_gfr C dX12_likenessAs_24 fgX12_16) ?_
  refine ah_cons (as_iload_n C dX12_likenessAs_27 rfl) ?_
  refine ah_cons (as_iload C dX12_likenessAs_28) ?_
  refine ah_cons (as_iast C dX12_likenessAs_30) ?_
  refine ah_cons (as_iload C dX12_likenessAs_31) ?_
  refine ah_cons (as_iret C rfl dX12_likenessAs_33) ?_
  exact ah_nil
def kX12_sizesOf (f : Nat) : List (Nat × ah_S) := [
  (4, ah_ild 3 5),
  (16, ah_ild 5 18),
  (0, ah_push (.int (0)) 1),
  (1, ah_ist 2 2),
  (2, ah_push (.int (0)) 3),
  (3, ah_lim 4 [0, 1, 2, 3] (ah_ist 3 4)),
  (5, ah_push (.int (10)) 7),
  (7, ah_clt 10 104),
  (10, ah_push (.int (1)) 11),
  (11, ah_ist 4 13),
  (13, ah_push (.int (0)) 14),
  (14, ah_lim 16 [0, 1, 2, 3, 4, 5] (ah_ist 5 16)),
  (18, ah_push (.int (3)) 19),
  (19, ah_ald 0 20),
  (20, ah_gfi [12] 15 23),
  (23, ah_bin (fun x y => x * y) 24),
  (24, ah_clt 27 83),
  (27, ah_ald 0 28),
  (28, ah_gfr [12] 16 31),
  (31, ah_ild 5 33),
  (33, ah_iald 0 34),
  (34, ah_ild 1 35),
  (35, ah_ceq 38 77),
  (38, ah_ild 4 40),
  (40, ah_zeq 74 43),
  (43, ah_ald 0 44),
  (44, ah_ild 1 45),
  (45, ah_ild 3 46),
  (46, ah_ald 0 47),
  (47, ah_gfr [12] 16 50),
  (50, ah_ild 5 52),
  (52, ah_push (.int (1)) 53),
  (53, ah_bin (fun x y => x + y) 54),
  (54, ah_iald 0 55),
  (55, ah_vI [(12, aX12_likenessAs f)] 4 58),
  (58, ah_ald 0 59),
  (59, ah_gfr [12] 16 62),
  (62, ah_ild 5 64),
  (64, ah_push (.int (2)) 65),
  (65, ah_bin (fun x y => x + y) 66),
  (66, ah_iald 0 67),
  (67, ah_ceq 70 74),
  (70, ah_push (.int (1)) 71),
  (71, ah_goto 75),
  (74, ah_push (.int (0)) 75),
  (75, ah_ist 4 77),
  (77, ah_inc 5 (3) 80),
  (80, ah_lim 16 [0, 1, 2, 3, 4, 5] (ah_goto 16)),
  (83, ah_ild 2 84),
  (84, ah_ild 4 86),
  (86, ah_zeq 95 89),
  (89, ah_push (.int (1)) 90),
  (90, ah_ild 3 91),
  (91, ah_bin (fun x y => x <<< (y &&& 31)) 92),
  (92, ah_goto 96),
  (95, ah_push (.int (0)) 96),
  (96, ah_bin (fun x y => x ||| y) 97),
  (97, ah_ist 2 98),
  (98, ah_inc 3 (1) 101),
  (101, ah_lim 4 [0, 1, 2, 3] (ah_goto 4)),
  (104, ah_ild 2 105),
  (105, ah_iret)]
def aX12_sizesOf (f : Nat) : ah_F := ah_fun (kX12_sizesOf f) 6 f
set_option maxRecDepth 100000 in
set_option maxHeartbeats 4000000 in
theorem mX12_sizesOf {l : Launch} {s0 : State} {D : va_G} {tc : Nat → ClassId} {ad : Nat → Nat} {A : Nat → Prop} (hW : ah_W0 s0 ad A) (f : Nat) : ah_Met l s0 D tc ad A yX12_sizesOf cX12_sizesOf 6 (some .int) 5 113 (aX12_sizesOf f) := by
  refine ah_met hW.1 (by decide) (fun p e s m args below meth c res C => ?_)
  refine ah_cons (as_iload_n C dX12_sizesOf_4 rfl) ?_
  refine ah_cons (as_iload C dX12_sizesOf_16) ?_
  refine ah_cons (as_iconst C dX12_sizesOf_0 (by decide)) ?_
  refine ah_cons (as_istore_n C dX12_sizesOf_1 rfl (by decide)) ?_
  refine ah_cons (as_iconst C dX12_sizesOf_2 (by decide)) ?_
  refine ah_cons (as_lim (as_istore_n C dX12_sizesOf_3 rfl (by decide))) ?_
  refine ah_cons (as_bipush C dX12_sizesOf_5 (by decide)) ?_
  refine ah_cons (as_icmp_ge C dX12_sizesOf_7 (by decide)) ?_
  refine ah_cons (as_iconst C dX12_sizesOf_10 (by decide)) ?_
  refine ah_cons (as_istore C dX12_sizesOf_11 (by decide)) ?_
  refine ah_cons (as_iconst C dX12_sizesOf_13 (by decide)) ?_
  refine ah_cons (as_lim (as_istore C dX12_sizesOf_14 (by decide))) ?_
  refine ah_cons (as_iconst C dX12_sizesOf_18 (by decide)) ?_
  refine ah_cons (as_aload_n C dX12_sizesOf_19 rfl) ?_
  refine ah_cons (as_gfi C dX12_sizesOf_20 fgX12_100) ?_
  refine ah_cons (as_imul C dX12_sizesOf_23) ?_
  refine ah_cons (as_icmp_ge C dX12_sizesOf_24 (by decide)) ?_
  refine ah_cons (as_aload_n C dX12_sizesOf_27 rfl) ?_
  refine ah_cons (as_gfr C dX12_sizesOf_28 fgX12_34) ?_
  refine ah_cons (as_iload C dX12_sizesOf_31) ?_
  refine ah_cons (as_iald C dX12_sizesOf_33) ?_
  refine ah_cons (as_iload_n C dX12_sizesOf_34 rfl) ?_
  refine ah_cons (as_icmp_ne C dX12_sizesOf_35 (by decide)) ?_
  refine ah_cons (as_iload C dX12_sizesOf_38) ?_
  refine ah_cons (as_if_eq C dX12_sizesOf_40 (by decide)) ?_
  refine ah_cons (as_aload_n C dX12_sizesOf_43 rfl) ?_
  refine ah_cons (as_iload_n C dX12_sizesOf_44 rfl) ?_
  refine ah_cons (as_iload_n C dX12_sizesOf_45 rfl) ?_
  refine ah_cons (as_aload_n C dX12_sizesOf_46 rfl) ?_
  refine ah_cons (as_gfr C dX12_sizesOf_47 fgX12_34) ?_
  refine ah_cons (as_iload C dX12_sizesOf_50) ?_
  refine ah_cons (as_iconst C dX12_sizesOf_52 (by decide)) ?_
  refine ah_cons (as_iadd C dX12_sizesOf_53) ?_
  refine ah_cons (as_iald C dX12_sizesOf_54) ?_
  refine ah_cons (as_vI (ah_t1 (ah_okV (n := 3) C (mX12_likenessAs hW f) dX12_sizesOf_55 (ci := 12) rfl wt_511 wt_513 wt_512 wt_446 wt_514 ⟨by decide, by decide, by decide, by decide⟩ ⟨by decide, by decide⟩) ah_t0)) ?_
  refine ah_cons (as_aload_n C dX12_sizesOf_58 rfl) ?_
  refine ah_cons (as_gfr C dX12_sizesOf_59 fgX12_34) ?_
  refine ah_cons (as_iload C dX12_sizesOf_62) ?_
  refine ah_cons (as_iconst C dX12_sizesOf_64 (by decide)) ?_
  refine ah_cons (as_iadd C dX12_sizesOf_65) ?_
  refine ah_cons (as_iald C dX12_sizesOf_66) ?_
  refine ah_cons (as_icmp_ne C dX12_sizesOf_67 (by decide)) ?_
  refine ah_cons (as_iconst C dX12_sizesOf_70 (by decide)) ?_
  refine ah_cons (as_goto C dX12_sizesOf_71 (by decide)) ?_
  refine ah_cons (as_iconst C dX12_sizesOf_74 (by decide)) ?_
  refine ah_cons (as_istore C dX12_sizesOf_75 (by decide)) ?_
  refine ah_cons (as_iinc C dX12_sizesOf_77 (by decide) (by decide)) ?_
  refine ah_cons (as_lim (as_goto C dX12_sizesOf_80 (by decide))) ?_
  refine ah_cons (as_iload_n C dX12_sizesOf_83 rfl) ?_
  refine ah_cons (as_iload C dX12_sizesOf_84) ?_
  refine ah_cons (as_if_eq C dX12_sizesOf_86 (by decide)) ?_
  refine ah_cons (as_iconst C dX12_sizesOf_89 (by decide)) ?_
  refine ah_cons (as_iload_n C dX12_sizesOf_90 rfl) ?_
  refine ah_cons (as_ishl C dX12_sizesOf_91) ?_
  refine ah_cons (as_goto C dX12_sizesOf_92 (by decide)) ?_
  refine ah_cons (as_iconst C dX12_sizesOf_95 (by decide)) ?_
  refine ah_cons (as_ior C dX12_sizesOf_96) ?_
  refine ah_cons (as_istore_n C dX12_sizesOf_97 rfl (by decide)) ?_
  refine ah_cons (as_iinc C dX12_sizesOf_98 (by decide) (by decide)) ?_
  refine ah_cons (as_lim (as_goto C dX12_sizesOf_101 (by decide))) ?_
  refine ah_cons (as_iload_n C dX12_sizesOf_104 rfl) ?_
  refine ah_cons (as_iret C rfl dX12_sizesOf_105) ?_
  exact ah_nil
def kX12_lookOf (f : Nat) : List (Nat × ah_S) := [
  (15, ah_ild 5 17),
  (31, ah_ild 6 33),
  (58, ah_ild 7 60),
  (151, ah_ist 3 152),
  (0, ah_ald 0 1),
  (1, ah_ild 1 2),
  (2, ah_vI [(12, aX12_sizesOf f)] 2 5),
  (5, ah_ist 2 6),
  (6, ah_push (.int (-1)) 7),
  (7, ah_ist 3 8),
  (8, ah_push (.int (11)) 10),
  (10, ah_ist 4 12),
  (12, ah_push (.int (0)) 13),
  (13, ah_lim 15 [0, 1, 2, 3, 4, 5] (ah_ist 5 15)),
  (17, ah_ald 0 18),
  (18, ah_gfi [12] 2 21),
  (21, ah_clt 24 180),
  (24, ah_ild 2 25),
  (25, ah_zeq 180 28),
  (28, ah_push (.int (0)) 29),
  (29, ah_lim 31 [0, 1, 2, 3, 4, 5, 6] (ah_ist 6 31)),
  (33, ah_push (.int (20)) 35),
  (35, ah_clt 38 52),
  (38, ah_ald 0 39),
  (39, ah_gfr [12] 17 42),
  (42, ah_ild 6 44),
  (44, ah_push (.int (0)) 45),
  (45, ah_iast 46),
  (46, ah_inc 6 (1) 49),
  (49, ah_lim 31 [0, 1, 2, 3, 4, 5, 6] (ah_goto 31)),
  (52, ah_push (.int (0)) 53),
  (53, ah_ist 6 55),
  (55, ah_push (.int (0)) 56),
  (56, ah_lim 58 [0, 1, 2, 3, 4, 5, 6, 7] (ah_ist 7 58)),
  (60, ah_push (.int (10)) 62),
  (62, ah_clt 65 132),
  (65, ah_ild 5 67),
  (67, ah_ild 1 68),
  (68, ah_ceq 132 71),
  (71, ah_ald 0 72),
  (72, ah_ild 1 73),
  (73, ah_ild 7 75),
  (75, ah_ild 5 77),
  (77, ah_vI [(12, aX12_likenessAs f)] 4 80),
  (80, ah_push (.int (1)) 81),
  (81, ah_bin (fun x y => x + y) 82),
  (82, ah_ist 8 84),
  (84, ah_ald 0 85),
  (85, ah_gfr [12] 17 88),
  (88, ah_ild 8 90),
  (90, ah_dup2 91),
  (91, ah_iald 0 92),
  (92, ah_ild 2 93),
  (93, ah_ild 7 95),
  (95, ah_bin (fun x y => x >>> (y &&& 31)) 96),
  (96, ah_push (.int (1)) 97),
  (97, ah_bin (fun x y => x &&& y) 98),
  (98, ah_bin (fun x y => x + y) 99),
  (99, ah_iast 100),
  (100, ah_ald 0 101),
  (101, ah_gfr [12] 17 104),
  (104, ah_ild 8 106),
  (106, ah_iald 0 107),
  (107, ah_ild 6 109),
  (109, ah_cgt 112 122),
  (112, ah_ald 0 113),
  (113, ah_gfr [12] 17 116),
  (116, ah_ild 8 118),
  (118, ah_iald 0 119),
  (119, ah_goto 124),
  (122, ah_ild 6 124),
  (124, ah_ist 6 126),
  (126, ah_inc 7 (1) 129),
  (129, ah_lim 58 [0, 1, 2, 3, 4, 5, 6, 7] (ah_goto 58)),
  (132, ah_ild 5 134),
  (134, ah_ild 1 135),
  (135, ah_ceq 150 138),
  (138, ah_ild 6 140),
  (140, ah_ild 4 142),
  (142, ah_clt 145 150),
  (145, ah_ild 5 147),
  (147, ah_lim 151 [0, 1, 2, 4, 5, 6] (ah_goto 151)),
  (150, ah_lim 151 [0, 1, 2, 4, 5, 6] (ah_ild 3 151)),
  (152, ah_ild 5 154),
  (154, ah_ild 1 155),
  (155, ah_ceq 170 158),
  (158, ah_ild 6 160),
  (160, ah_ild 4 162),
  (162, ah_clt 165 170),
  (165, ah_ild 6 167),
  (167, ah_goto 172),
  (170, ah_ild 4 172),
  (172, ah_ist 4 174),
  (174, ah_inc 5 (1) 177),
  (177, ah_lim 15 [0, 1, 2, 3, 4, 5] (ah_goto 15)),
  (180, ah_ild 3 181),
  (181, ah_iret)]
def aX12_lookOf (f : Nat) : ah_F := ah_fun (kX12_lookOf f) 9 f
set_option maxRecDepth 100000 in
set_option maxHeartbeats 4000000 in
theorem mX12_lookOf {l : Launch} {s0 : State} {D : va_G} {tc : Nat → ClassId} {ad : Nat → Nat} {A : Nat → Prop} (hW : ah_W0 s0 ad A) (f : Nat) : ah_Met l s0 D tc ad A yX12_lookOf cX12_lookOf 9 (some .int) 6 138 (aX12_lookOf f) := by
  refine ah_met hW.1 (by decide) (fun p e s m args below meth c res C => ?_)
  refine ah_cons (as_iload C dX12_lookOf_15) ?_
  refine ah_cons (as_iload C dX12_lookOf_31) ?_
  refine ah_cons (as_iload C dX12_lookOf_58) ?_
  refine ah_cons (as_istore_n C dX12_lookOf_151 rfl (by decide)) ?_
  refine ah_cons (as_aload_n C dX12_lookOf_0 rfl) ?_
  refine ah_cons (as_iload_n C dX12_lookOf_1 rfl) ?_
  refine ah_cons (as_vI (ah_t1 (ah_okV (n := 1) C (mX12_sizesOf hW f) dX12_lookOf_2 (ci := 12) rfl wt_515 wt_517 wt_516 wt_446 wt_518 ⟨by decide, by decide, by decide, by decide⟩ ⟨by decide, by decide⟩) ah_t0)) ?_
  refine ah_cons (as_istore_n C dX12_lookOf_5 rfl (by decide)) ?_
  refine ah_cons (as_iconst C dX12_lookOf_6 (by decide)) ?_
  refine ah_cons (as_istore_n C dX12_lookOf_7 rfl (by decide)) ?_
  refine ah_cons (as_bipush C dX12_lookOf_8 (by decide)) ?_
  refine ah_cons (as_istore C dX12_lookOf_10 (by decide)) ?_
  refine ah_cons (as_iconst C dX12_lookOf_12 (by decide)) ?_
  refine ah_cons (as_lim (as_istore C dX12_lookOf_13 (by decide))) ?_
  refine ah_cons (as_aload_n C dX12_lookOf_17 rfl) ?_
  refine ah_cons (as_gfi C dX12_lookOf_18 fgX12_85) ?_
  refine ah_cons (as_icmp_ge C dX12_lookOf_21 (by decide)) ?_
  refine ah_cons (as_iload_n C dX12_lookOf_24 rfl) ?_
  refine ah_cons (as_if_eq C dX12_lookOf_25 (by decide)) ?_
  refine ah_cons (as_iconst C dX12_lookOf_28 (by decide)) ?_
  refine ah_cons (as_lim (as_istore C dX12_lookOf_29 (by decide))) ?_
  refine ah_cons (as_bipush C dX12_lookOf_33 (by decide)) ?_
  refine ah_cons (as_icmp_ge C dX12_lookOf_35 (by decide)) ?_
  refine ah_cons (as_aload_n C dX12_lookOf_38 rfl) ?_
  refine ah_cons (as_gfr C dX12_lookOf_39 fgX12_37) ?_
  refine ah_cons (as_iload C dX12_lookOf_42) ?_
  refine ah_cons (as_iconst C dX12_lookOf_44 (by decide)) ?_
  refine ah_cons (as_iast C dX12_lookOf_45) ?_
  refine ah_cons (as_iinc C dX12_lookOf_46 (by decide) (by decide)) ?_
  refine ah_cons (as_lim (as_goto C dX12_lookOf_49 (by decide))) ?_
  refine ah_cons (as_iconst C dX12_lookOf_52 (by decide)) ?_
  refine ah_cons (as_istore C dX12_lookOf_53 (by decide)) ?_
  refine ah_cons (as_iconst C dX12_lookOf_55 (by decide)) ?_
  refine ah_cons (as_lim (as_istore C dX12_lookOf_56 (by decide))) ?_
  refine ah_cons (as_bipush C dX12_lookOf_60 (by decide)) ?_
  refine ah_cons (as_icmp_ge C dX12_lookOf_62 (by decide)) ?_
  refine ah_cons (as_iload C dX12_lookOf_65) ?_
  refine ah_cons (as_iload_n C dX12_lookOf_67 rfl) ?_
  refine ah_cons (as_icmp_eq C dX12_lookOf_68 (by decide)) ?_
  refine ah_cons (as_aload_n C dX12_lookOf_71 rfl) ?_
  refine ah_cons (as_iload_n C dX12_lookOf_72 rfl) ?_
  refine ah_cons (as_iload C dX12_lookOf_73) ?_
  refine ah_cons (as_iload C dX12_lookOf_75) ?_
  refine ah_cons (as_vI (ah_t1 (ah_okV (n := 3) C (mX12_likenessAs hW f) dX12_lookOf_77 (ci := 12) rfl wt_511 wt_513 wt_512 wt_446 wt_514 ⟨by decide, by decide, by decide, by decide⟩ ⟨by decide, by decide⟩) ah_t0)) ?_
  refine ah_cons (as_iconst C dX12_lookOf_80 (by decide)) ?_
  refine ah_cons (as_iadd C dX12_lookOf_81) ?_
  refine ah_cons (as_istore C dX12_lookOf_82 (by decide)) ?_
  refine ah_cons (as_aload_n C dX12_lookOf_84 rfl) ?_
  refine ah_cons (as_gfr C dX12_lookOf_85 fgX12_37) ?_
  refine ah_cons (as_iload C dX12_lookOf_88) ?_
  refine ah_cons (as_dup2 C dX12_lookOf_90) ?_
  refine ah_cons (as_iald C dX12_lookOf_91) ?_
  refine ah_cons (as_iload_n C dX12_lookOf_92 rfl) ?_
  refine ah_cons (as_iload C dX12_lookOf_93) ?_
  refine ah_cons (as_ishr C dX12_lookOf_95) ?_
  refine ah_cons (as_iconst C dX12_lookOf_96 (by decide)) ?_
  refine ah_cons (as_iand C dX12_lookOf_97) ?_
  refine ah_cons (as_iadd C dX12_lookOf_98) ?_
  refine ah_cons (as_iast C dX12_lookOf_99) ?_
  refine ah_cons (as_aload_n C dX12_lookOf_100 rfl) ?_
  refine ah_cons (as_gfr C dX12_lookOf_101 fgX12_37) ?_
  refine ah_cons (as_iload C dX12_lookOf_104) ?_
  refine ah_cons (as_iald C dX12_lookOf_106) ?_
  refine ah_cons (as_iload C dX12_lookOf_107) ?_
  refine ah_cons (as_icmp_le C dX12_lookOf_109 (by decide)) ?_
  refine ah_cons (as_aload_n C dX12_lookOf_112 rfl) ?_
  refine ah_cons (as_gfr C dX12_lookOf_113 fgX12_37) ?_
  refine ah_cons (as_iload C dX12_lookOf_116) ?_
  refine ah_cons (as_iald C dX12_lookOf_118) ?_
  refine ah_cons (as_goto C dX12_lookOf_119 (by decide)) ?_
  refine ah_cons (as_iload C dX12_lookOf_122) ?_
  refine ah_cons (as_istore C dX12_lookOf_124 (by decide)) ?_
  refine ah_cons (as_iinc C dX12_lookOf_126 (by decide) (by decide)) ?_
  refine ah_cons (as_lim (as_goto C dX12_lookOf_129 (by decide))) ?_
  refine ah_cons (as_iload C dX12_lookOf_132) ?_
  refine ah_cons (as_iload_n C dX12_lookOf_134 rfl) ?_
  refine ah_cons (as_icmp_eq C dX12_lookOf_135 (by decide)) ?_
  refine ah_cons (as_iload C dX12_lookOf_138) ?_
  refine ah_cons (as_iload C dX12_lookOf_140) ?_
  refine ah_cons (as_icmp_ge C dX12_lookOf_142 (by decide)) ?_
  refine ah_cons (as_iload C dX12_lookOf_145) ?_
  refine ah_cons (as_lim (as_goto C dX12_lookOf_147 (by decide))) ?_
  refine ah_cons (as_lim (as_iload_n C dX12_lookOf_150 rfl)) ?_
  refine ah_cons (as_iload C dX12_lookOf_152) ?_
  refine ah_cons (as_iload_n C dX12_lookOf_154 rfl) ?_
  refine ah_cons (as_icmp_eq C dX12_lookOf_155 (by decide)) ?_
  refine ah_cons (as_iload C dX12_lookOf_158) ?_
  refine ah_cons (as_iload C dX12_lookOf_160) ?_
  refine ah_cons (as_icmp_ge C dX12_lookOf_162 (by decide)) ?_
  refine ah_cons (as_iload C dX12_lookOf_165) ?_
  refine ah_cons (as_goto C dX12_lookOf_167 (by decide)) ?_
  refine ah_cons (as_iload C dX12_lookOf_170) ?_
  refine ah_cons (as_istore C dX12_lookOf_172 (by decide)) ?_
  refine ah_cons (as_iinc C dX12_lookOf_174 (by decide) (by decide)) ?_
  refine ah_cons (as_lim (as_goto C dX12_lookOf_177 (by decide))) ?_
  refine ah_cons (as_iload_n C dX12_lookOf_180 rfl) ?_
  refine ah_cons (as_iret C rfl dX12_lookOf_181) ?_
  exact ah_nil
def kX12_tellSingle (f : Nat) : List (Nat × ah_S) := [
  (0, ah_ild 2 1),
  (1, ah_sw [(0, 60), (1, 60), (2, 71), (3, 78), (4, 85), (5, 92), (6, 98), (7, 104), (8, 104), (9, 111), (10, 117)] 123),
  (60, ah_ald 0 61),
  (61, ah_gfr [12] 8 64),
  (64, ah_push (.int (2)) 65),
  (65, ah_ild 1 66),
  (66, ah_bin (fun x y => x * y) 67),
  (67, ah_ild 2 68),
  (68, ah_bin (fun x y => x + y) 69),
  (69, ah_iald 0 70),
  (70, ah_iret),
  (71, ah_ald 0 72),
  (72, ah_gfr [12] 9 75),
  (75, ah_ild 1 76),
  (76, ah_iald 0 77),
  (77, ah_iret),
  (78, ah_ald 0 79),
  (79, ah_gfr [12] 10 82),
  (82, ah_ild 1 83),
  (83, ah_iald 0 84),
  (84, ah_iret),
  (85, ah_ald 0 86),
  (86, ah_gfr [12] 11 89),
  (89, ah_ild 1 90),
  (90, ah_iald 0 91),
  (91, ah_iret),
  (92, ah_ald 0 93),
  (93, ah_ild 1 94),
  (94, ah_vI [(12, aX12_mayBits f)] 2 97),
  (97, ah_iret),
  (98, ah_ald 0 99),
  (99, ah_ild 1 100),
  (100, ah_vI [(12, aX12_preferredOf f)] 2 103),
  (103, ah_iret),
  (104, ah_ald 0 105),
  (105, ah_ild 1 106),
  (106, ah_ild 2 107),
  (107, ah_vI [(12, aX12_spikeOf f)] 3 110),
  (110, ah_iret),
  (111, ah_ald 0 112),
  (112, ah_ild 1 113),
  (113, ah_vI [(12, aX12_sizesOf f)] 2 116),
  (116, ah_iret),
  (117, ah_ald 0 118),
  (118, ah_ild 1 119),
  (119, ah_vI [(12, aX12_lookOf f)] 2 122),
  (122, ah_iret),
  (123, ah_push (.int (-102)) 125),
  (125, ah_iret)]
def aX12_tellSingle (f : Nat) : ah_F := ah_fun (kX12_tellSingle f) 3 f
set_option maxRecDepth 100000 in
set_option maxHeartbeats 4000000 in
theorem mX12_tellSingle {l : Launch} {s0 : State} {D : va_G} {tc : Nat → ClassId} {ad : Nat → Nat} {A : Nat → Prop} (hW : ah_W0 s0 ad A) (f : Nat) : ah_Met l s0 D tc ad A yX12_tellSingle cX12_tellSingle 3 (some .int) 7 166 (aX12_tellSingle f) := by
  refine ah_met hW.1 (by decide) (fun p e s m args below meth c res C => ?_)
  refine ah_cons (as_iload_n C dX12_tellSingle_0 rfl) ?_
  refine ah_cons (as_tsw C dX12_tellSingle_1 (by decide) (by decide) (by decide)) ?_
  refine ah_cons (as_aload_n C dX12_tellSingle_60 rfl) ?_
  refine ah_cons (as_gfr C dX12_tellSingle_61 fgX12_13) ?_
  refine ah_cons (as_iconst C dX12_tellSingle_64 (by decide)) ?_
  refine ah_cons (as_iload_n C dX12_tellSingle_65 rfl) ?_
  refine ah_cons (as_imul C dX12_tellSingle_66) ?_
  refine ah_cons (as_iload_n C dX12_tellSingle_67 rfl) ?_
  refine ah_cons (as_iadd C dX12_tellSingle_68) ?_
  refine ah_cons (as_iald C dX12_tellSingle_69) ?_
  refine ah_cons (as_iret C rfl dX12_tellSingle_70) ?_
  refine ah_cons (as_aload_n C dX12_tellSingle_71 rfl) ?_
  refine ah_cons (as_gfr C dX12_tellSingle_72 fgX12_16) ?_
  refine ah_cons (as_iload_n C dX12_tellSingle_75 rfl) ?_
  refine ah_cons (as_iald C dX12_tellSingle_76) ?_
  refine ah_cons (as_iret C rfl dX12_tellSingle_77) ?_
  refine ah_cons (as_aload_n C dX12_tellSingle_78 rfl) ?_
  refine ah_cons (as_gfr C dX12_tellSingle_79 fgX12_19) ?_
  refine ah_cons (as_iload_n C dX12_tellSingle_82 rfl) ?_
  refine ah_cons (as_iald C dX12_tellSingle_83) ?_
  refine ah_cons (as_iret C rfl dX12_tellSingle_84) ?_
  refine ah_cons (as_aload_n C dX12_tellSingle_85 rfl) ?_
  refine ah_cons (as_gfr C dX12_tellSingle_86 fgX12_22) ?_
  refine ah_cons (as_iload_n C dX12_tellSingle_89 rfl) ?_
  refine ah_cons (as_iald C dX12_tellSingle_90) ?_
  refine ah_cons (as_iret C rfl dX12_tellSingle_91) ?_
  refine ah_cons (as_aload_n C dX12_tellSingle_92 rfl) ?_
  refine ah_cons (as_iload_n C dX12_tellSingle_93 rfl) ?_
  refine ah_cons (as_vI (ah_t1 (ah_okV (n := 1) C (mX12_mayBits hW f) dX12_tellSingle_94 (ci := 12) rfl wt_520 wt_522 wt_521 wt_446 wt_523 ⟨by decide, by decide, by decide, by decide⟩ ⟨by decide, by decide⟩) ah_t0)) ?_
  refine ah_cons (as_iret C rfl dX12_tellSingle_97) ?_
  refine ah_cons (as_aload_n C dX12_tellSingle_98 rfl) ?_
  refine ah_cons (as_iload_n C dX12_tellSingle_99 rfl) ?_
  refine ah_cons (as_vI (ah_t1 (ah_okV (n := 1) C (mX12_preferredOf hW f) dX12_tellSingle_100 (ci := 12) rfl wt_524 wt_526 wt_525 wt_446 wt_527 ⟨by decide, by decide, by decide, by decide⟩ ⟨by decide, by decide⟩) ah_t0)) ?_
  refine ah_cons (as_iret C rfl dX12_tellSingle_103) ?_
  refine ah_cons (as_aload_n C dX12_tellSingle_104 rfl) ?_
  refine ah_cons (as_iload_n C dX12_tellSingle_105 rfl) ?_
  refine ah_cons (as_iload_n C dX12_tellSingle_106 rfl) ?_
  refine ah_cons (as_vI (ah_t1 (ah_okV (n := 2) C (mX12_spikeOf hW f) dX12_tellSingle_107 (ci := 12) rfl wt_528 wt_530 wt_529 wt_446 wt_531 ⟨by decide, by decide, by decide, by decide⟩ ⟨by decide, by decide⟩) ah_t0)) ?_
  refine ah_cons (as_iret C rfl dX12_tellSingle_110) ?_
  refine ah_cons (as_aload_n C dX12_tellSingle_111 rfl) ?_
  refine ah_cons (as_iload_n C dX12_tellSingle_112 rfl) ?_
  refine ah_cons (as_vI (ah_t1 (ah_okV (n := 1) C (mX12_sizesOf hW f) dX12_tellSingle_113 (ci := 12) rfl wt_515 wt_517 wt_516 wt_446 wt_518 ⟨by decide, by decide, by decide, by decide⟩ ⟨by decide, by decide⟩) ah_t0)) ?_
  refine ah_cons (as_iret C rfl dX12_tellSingle_116) ?_
  refine ah_cons (as_aload_n C dX12_tellSingle_117 rfl) ?_
  refine ah_cons (as_iload_n C dX12_tellSingle_118 rfl) ?_
  refine ah_cons (as_vI (ah_t1 (ah_okV (n := 1) C (mX12_lookOf hW f) dX12_tellSingle_119 (ci := 12) rfl wt_532 wt_534 wt_533 wt_446 wt_535 ⟨by decide, by decide, by decide, by decide⟩ ⟨by decide, by decide⟩) ah_t0)) ?_
  refine ah_cons (as_iret C rfl dX12_tellSingle_122) ?_
  refine ah_cons (as_bipush C dX12_tellSingle_123 (by decide)) ?_
  refine ah_cons (as_iret C rfl dX12_tellSingle_125) ?_
  exact ah_nil
def kX12_single (f : Nat) : List (Nat × ah_S) := [
  (0, ah_ald 0 1),
  (1, ah_ild 1 2),
  (2, ah_vI [(12, aX12_isSingle f)] 2 5),
  (5, ah_zeq 17 8),
  (8, ah_ald 0 9),
  (9, ah_ild 1 10),
  (10, ah_ild 2 11),
  (11, ah_vI [(12, aX12_tellSingle f)] 3 14),
  (14, ah_goto 19),
  (17, ah_push (.int (-101)) 19),
  (19, ah_iret)]
def aX12_single (f : Nat) : ah_F := ah_fun (kX12_single f) 3 f
set_option maxRecDepth 100000 in
set_option maxHeartbeats 4000000 in
theorem mX12_single {l : Launch} {s0 : State} {D : va_G} {tc : Nat → ClassId} {ad : Nat → Nat} {A : Nat → Prop} (hW : ah_W0 s0 ad A) (f : Nat) : ah_Met l s0 D tc ad A yX12_single cX12_single 3 (some .int) 8 188 (aX12_single f) := by
  refine ah_met hW.1 (by decide) (fun p e s m args below meth c res C => ?_)
  refine ah_cons (as_aload_n C dX12_single_0 rfl) ?_
  refine ah_cons (as_iload_n C dX12_single_1 rfl) ?_
  refine ah_cons (as_vI (ah_t1 (ah_okV (n := 1) C (mX12_isSingle hW f) dX12_single_2 (ci := 12) rfl wt_475 wt_477 wt_476 wt_446 wt_478 ⟨by decide, by decide, by decide, by decide⟩ ⟨by decide, by decide⟩) ah_t0)) ?_
  refine ah_cons (as_if_eq C dX12_single_5 (by decide)) ?_
  refine ah_cons (as_aload_n C dX12_single_8 rfl) ?_
  refine ah_cons (as_iload_n C dX12_single_9 rfl) ?_
  refine ah_cons (as_iload_n C dX12_single_10 rfl) ?_
  refine ah_cons (as_vI (ah_t1 (ah_okV (n := 2) C (mX12_tellSingle hW f) dX12_single_11 (ci := 12) rfl wt_536 wt_538 wt_537 wt_446 wt_539 ⟨by decide, by decide, by decide, by decide⟩ ⟨by decide, by decide⟩) ah_t0)) ?_
  refine ah_cons (as_goto C dX12_single_14 (by decide)) ?_
  refine ah_cons (as_bipush C dX12_single_17 (by decide)) ?_
  refine ah_cons (as_iret C rfl dX12_single_19) ?_
  exact ah_nil
def kX12_as (f : Nat) : List (Nat × ah_S) := [
  (0, ah_ald 0 1),
  (1, ah_ild 1 2),
  (2, ah_vI [(12, aX12_isSingle f)] 2 5),
  (5, ah_zeq 8 11),
  (8, ah_push (.int (-101)) 10),
  (10, ah_iret),
  (11, ah_ild 2 12),
  (12, ah_i2l 13),
  (13, ah_push (.long (0)) 14),
  (14, ah_push (.long (4)) 17),
  (17, ah_sI (aX12_in f) 3 20),
  (20, ah_zeq 23 26),
  (23, ah_push (.int (-102)) 25),
  (25, ah_iret),
  (26, ah_ild 2 27),
  (27, ah_zeq 55 30),
  (30, ah_ild 2 31),
  (31, ah_ald 0 32),
  (32, ah_gfr [12] 8 35),
  (35, ah_push (.int (2)) 36),
  (36, ah_ild 1 37),
  (37, ah_bin (fun x y => x * y) 38),
  (38, ah_iald 0 39),
  (39, ah_ceq 55 42),
  (42, ah_ild 2 43),
  (43, ah_push (.int (1)) 44),
  (44, ah_ceq 47 59),
  (47, ah_ald 0 48),
  (48, ah_ild 1 49),
  (49, ah_vI [(12, aX12_isGlove f)] 2 52),
  (52, ah_zeq 59 55),
  (55, ah_push (.int (1)) 56),
  (56, ah_goto 60),
  (59, ah_push (.int (0)) 60),
  (60, ah_ist 3 61),
  (61, ah_ild 3 62),
  (62, ah_zeq 69 65),
  (65, ah_ild 1 66),
  (66, ah_goto 70),
  (69, ah_push (.int (-1)) 70),
  (70, ah_iret)]
def aX12_as (f : Nat) : ah_F := ah_fun (kX12_as f) 4 f
set_option maxRecDepth 100000 in
set_option maxHeartbeats 4000000 in
theorem mX12_as {l : Launch} {s0 : State} {D : va_G} {tc : Nat → ClassId} {ad : Nat → Nat} {A : Nat → Prop} (hW : ah_W0 s0 ad A) (f : Nat) : ah_Met l s0 D tc ad A yX12_as cX12_as 4 (some .int) 2 46 (aX12_as f) := by
  refine ah_met hW.1 (by decide) (fun p e s m args below meth c res C => ?_)
  refine ah_cons (as_aload_n C dX12_as_0 rfl) ?_
  refine ah_cons (as_iload_n C dX12_as_1 rfl) ?_
  refine ah_cons (as_vI (ah_t1 (ah_okV (n := 1) C (mX12_isSingle hW f) dX12_as_2 (ci := 12) rfl wt_475 wt_477 wt_476 wt_446 wt_478 ⟨by decide, by decide, by decide, by decide⟩ ⟨by decide, by decide⟩) ah_t0)) ?_
  refine ah_cons (as_if_ne C dX12_as_5 (by decide)) ?_
  refine ah_cons (as_bipush C dX12_as_8 (by decide)) ?_
  refine ah_cons (as_iret C rfl dX12_as_10) ?_
  refine ah_cons (as_iload_n C dX12_as_11 rfl) ?_
  refine ah_cons (as_i2l C dX12_as_12) ?_
  refine ah_cons (as_lconst C dX12_as_13 (by decide)) ?_
  refine ah_cons (as_ldc2 C dX12_as_14 wt_540) ?_
  refine ah_cons (as_sI C (mX12_in hW f) dX12_as_17 wt_444 wt_445 wt_446 wt_447 ⟨by decide, by decide, by decide⟩ ⟨by decide, by decide⟩) ?_
  refine ah_cons (as_if_ne C dX12_as_20 (by decide)) ?_
  refine ah_cons (as_bipush C dX12_as_23 (by decide)) ?_
  refine ah_cons (as_iret C rfl dX12_as_25) ?_
  refine ah_cons (as_iload_n C dX12_as_26 rfl) ?_
  refine ah_cons (as_if_eq C dX12_as_27 (by decide)) ?_
  refine ah_cons (as_iload_n C dX12_as_30 rfl) ?_
  refine ah_cons (as_aload_n C dX12_as_31 rfl) ?_
  refine ah_cons (as_gfr C dX12_as_32 fgX12_13) ?_
  refine ah_cons (as_iconst C dX12_as_35 (by decide)) ?_
  refine ah_cons (as_iload_n C dX12_as_36 rfl) ?_
  refine ah_cons (as_imul C dX12_as_37) ?_
  refine ah_cons (as_iald C dX12_as_38) ?_
  refine ah_cons (as_icmp_eq C dX12_as_39 (by decide)) ?_
  refine ah_cons (as_iload_n C dX12_as_42 rfl) ?_
  refine ah_cons (as_iconst C dX12_as_43 (by decide)) ?_
  refine ah_cons (as_icmp_ne C dX12_as_44 (by decide)) ?_
  refine ah_cons (as_aload_n C dX12_as_47 rfl) ?_
  refine ah_cons (as_iload_n C dX12_as_48 rfl) ?_
  refine ah_cons (as_vI (ah_t1 (ah_okV (n := 1) C (mX12_isGlove hW f) dX12_as_49 (ci := 12) rfl wt_479 wt_481 wt_480 wt_446 wt_482 ⟨by decide, by decide, by decide, by decide⟩ ⟨by decide, by decide⟩) ah_t0)) ?_
  refine ah_cons (as_if_eq C dX12_as_52 (by decide)) ?_
  refine ah_cons (as_iconst C dX12_as_55 (by decide)) ?_
  refine ah_cons (as_goto C dX12_as_56 (by decide)) ?_
  refine ah_cons (as_iconst C dX12_as_59 (by decide)) ?_
  refine ah_cons (as_istore_n C dX12_as_60 rfl (by decide)) ?_
  refine ah_cons (as_iload_n C dX12_as_61 rfl) ?_
  refine ah_cons (as_if_eq C dX12_as_62 (by decide)) ?_
  refine ah_cons (as_iload_n C dX12_as_65 rfl) ?_
  refine ah_cons (as_goto C dX12_as_66 (by decide)) ?_
  refine ah_cons (as_iconst C dX12_as_69 (by decide)) ?_
  refine ah_cons (as_iret C rfl dX12_as_70) ?_
  exact ah_nil
def kX12_likeness (f : Nat) : List (Nat × ah_S) := [
  (0, ah_ald 0 1),
  (1, ah_ild 1 2),
  (2, ah_ild 2 3),
  (3, ah_vI [(12, aX12_areTwo f)] 3 6),
  (6, ah_zeq 18 9),
  (9, ah_ald 0 10),
  (10, ah_ild 1 11),
  (11, ah_ild 2 12),
  (12, ah_vI [(12, aX12_likenessOf f)] 3 15),
  (15, ah_goto 20),
  (18, ah_push (.int (-101)) 20),
  (20, ah_iret)]
def aX12_likeness (f : Nat) : ah_F := ah_fun (kX12_likeness f) 3 f
set_option maxRecDepth 100000 in
set_option maxHeartbeats 4000000 in
theorem mX12_likeness {l : Launch} {s0 : State} {D : va_G} {tc : Nat → ClassId} {ad : Nat → Nat} {A : Nat → Prop} (hW : ah_W0 s0 ad A) (f : Nat) : ah_Met l s0 D tc ad A yX12_likeness cX12_likeness 3 (some .int) 4 88 (aX12_likeness f) := by
  refine ah_met hW.1 (by decide) (fun p e s m args below meth c res C => ?_)
  refine ah_cons (as_aload_n C dX12_likeness_0 rfl) ?_
  refine ah_cons (as_iload_n C dX12_likeness_1 rfl) ?_
  refine ah_cons (as_iload_n C dX12_likeness_2 rfl) ?_
  refine ah_cons (as_vI (ah_t1 (ah_okV (n := 2) C (mX12_areTwo hW f) dX12_likeness_3 (ci := 12) rfl wt_541 wt_543 wt_542 wt_446 wt_544 ⟨by decide, by decide, by decide, by decide⟩ ⟨by decide, by decide⟩) ah_t0)) ?_
  refine ah_cons (as_if_eq C dX12_likeness_6 (by decide)) ?_
  refine ah_cons (as_aload_n C dX12_likeness_9 rfl) ?_
  refine ah_cons (as_iload_n C dX12_likeness_10 rfl) ?_
  refine ah_cons (as_iload_n C dX12_likeness_11 rfl) ?_
  refine ah_cons (as_vI (ah_t1 (ah_okV (n := 2) C (mX12_likenessOf hW f) dX12_likeness_12 (ci := 12) rfl wt_498 wt_500 wt_499 wt_446 wt_501 ⟨by decide, by decide, by decide, by decide⟩ ⟨by decide, by decide⟩) ah_t0)) ?_
  refine ah_cons (as_goto C dX12_likeness_15 (by decide)) ?_
  refine ah_cons (as_bipush C dX12_likeness_18 (by decide)) ?_
  refine ah_cons (as_iret C rfl dX12_likeness_20) ?_
  exact ah_nil
def kX12_apart (f : Nat) : List (Nat × ah_S) := [
  (0, ah_ald 0 1),
  (1, ah_ild 1 2),
  (2, ah_ild 2 3),
  (3, ah_vI [(12, aX12_areTwo f)] 3 6),
  (6, ah_zeq 18 9),
  (9, ah_ald 0 10),
  (10, ah_ild 1 11),
  (11, ah_ild 2 12),
  (12, ah_vI [(12, aX12_apartOf f)] 3 15),
  (15, ah_goto 20),
  (18, ah_push (.int (-101)) 20),
  (20, ah_iret)]
def aX12_apart (f : Nat) : ah_F := ah_fun (kX12_apart f) 3 f
set_option maxRecDepth 100000 in
set_option maxHeartbeats 4000000 in
theorem mX12_apart {l : Launch} {s0 : State} {D : va_G} {tc : Nat → ClassId} {ad : Nat → Nat} {A : Nat → Prop} (hW : ah_W0 s0 ad A) (f : Nat) : ah_Met l s0 D tc ad A yX12_apart cX12_apart 3 (some .int) 3 68 (aX12_apart f) := by
  refine ah_met hW.1 (by decide) (fun p e s m args below meth c res C => ?_)
  refine ah_cons (as_aload_n C dX12_apart_0 rfl) ?_
  refine ah_cons (as_iload_n C dX12_apart_1 rfl) ?_
  refine ah_cons (as_iload_n C dX12_apart_2 rfl) ?_
  refine ah_cons (as_vI (ah_t1 (ah_okV (n := 2) C (mX12_areTwo hW f) dX12_apart_3 (ci := 12) rfl wt_541 wt_543 wt_542 wt_446 wt_544 ⟨by decide, by decide, by decide, by decide⟩ ⟨by decide, by decide⟩) ah_t0)) ?_
  refine ah_cons (as_if_eq C dX12_apart_6 (by decide)) ?_
  refine ah_cons (as_aload_n C dX12_apart_9 rfl) ?_
  refine ah_cons (as_iload_n C dX12_apart_10 rfl) ?_
  refine ah_cons (as_iload_n C dX12_apart_11 rfl) ?_
  refine ah_cons (as_vI (ah_t1 (ah_okV (n := 2) C (mX12_apartOf hW f) dX12_apart_12 (ci := 12) rfl wt_494 wt_496 wt_495 wt_446 wt_497 ⟨by decide, by decide, by decide, by decide⟩ ⟨by decide, by decide⟩) ah_t0)) ?_
  refine ah_cons (as_goto C dX12_apart_15 (by decide)) ?_
  refine ah_cons (as_bipush C dX12_apart_18 (by decide)) ?_
  refine ah_cons (as_iret C rfl dX12_apart_20) ?_
  exact ah_nil
def kX12_carry (f : Nat) : List (Nat × ah_S) := [
  (0, ah_ald 0 1),
  (1, ah_ild 1 2),
  (2, ah_vI [(12, aX12_isSingle f)] 2 5),
  (5, ah_zeq 20 8),
  (8, ah_ild 2 9),
  (9, ah_i2l 10),
  (10, ah_push (.long (0)) 11),
  (11, ah_push (.long (5)) 14),
  (14, ah_sI (aX12_in f) 3 17),
  (17, ah_zeq 20 23),
  (20, ah_push (.int (-101)) 22),
  (22, ah_iret),
  (23, ah_ald 0 24),
  (24, ah_gfr [12] 11 27),
  (27, ah_ild 1 28),
  (28, ah_iald 0 29),
  (29, ah_push (.int (-1)) 30),
  (30, ah_ceq 36 33),
  (33, ah_push (.int (-103)) 35),
  (35, ah_iret),
  (36, ah_ald 0 37),
  (37, ah_gfr [12] 10 40),
  (40, ah_ild 1 41),
  (41, ah_iald 0 42),
  (42, ah_ild 2 43),
  (43, ah_sI (aX12_far f) 2 46),
  (46, ah_ist 3 47),
  (47, ah_ald 0 48),
  (48, ah_gfr [12] 10 51),
  (51, ah_ild 1 52),
  (52, ah_ild 2 53),
  (53, ah_iast 54),
  (54, ah_ald 0 55),
  (55, ah_dupR 56),
  (56, ah_gfi [12] 3 59),
  (59, ah_ild 3 60),
  (60, ah_bin (fun x y => x + y) 61),
  (61, ah_pfi [12] 3 64),
  (64, ah_ild 3 65),
  (65, ah_iret)]
def aX12_carry (f : Nat) : ah_F := ah_fun (kX12_carry f) 4 f
set_option maxRecDepth 100000 in
set_option maxHeartbeats 4000000 in
theorem mX12_carry {l : Launch} {s0 : State} {D : va_G} {tc : Nat → ClassId} {ad : Nat → Nat} {A : Nat → Prop} (hW : ah_W0 s0 ad A) (f : Nat) : ah_Met l s0 D tc ad A yX12_carry cX12_carry 4 (some .int) 2 46 (aX12_carry f) := by
  refine ah_met hW.1 (by decide) (fun p e s m args below meth c res C => ?_)
  refine ah_cons (as_aload_n C dX12_carry_0 rfl) ?_
  refine ah_cons (as_iload_n C dX12_carry_1 rfl) ?_
  refine ah_cons (as_vI (ah_t1 (ah_okV (n := 1) C (mX12_isSingle hW f) dX12_carry_2 (ci := 12) rfl wt_475 wt_477 wt_476 wt_446 wt_478 ⟨by decide, by decide, by decide, by decide⟩ ⟨by decide, by decide⟩) ah_t0)) ?_
  refine ah_cons (as_if_eq C dX12_carry_5 (by decide)) ?_
  refine ah_cons (as_iload_n C dX12_carry_8 rfl) ?_
  refine ah_cons (as_i2l C dX12_carry_9) ?_
  refine ah_cons (as_lconst C dX12_carry_10 (by decide)) ?_
  refine ah_cons (as_ldc2 C dX12_carry_11 wt_545) ?_
  refine ah_cons (as_sI C (mX12_in hW f) dX12_carry_14 wt_444 wt_445 wt_446 wt_447 ⟨by decide, by decide, by decide⟩ ⟨by decide, by decide⟩) ?_
  refine ah_cons (as_if_ne C dX12_carry_17 (by decide)) ?_
  refine ah_cons (as_bipush C dX12_carry_20 (by decide)) ?_
  refine ah_cons (as_iret C rfl dX12_carry_22) ?_
  refine ah_cons (as_aload_n C dX12_carry_23 rfl) ?_
  refine ah_cons (as_gfr C dX12_carry_24 fgX12_22) ?_
  refine ah_cons (as_iload_n C dX12_carry_27 rfl) ?_
  refine ah_cons (as_iald C dX12_carry_28) ?_
  refine ah_cons (as_iconst C dX12_carry_29 (by decide)) ?_
  refine ah_cons (as_icmp_eq C dX12_carry_30 (by decide)) ?_
  refine ah_cons (as_bipush C dX12_carry_33 (by decide)) ?_
  refine ah_cons (as_iret C rfl dX12_carry_35) ?_
  refine ah_cons (as_aload_n C dX12_carry_36 rfl) ?_
  refine ah_cons (as_gfr C dX12_carry_37 fgX12_19) ?_
  refine ah_cons (as_iload_n C dX12_carry_40 rfl) ?_
  refine ah_cons (as_iald C dX12_carry_41) ?_
  refine ah_cons (as_iload_n C dX12_carry_42 rfl) ?_
  refine ah_cons (as_sI C (mX12_far hW f) dX12_carry_43 wt_487 wt_488 wt_446 wt_489 ⟨by decide, by decide, by decide⟩ ⟨by decide, by decide⟩) ?_
  refine ah_cons (as_istore_n C dX12_carry_46 rfl (by decide)) ?_
  refine ah_cons (as_aload_n C dX12_carry_47 rfl) ?_
  refine ah_cons (as_gfr C dX12_carry_48 fgX12_19) ?_
  refine ah_cons (as_iload_n C dX12_carry_51 rfl) ?_
  refine ah_cons (as_iload_n C dX12_carry_52 rfl) ?_
  refine ah_cons (as_iast C dX12_carry_53) ?_
  refine ah_cons (as_aload_n C dX12_carry_54 rfl) ?_
  refine ah_cons (as_dupR C dX12_carry_55) ?_
  refine ah_cons (as_gfi C dX12_carry_56 fgX12_88) ?_
  refine ah_cons (as_iload_n C dX12_carry_59 rfl) ?_
  refine ah_cons (as_iadd C dX12_carry_60) ?_
  refine ah_cons (as_pfi C dX12_carry_61 fpX12_88) ?_
  refine ah_cons (as_iload_n C dX12_carry_64 rfl) ?_
  refine ah_cons (as_iret C rfl dX12_carry_65) ?_
  exact ah_nil
def kX12_bring (f : Nat) : List (Nat × ah_S) := [
  (0, ah_ald 0 1),
  (1, ah_ild 1 2),
  (2, ah_ild 2 3),
  (3, ah_vI [(12, aX12_areTwo f)] 3 6),
  (6, ah_zeq 9 12),
  (9, ah_push (.int (-101)) 11),
  (11, ah_iret),
  (12, ah_ald 0 13),
  (13, ah_gfr [12] 11 16),
  (16, ah_ild 1 17),
  (17, ah_iald 0 18),
  (18, ah_push (.int (-1)) 19),
  (19, ah_ceq 22 56),
  (22, ah_ald 0 23),
  (23, ah_gfr [12] 11 26),
  (26, ah_ild 2 27),
  (27, ah_iald 0 28),
  (28, ah_push (.int (-1)) 29),
  (29, ah_ceq 32 56),
  (32, ah_ald 0 33),
  (33, ah_ild 1 34),
  (34, ah_ild 2 35),
  (35, ah_vI [(12, aX12_mayBe f)] 3 38),
  (38, ah_zeq 56 41),
  (41, ah_ald 0 42),
  (42, ah_gfr [12] 10 45),
  (45, ah_ild 1 46),
  (46, ah_iald 0 47),
  (47, ah_ald 0 48),
  (48, ah_gfr [12] 10 51),
  (51, ah_ild 2 52),
  (52, ah_iald 0 53),
  (53, ah_ceq 59 56),
  (56, ah_push (.int (-103)) 58),
  (58, ah_iret),
  (59, ah_ald 0 60),
  (60, ah_gfr [12] 11 63),
  (63, ah_ild 1 64),
  (64, ah_ild 2 65),
  (65, ah_iast 66),
  (66, ah_ald 0 67),
  (67, ah_gfr [12] 11 70),
  (70, ah_ild 2 71),
  (71, ah_ild 1 72),
  (72, ah_iast 73),
  (73, ah_ald 0 74),
  (74, ah_dupR 75),
  (75, ah_gfi [12] 4 78),
  (78, ah_push (.int (1)) 79),
  (79, ah_bin (fun x y => x + y) 80),
  (80, ah_pfi [12] 4 83),
  (83, ah_ald 0 84),
  (84, ah_ild 1 85),
  (85, ah_ild 2 86),
  (86, ah_vI [(12, aX12_likenessOf f)] 3 89),
  (89, ah_iret)]
def aX12_bring (f : Nat) : ah_F := ah_fun (kX12_bring f) 3 f
set_option maxRecDepth 100000 in
set_option maxHeartbeats 4000000 in
theorem mX12_bring {l : Launch} {s0 : State} {D : va_G} {tc : Nat → ClassId} {ad : Nat → Nat} {A : Nat → Prop} (hW : ah_W0 s0 ad A) (f : Nat) : ah_Met l s0 D tc ad A yX12_bring cX12_bring 3 (some .int) 4 88 (aX12_bring f) := by
  refine ah_met hW.1 (by decide) (fun p e s m args below meth c res C => ?_)
  refine ah_cons (as_aload_n C dX12_bring_0 rfl) ?_
  refine ah_cons (as_iload_n C dX12_bring_1 rfl) ?_
  refine ah_cons (as_iload_n C dX12_bring_2 rfl) ?_
  refine ah_cons (as_vI (ah_t1 (ah_okV (n := 2) C (mX12_areTwo hW f) dX12_bring_3 (ci := 12) rfl wt_541 wt_543 wt_542 wt_446 wt_544 ⟨by decide, by decide, by decide, by decide⟩ ⟨by decide, by decide⟩) ah_t0)) ?_
  refine ah_cons (as_if_ne C dX12_bring_6 (by decide)) ?_
  refine ah_cons (as_bipush C dX12_bring_9 (by decide)) ?_
  refine ah_cons (as_iret C rfl dX12_bring_11) ?_
  refine ah_cons (as_aload_n C dX12_bring_12 rfl) ?_
  refine ah_cons (as_gfr C dX12_bring_13 fgX12_22) ?_
  refine ah_cons (as_iload_n C dX12_bring_16 rfl) ?_
  refine ah_cons (as_iald C dX12_bring_17) ?_
  refine ah_cons (as_iconst C dX12_bring_18 (by decide)) ?_
  refine ah_cons (as_icmp_ne C dX12_bring_19 (by decide)) ?_
  refine ah_cons (as_aload_n C dX12_bring_22 rfl) ?_
  refine ah_cons (as_gfr C dX12_bring_23 fgX12_22) ?_
  refine ah_cons (as_iload_n C dX12_bring_26 rfl) ?_
  refine ah_cons (as_iald C dX12_bring_27) ?_
  refine ah_cons (as_iconst C dX12_bring_28 (by decide)) ?_
  refine ah_cons (as_icmp_ne C dX12_bring_29 (by decide)) ?_
  refine ah_cons (as_aload_n C dX12_bring_32 rfl) ?_
  refine ah_cons (as_iload_n C dX12_bring_33 rfl) ?_
  refine ah_cons (as_iload_n C dX12_bring_34 rfl) ?_
  refine ah_cons (as_vI (ah_t1 (ah_okV (n := 2) C (mX12_mayBe hW f) dX12_bring_35 (ci := 12) rfl wt_490 wt_492 wt_491 wt_446 wt_493 ⟨by decide, by decide, by decide, by decide⟩ ⟨by decide, by decide⟩) ah_t0)) ?_
  refine ah_cons (as_if_eq C dX12_bring_38 (by decide)) ?_
  refine ah_cons (as_aload_n C dX12_bring_41 rfl) ?_
  refine ah_cons (as_gfr C dX12_bring_42 fgX12_19) ?_
  refine ah_cons (as_iload_n C dX12_bring_45 rfl) ?_
  refine ah_cons (as_iald C dX12_bring_46) ?_
  refine ah_cons (as_aload_n C dX12_bring_47 rfl) ?_
  refine ah_cons (as_gfr C dX12_bring_48 fgX12_19) ?_
  refine ah_cons (as_iload_n C dX12_bring_51 rfl) ?_
  refine ah_cons (as_iald C dX12_bring_52) ?_
  refine ah_cons (as_icmp_eq C dX12_bring_53 (by decide)) ?_
  refine ah_cons (as_bipush C dX12_bring_56 (by decide)) ?_
  refine ah_cons (as_iret C rfl dX12_bring_58) ?_
  refine ah_cons (as_aload_n C dX12_bring_59 rfl) ?_
  refine ah_cons (as_gfr C dX12_bring_60 fgX12_22) ?_
  refine ah_cons (as_iload_n C dX12_bring_63 rfl) ?_
  refine ah_cons (as_iload_n C dX12_bring_64 rfl) ?_
  refine ah_cons (as_iast C dX12_bring_65) ?_
  refine ah_cons (as_aload_n C dX12_bring_66 rfl) ?_
  refine ah_cons (as_gfr C dX12_bring_67 fgX12_22) ?_
  refine ah_cons (as_iload_n C dX12_bring_70 rfl) ?_
  refine ah_cons (as_iload_n C dX12_bring_71 rfl) ?_
  refine ah_cons (as_iast C dX12_bring_72) ?_
  refine ah_cons (as_aload_n C dX12_bring_73 rfl) ?_
  refine ah_cons (as_dupR C dX12_bring_74) ?_
  refine ah_cons (as_gfi C dX12_bring_75 fgX12_91) ?_
  refine ah_cons (as_iconst C dX12_bring_78 (by decide)) ?_
  refine ah_cons (as_iadd C dX12_bring_79) ?_
  refine ah_cons (as_pfi C dX12_bring_80 fpX12_91) ?_
  refine ah_cons (as_aload_n C dX12_bring_83 rfl) ?_
  refine ah_cons (as_iload_n C dX12_bring_84 rfl) ?_
  refine ah_cons (as_iload_n C dX12_bring_85 rfl) ?_
  refine ah_cons (as_vI (ah_t1 (ah_okV (n := 2) C (mX12_likenessOf hW f) dX12_bring_86 (ci := 12) rfl wt_498 wt_500 wt_499 wt_446 wt_501 ⟨by decide, by decide, by decide, by decide⟩ ⟨by decide, by decide⟩) ah_t0)) ?_
  refine ah_cons (as_iret C rfl dX12_bring_89) ?_
  exact ah_nil
def kX12_part (f : Nat) : List (Nat × ah_S) := [
  (0, ah_ald 0 1),
  (1, ah_ild 1 2),
  (2, ah_vI [(12, aX12_isSingle f)] 2 5),
  (5, ah_zeq 8 11),
  (8, ah_push (.int (-101)) 10),
  (10, ah_iret),
  (11, ah_ald 0 12),
  (12, ah_gfr [12] 11 15),
  (15, ah_ild 1 16),
  (16, ah_iald 0 17),
  (17, ah_ist 2 18),
  (18, ah_ild 2 19),
  (19, ah_push (.int (-1)) 20),
  (20, ah_ceq 23 26),
  (23, ah_push (.int (-103)) 25),
  (25, ah_iret),
  (26, ah_ald 0 27),
  (27, ah_gfr [12] 11 30),
  (30, ah_ild 1 31),
  (31, ah_push (.int (-1)) 32),
  (32, ah_iast 33),
  (33, ah_ald 0 34),
  (34, ah_gfr [12] 11 37),
  (37, ah_ild 2 38),
  (38, ah_push (.int (-1)) 39),
  (39, ah_iast 40),
  (40, ah_ald 0 41),
  (41, ah_dupR 42),
  (42, ah_gfi [12] 5 45),
  (45, ah_push (.int (1)) 46),
  (46, ah_bin (fun x y => x + y) 47),
  (47, ah_pfi [12] 5 50),
  (50, ah_ild 2 51),
  (51, ah_iret)]
def aX12_part (f : Nat) : ah_F := ah_fun (kX12_part f) 3 f
set_option maxRecDepth 100000 in
set_option maxHeartbeats 4000000 in
theorem mX12_part {l : Launch} {s0 : State} {D : va_G} {tc : Nat → ClassId} {ad : Nat → Nat} {A : Nat → Prop} (hW : ah_W0 s0 ad A) (f : Nat) : ah_Met l s0 D tc ad A yX12_part cX12_part 3 (some .int) 2 46 (aX12_part f) := by
  refine ah_met hW.1 (by decide) (fun p e s m args below meth c res C => ?_)
  refine ah_cons (as_aload_n C dX12_part_0 rfl) ?_
  refine ah_cons (as_iload_n C dX12_part_1 rfl) ?_
  refine ah_cons (as_vI (ah_t1 (ah_okV (n := 1) C (mX12_isSingle hW f) dX12_part_2 (ci := 12) rfl wt_475 wt_477 wt_476 wt_446 wt_478 ⟨by decide, by decide, by decide, by decide⟩ ⟨by decide, by decide⟩) ah_t0)) ?_
  refine ah_cons (as_if_ne C dX12_part_5 (by decide)) ?_
  refine ah_cons (as_bipush C dX12_part_8 (by decide)) ?_
  refine ah_cons (as_iret C rfl dX12_part_10) ?_
  refine ah_cons (as_aload_n C dX12_part_11 rfl) ?_
  refine ah_cons (as_gfr C dX12_part_12 fgX12_22) ?_
  refine ah_cons (as_iload_n C dX12_part_15 rfl) ?_
  refine ah_cons (as_iald C dX12_part_16) ?_
  refine ah_cons (as_istore_n C dX12_part_17 rfl (by decide)) ?_
  refine ah_cons (as_iload_n C dX12_part_18 rfl) ?_
  refine ah_cons (as_iconst C dX12_part_19 (by decide)) ?_
  refine ah_cons (as_icmp_ne C dX12_part_20 (by decide)) ?_
  refine ah_cons (as_bipush C dX12_part_23 (by decide)) ?_
  refine ah_cons (as_iret C rfl dX12_part_25) ?_
  refine ah_cons (as_aload_n C dX12_part_26 rfl) ?_
  refine ah_cons (as_gfr C dX12_part_27 fgX12_22) ?_
  refine ah_cons (as_iload_n C dX12_part_30 rfl) ?_
  refine ah_cons (as_iconst C dX12_part_31 (by decide)) ?_
  refine ah_cons (as_iast C dX12_part_32) ?_
  refine ah_cons (as_aload_n C dX12_part_33 rfl) ?_
  refine ah_cons (as_gfr C dX12_part_34 fgX12_22) ?_
  refine ah_cons (as_iload_n C dX12_part_37 rfl) ?_
  refine ah_cons (as_iconst C dX12_part_38 (by decide)) ?_
  refine ah_cons (as_iast C dX12_part_39) ?_
  refine ah_cons (as_aload_n C dX12_part_40 rfl) ?_
  refine ah_cons (as_dupR C dX12_part_41) ?_
  refine ah_cons (as_gfi C dX12_part_42 fgX12_94) ?_
  refine ah_cons (as_iconst C dX12_part_45 (by decide)) ?_
  refine ah_cons (as_iadd C dX12_part_46) ?_
  refine ah_cons (as_pfi C dX12_part_47 fpX12_94) ?_
  refine ah_cons (as_iload_n C dX12_part_50 rfl) ?_
  refine ah_cons (as_iret C rfl dX12_part_51) ?_
  exact ah_nil
def kX12_shrink (f : Nat) : List (Nat × ah_S) := [
  (0, ah_ald 0 1),
  (1, ah_ild 1 2),
  (2, ah_vI [(12, aX12_isSingle f)] 2 5),
  (5, ah_zeq 8 11),
  (8, ah_push (.int (-101)) 10),
  (10, ah_iret),
  (11, ah_ild 2 12),
  (12, ah_i2l 13),
  (13, ah_push (.long (0)) 14),
  (14, ah_push (.long (9)) 17),
  (17, ah_sI (aX12_in f) 3 20),
  (20, ah_zeq 23 26),
  (23, ah_push (.int (-102)) 25),
  (25, ah_iret),
  (26, ah_ald 0 27),
  (27, ah_gfr [12] 11 30),
  (30, ah_ild 1 31),
  (31, ah_iald 0 32),
  (32, ah_push (.int (-1)) 33),
  (33, ah_ceq 39 36),
  (36, ah_push (.int (-103)) 38),
  (38, ah_iret),
  (39, ah_ald 0 40),
  (40, ah_gfr [12] 9 43),
  (43, ah_ild 1 44),
  (44, ah_iald 0 45),
  (45, ah_ist 3 46),
  (46, ah_ald 0 47),
  (47, ah_gfr [12] 9 50),
  (50, ah_ild 1 51),
  (51, ah_ild 2 52),
  (52, ah_iast 53),
  (53, ah_ild 3 54),
  (54, ah_iret)]
def aX12_shrink (f : Nat) : ah_F := ah_fun (kX12_shrink f) 4 f
set_option maxRecDepth 100000 in
set_option maxHeartbeats 4000000 in
theorem mX12_shrink {l : Launch} {s0 : State} {D : va_G} {tc : Nat → ClassId} {ad : Nat → Nat} {A : Nat → Prop} (hW : ah_W0 s0 ad A) (f : Nat) : ah_Met l s0 D tc ad A yX12_shrink cX12_shrink 4 (some .int) 2 46 (aX12_shrink f) := by
  refine ah_met hW.1 (by decide) (fun p e s m args below meth c res C => ?_)
  refine ah_cons (as_aload_n C dX12_shrink_0 rfl) ?_
  refine ah_cons (as_iload_n C dX12_shrink_1 rfl) ?_
  refine ah_cons (as_vI (ah_t1 (ah_okV (n := 1) C (mX12_isSingle hW f) dX12_shrink_2 (ci := 12) rfl wt_475 wt_477 wt_476 wt_446 wt_478 ⟨by decide, by decide, by decide, by decide⟩ ⟨by decide, by decide⟩) ah_t0)) ?_
  refine ah_cons (as_if_ne C dX12_shrink_5 (by decide)) ?_
  refine ah_cons (as_bipush C dX12_shrink_8 (by decide)) ?_
  refine ah_cons (as_iret C rfl dX12_shrink_10) ?_
  refine ah_cons (as_iload_n C dX12_shrink_11 rfl) ?_
  refine ah_cons (as_i2l C dX12_shrink_12) ?_
  refine ah_cons (as_lconst C dX12_shrink_13 (by decide)) ?_
  refine ah_cons (as_ldc2 C dX12_shrink_14 wt_546) ?_
  refine ah_cons (as_sI C (mX12_in hW f) dX12_shrink_17 wt_444 wt_445 wt_446 wt_447 ⟨by decide, by decide, by decide⟩ ⟨by decide, by decide⟩) ?_
  refine ah_cons (as_if_ne C dX12_shrink_20 (by decide)) ?_
  refine ah_cons (as_bipush C dX12_shrink_23 (by decide)) ?_
  refine ah_cons (as_iret C rfl dX12_shrink_25) ?_
  refine ah_cons (as_aload_n C dX12_shrink_26 rfl) ?_
  refine ah_cons (as_gfr C dX12_shrink_27 fgX12_22) ?_
  refine ah_cons (as_iload_n C dX12_shrink_30 rfl) ?_
  refine ah_cons (as_iald C dX12_shrink_31) ?_
  refine ah_cons (as_iconst C dX12_shrink_32 (by decide)) ?_
  refine ah_cons (as_icmp_eq C dX12_shrink_33 (by decide)) ?_
  refine ah_cons (as_bipush C dX12_shrink_36 (by decide)) ?_
  refine ah_cons (as_iret C rfl dX12_shrink_38) ?_
  refine ah_cons (as_aload_n C dX12_shrink_39 rfl) ?_
  refine ah_cons (as_gfr C dX12_shrink_40 fgX12_16) ?_
  refine ah_cons (as_iload_n C dX12_shrink_43 rfl) ?_
  refine ah_cons (as_iald C dX12_shrink_44) ?_
  refine ah_cons (as_istore_n C dX12_shrink_45 rfl (by decide)) ?_
  refine ah_cons (as_aload_n C dX12_shrink_46 rfl) ?_
  refine ah_cons (as_gfr C dX12_shrink_47 fgX12_16) ?_
  refine ah_cons (as_iload_n C dX12_shrink_50 rfl) ?_
  refine ah_cons (as_iload_n C dX12_shrink_51 rfl) ?_
  refine ah_cons (as_iast C dX12_shrink_52) ?_
  refine ah_cons (as_iload_n C dX12_shrink_53 rfl) ?_
  refine ah_cons (as_iret C rfl dX12_shrink_54) ?_
  exact ah_nil
def kX12_pairsOf (f : Nat) : List (Nat × ah_S) := [
  (4, ah_ild 3 5),
  (0, ah_push (.int (0)) 1),
  (1, ah_ist 2 2),
  (2, ah_push (.int (0)) 3),
  (3, ah_lim 4 [0, 1, 2, 3] (ah_ist 3 4)),
  (5, ah_ald 0 6),
  (6, ah_gfi [12] 2 9),
  (9, ah_clt 12 33),
  (12, ah_ild 2 13),
  (13, ah_ald 1 14),
  (14, ah_ild 3 15),
  (15, ah_iald 0 16),
  (16, ah_ild 3 17),
  (17, ah_cgt 20 24),
  (20, ah_push (.int (1)) 21),
  (21, ah_goto 25),
  (24, ah_push (.int (0)) 25),
  (25, ah_bin (fun x y => x + y) 26),
  (26, ah_ist 2 27),
  (27, ah_inc 3 (1) 30),
  (30, ah_lim 4 [0, 1, 2, 3] (ah_goto 4)),
  (33, ah_ild 2 34),
  (34, ah_iret)]
def aX12_pairsOf (f : Nat) : ah_F := ah_fun (kX12_pairsOf f) 4 f
set_option maxRecDepth 100000 in
set_option maxHeartbeats 4000000 in
theorem mX12_pairsOf {l : Launch} {s0 : State} {D : va_G} {tc : Nat → ClassId} {ad : Nat → Nat} {A : Nat → Prop} (hW : ah_W0 s0 ad A) (f : Nat) : ah_Met l s0 D tc ad A yX12_pairsOf cX12_pairsOf 4 (some .int) 0 0 (aX12_pairsOf f) := by
  refine ah_met hW.1 (by decide) (fun p e s m args below meth c res C => ?_)
  refine ah_cons (as_iload_n C dX12_pairsOf_4 rfl) ?_
  refine ah_cons (as_iconst C dX12_pairsOf_0 (by decide)) ?_
  refine ah_cons (as_istore_n C dX12_pairsOf_1 rfl (by decide)) ?_
  refine ah_cons (as_iconst C dX12_pairsOf_2 (by decide)) ?_
  refine ah_cons (as_lim (as_istore_n C dX12_pairsOf_3 rfl (by decide))) ?_
  refine ah_cons (as_aload_n C dX12_pairsOf_5 rfl) ?_
  refine ah_cons (as_gfi C dX12_pairsOf_6 fgX12_85) ?_
  refine ah_cons (as_icmp_ge C dX12_pairsOf_9 (by decide)) ?_
  refine ah_cons (as_iload_n C dX12_pairsOf_12 rfl) ?_
  refine ah_cons (as_aload_n C dX12_pairsOf_13 rfl) ?_
  refine ah_cons (as_iload_n C dX12_pairsOf_14 rfl) ?_
  refine ah_cons (as_iald C dX12_pairsOf_15) ?_
  refine ah_cons (as_iload_n C dX12_pairsOf_16 rfl) ?_
  refine ah_cons (as_icmp_le C dX12_pairsOf_17 (by decide)) ?_
  refine ah_cons (as_iconst C dX12_pairsOf_20 (by decide)) ?_
  refine ah_cons (as_goto C dX12_pairsOf_21 (by decide)) ?_
  refine ah_cons (as_iconst C dX12_pairsOf_24 (by decide)) ?_
  refine ah_cons (as_iadd C dX12_pairsOf_25) ?_
  refine ah_cons (as_istore_n C dX12_pairsOf_26 rfl (by decide)) ?_
  refine ah_cons (as_iinc C dX12_pairsOf_27 (by decide) (by decide)) ?_
  refine ah_cons (as_lim (as_goto C dX12_pairsOf_30 (by decide))) ?_
  refine ah_cons (as_iload_n C dX12_pairsOf_33 rfl) ?_
  refine ah_cons (as_iret C rfl dX12_pairsOf_34) ?_
  exact ah_nil
def kX12_may (f : Nat) : List (Nat × ah_S) := [
  (23, ah_ild 1 24),
  (46, ah_ild 1 47),
  (56, ah_ild 2 57),
  (0, ah_ald 0 1),
  (1, ah_vI [(12, aX12_lacks f)] 1 4),
  (4, ah_zeq 10 7),
  (7, ah_push (.int (-103)) 9),
  (9, ah_iret),
  (10, ah_ald 0 11),
  (11, ah_gfr [12] 11 14),
  (14, ah_ald 0 15),
  (15, ah_gfr [12] 12 18),
  (18, ah_sV (aX12_copy f) 2 21),
  (21, ah_push (.int (0)) 22),
  (22, ah_lim 23 [0, 1] (ah_ist 1 23)),
  (24, ah_ald 0 25),
  (25, ah_gfi [12] 2 28),
  (28, ah_clt 31 44),
  (31, ah_ald 0 32),
  (32, ah_gfr [12] 11 35),
  (35, ah_ild 1 36),
  (36, ah_push (.int (-1)) 37),
  (37, ah_iast 38),
  (38, ah_inc 1 (1) 41),
  (41, ah_lim 23 [0, 1] (ah_goto 23)),
  (44, ah_push (.int (0)) 45),
  (45, ah_lim 46 [0, 1] (ah_ist 1 46)),
  (47, ah_ald 0 48),
  (48, ah_gfi [12] 2 51),
  (51, ah_clt 54 149),
  (54, ah_push (.int (0)) 55),
  (55, ah_lim 56 [0, 1, 2] (ah_ist 2 56)),
  (57, ah_ald 0 58),
  (58, ah_gfi [12] 2 61),
  (61, ah_clt 64 143),
  (64, ah_ald 0 65),
  (65, ah_gfr [12] 12 68),
  (68, ah_ild 1 69),
  (69, ah_iald 0 70),
  (70, ah_push (.int (-1)) 71),
  (71, ah_ceq 143 74),
  (74, ah_ald 0 75),
  (75, ah_gfr [12] 11 78),
  (78, ah_ild 1 79),
  (79, ah_iald 0 80),
  (80, ah_push (.int (-1)) 81),
  (81, ah_ceq 84 143),
  (84, ah_ald 0 85),
  (85, ah_gfr [12] 12 88),
  (88, ah_ild 2 89),
  (89, ah_iald 0 90),
  (90, ah_push (.int (-1)) 91),
  (91, ah_ceq 137 94),
  (94, ah_ald 0 95),
  (95, ah_gfr [12] 11 98),
  (98, ah_ild 2 99),
  (99, ah_iald 0 100),
  (100, ah_push (.int (-1)) 101),
  (101, ah_ceq 104 137),
  (104, ah_ald 0 105),
  (105, ah_gfr [12] 12 108),
  (108, ah_ild 1 109),
  (109, ah_iald 0 110),
  (110, ah_ild 2 111),
  (111, ah_ceq 137 114),
  (114, ah_ald 0 115),
  (115, ah_ild 1 116),
  (116, ah_ild 2 117),
  (117, ah_vI [(12, aX12_mayBe f)] 3 120),
  (120, ah_zeq 137 123),
  (123, ah_ald 0 124),
  (124, ah_gfr [12] 11 127),
  (127, ah_ild 1 128),
  (128, ah_ild 2 129),
  (129, ah_iast 130),
  (130, ah_ald 0 131),
  (131, ah_gfr [12] 11 134),
  (134, ah_ild 2 135),
  (135, ah_ild 1 136),
  (136, ah_iast 137),
  (137, ah_inc 2 (1) 140),
  (140, ah_lim 56 [0, 1, 2] (ah_goto 56)),
  (143, ah_inc 1 (1) 146),
  (146, ah_lim 46 [0, 1] (ah_goto 46)),
  (149, ah_ald 0 150),
  (150, ah_dupR 151),
  (151, ah_gfi [12] 6 154),
  (154, ah_push (.int (1)) 155),
  (155, ah_bin (fun x y => x + y) 156),
  (156, ah_pfi [12] 6 159),
  (159, ah_ald 0 160),
  (160, ah_ald 0 161),
  (161, ah_gfr [12] 11 164),
  (164, ah_vI [(12, aX12_pairsOf f)] 2 167),
  (167, ah_iret)]
def aX12_may (f : Nat) : ah_F := ah_fun (kX12_may f) 3 f
set_option maxRecDepth 100000 in
set_option maxHeartbeats 4000000 in
theorem mX12_may {l : Launch} {s0 : State} {D : va_G} {tc : Nat → ClassId} {ad : Nat → Nat} {A : Nat → Prop} (hW : ah_W0 s0 ad A) (f : Nat) : ah_Met l s0 D tc ad A yX12_may cX12_may 3 (some .int) 3 66 (aX12_may f) := by
  refine ah_met hW.1 (by decide) (fun p e s m args below meth c res C => ?_)
  refine ah_cons (as_iload_n C dX12_may_23 rfl) ?_
  refine ah_cons (as_iload_n C dX12_may_46 rfl) ?_
  refine ah_cons (as_iload_n C dX12_may_56 rfl) ?_
  refine ah_cons (as_aload_n C dX12_may_0 rfl) ?_
  refine ah_cons (as_vI (ah_t1 (ah_okV (n := 0) C (mX12_lacks hW f) dX12_may_1 (ci := 12) rfl wt_547 wt_549 wt_548 wt_446 wt_550 ⟨by decide, by decide, by decide, by decide⟩ ⟨by decide, by decide⟩) ah_t0)) ?_
  refine ah_cons (as_if_eq C dX12_may_4 (by decide)) ?_
  refine ah_cons (as_bipush C dX12_may_7 (by decide)) ?_
  refine ah_cons (as_iret C rfl dX12_may_9) ?_
  refine ah_cons (as_aload_n C dX12_may_10 rfl) ?_
  refine ah_cons (as_gfr C dX12_may_11 fgX12_22) ?_
  refine ah_cons (as_aload_n C dX12_may_14 rfl) ?_
  refine ah_cons (as_gfr C dX12_may_15 fgX12_25) ?_
  refine ah_cons (as_sV C (mX12_copy hW f) dX12_may_18 wt_552 wt_553 wt_446 wt_554 ⟨by decide, by decide, by decide⟩ ⟨by decide, by decide⟩) ?_
  refine ah_cons (as_iconst C dX12_may_21 (by decide)) ?_
  refine ah_cons (as_lim (as_istore_n C dX12_may_22 rfl (by decide))) ?_
  refine ah_cons (as_aload_n C dX12_may_24 rfl) ?_
  refine ah_cons (as_gfi C dX12_may_25 fgX12_85) ?_
  refine ah_cons (as_icmp_ge C dX12_may_28 (by decide)) ?_
  refine ah_cons (as_aload_n C dX12_may_31 rfl) ?_
  refine ah_cons (as_gfr C dX12_may_32 fgX12_22) ?_
  refine ah_cons (as_iload_n C dX12_may_35 rfl) ?_
  refine ah_cons (as_iconst C dX12_may_36 (by decide)) ?_
  refine ah_cons (as_iast C dX12_may_37) ?_
  refine ah_cons (as_iinc C dX12_may_38 (by decide) (by decide)) ?_
  refine ah_cons (as_lim (as_goto C dX12_may_41 (by decide))) ?_
  refine ah_cons (as_iconst C dX12_may_44 (by decide)) ?_
  refine ah_cons (as_lim (as_istore_n C dX12_may_45 rfl (by decide))) ?_
  refine ah_cons (as_aload_n C dX12_may_47 rfl) ?_
  refine ah_cons (as_gfi C dX12_may_48 fgX12_85) ?_
  refine ah_cons (as_icmp_ge C dX12_may_51 (by decide)) ?_
  refine ah_cons (as_iconst C dX12_may_54 (by decide)) ?_
  refine ah_cons (as_lim (as_istore_n C dX12_may_55 rfl (by decide))) ?_
  refine ah_cons (as_aload_n C dX12_may_57 rfl) ?_
  refine ah_cons (as_gfi C dX12_may_58 fgX12_85) ?_
  refine ah_cons (as_icmp_ge C dX12_may_61 (by decide)) ?_
  refine ah_cons (as_aload_n C dX12_may_64 rfl) ?_
  refine ah_cons (as_gfr C dX12_may_65 fgX12_25) ?_
  refine ah_cons (as_iload_n C dX12_may_68 rfl) ?_
  refine ah_cons (as_iald C dX12_may_69) ?_
  refine ah_cons (as_iconst C dX12_may_70 (by decide)) ?_
  refine ah_cons (as_icmp_eq C dX12_may_71 (by decide)) ?_
  refine ah_cons (as_aload_n C dX12_may_74 rfl) ?_
  refine ah_cons (as_gfr C dX12_may_75 fgX12_22) ?_
  refine ah_cons (as_iload_n C dX12_may_78 rfl) ?_
  refine ah_cons (as_iald C dX12_may_79) ?_
  refine ah_cons (as_iconst C dX12_may_80 (by decide)) ?_
  refine ah_cons (as_icmp_ne C dX12_may_81 (by decide)) ?_
  refine ah_cons (as_aload_n C dX12_may_84 rfl) ?_
  refine ah_cons (as_gfr C dX12_may_85 fgX12_25) ?_
  refine ah_cons (as_iload_n C dX12_may_88 rfl) ?_
  refine ah_cons (as_iald C dX12_may_89) ?_
  refine ah_cons (as_iconst C dX12_may_90 (by decide)) ?_
  refine ah_cons (as_icmp_eq C dX12_may_91 (by decide)) ?_
  refine ah_cons (as_aload_n C dX12_may_94 rfl) ?_
  refine ah_cons (as_gfr C dX12_may_95 fgX12_22) ?_
  refine ah_cons (as_iload_n C dX12_may_98 rfl) ?_
  refine ah_cons (as_iald C dX12_may_99) ?_
  refine ah_cons (as_iconst C dX12_may_100 (by decide)) ?_
  refine ah_cons (as_icmp_ne C dX12_may_101 (by decide)) ?_
  refine ah_cons (as_aload_n C dX12_may_104 rfl) ?_
  refine ah_cons (as_gfr C dX12_may_105 fgX12_25) ?_
  refine ah_cons (as_iload_n C dX12_may_108 rfl) ?_
  refine ah_cons (as_iald C dX12_may_109) ?_
  refine ah_cons (as_iload_n C dX12_may_110 rfl) ?_
  refine ah_cons (as_icmp_eq C dX12_may_111 (by decide)) ?_
  refine ah_cons (as_aload_n C dX12_may_114 rfl) ?_
  refine ah_cons (as_iload_n C dX12_may_115 rfl) ?_
  refine ah_cons (as_iload_n C dX12_may_116 rfl) ?_
  refine ah_cons (as_vI (ah_t1 (ah_okV (n := 2) C (mX12_mayBe hW f) dX12_may_117 (ci := 12) rfl wt_490 wt_492 wt_491 wt_446 wt_493 ⟨by decide, by decide, by decide, by decide⟩ ⟨by decide, by decide⟩) ah_t0)) ?_
  refine ah_cons (as_if_eq C dX12_may_120 (by decide)) ?_
  refine ah_cons (as_aload_n C dX12_may_123 rfl) ?_
  refine ah_cons (as_gfr C dX12_may_124 fgX12_22) ?_
  refine ah_cons (as_iload_n C dX12_may_127 rfl) ?_
  refine ah_cons (as_iload_n C dX12_may_128 rfl) ?_
  refine ah_cons (as_iast C dX12_may_129) ?_
  refine ah_cons (as_aload_n C dX12_may_130 rfl) ?_
  refine ah_cons (as_gfr C dX12_may_131 fgX12_22) ?_
  refine ah_cons (as_iload_n C dX12_may_134 rfl) ?_
  refine ah_cons (as_iload_n C dX12_may_135 rfl) ?_
  refine ah_cons (as_iast C dX12_may_136) ?_
  refine ah_cons (as_iinc C dX12_may_137 (by decide) (by decide)) ?_
  refine ah_cons (as_lim (as_goto C dX12_may_140 (by decide))) ?_
  refine ah_cons (as_iinc C dX12_may_143 (by decide) (by decide)) ?_
  refine ah_cons (as_lim (as_goto C dX12_may_146 (by decide))) ?_
  refine ah_cons (as_aload_n C dX12_may_149 rfl) ?_
  refine ah_cons (as_dupR C dX12_may_150) ?_
  refine ah_cons (as_gfi C dX12_may_151 fgX12_97) ?_
  refine ah_cons (as_iconst C dX12_may_154 (by decide)) ?_
  refine ah_cons (as_iadd C dX12_may_155) ?_
  refine ah_cons (as_pfi C dX12_may_156 fpX12_97) ?_
  refine ah_cons (as_aload_n C dX12_may_159 rfl) ?_
  refine ah_cons (as_aload_n C dX12_may_160 rfl) ?_
  refine ah_cons (as_gfr C dX12_may_161 fgX12_22) ?_
  refine ah_cons (as_vI (ah_t1 (ah_okV (n := 1) C (mX12_pairsOf hW f) dX12_may_164 (ci := 12) rfl wt_555 wt_557 wt_556 wt_446 wt_558 ⟨by decide, by decide, by decide, by decide⟩ ⟨by decide, by decide⟩) ah_t0)) ?_
  refine ah_cons (as_iret C rfl dX12_may_167) ?_
  exact ah_nil
def kX12_firstRow (f : Nat) : List (Nat × ah_S) := [
  (2, ah_ild 1 3),
  (0, ah_push (.int (0)) 1),
  (1, ah_lim 2 [0, 1] (ah_ist 1 2)),
  (3, ah_push (.int (7)) 5),
  (5, ah_clt 8 28),
  (8, ah_ald 0 9),
  (9, ah_gfr [12] 13 12),
  (12, ah_ild 1 13),
  (13, ah_push (.int (-1)) 14),
  (14, ah_iast 15),
  (15, ah_ald 0 16),
  (16, ah_gfr [12] 14 19),
  (19, ah_ild 1 20),
  (20, ah_push (.int (-1)) 21),
  (21, ah_iast 22),
  (22, ah_inc 1 (1) 25),
  (25, ah_lim 2 [0, 1] (ah_goto 2)),
  (28, ah_vret)]
def aX12_firstRow (f : Nat) : ah_F := ah_fun (kX12_firstRow f) 2 f
set_option maxRecDepth 100000 in
set_option maxHeartbeats 4000000 in
theorem mX12_firstRow {l : Launch} {s0 : State} {D : va_G} {tc : Nat → ClassId} {ad : Nat → Nat} {A : Nat → Prop} (hW : ah_W0 s0 ad A) (f : Nat) : ah_Met l s0 D tc ad A yX12_firstRow cX12_firstRow 2 none 0 0 (aX12_firstRow f) := by
  refine ah_met hW.1 (by decide) (fun p e s m args below meth c res C => ?_)
  refine ah_cons (as_iload_n C dX12_firstRow_2 rfl) ?_
  refine ah_cons (as_iconst C dX12_firstRow_0 (by decide)) ?_
  refine ah_cons (as_lim (as_istore_n C dX12_firstRow_1 rfl (by decide))) ?_
  refine ah_cons (as_bipush C dX12_firstRow_3 (by decide)) ?_
  refine ah_cons (as_icmp_ge C dX12_firstRow_5 (by decide)) ?_
  refine ah_cons (as_aload_n C dX12_firstRow_8 rfl) ?_
  refine ah_cons (as_gfr C dX12_firstRow_9 fgX12_28) ?_
  refine ah_cons (as_iload_n C dX12_firstRow_12 rfl) ?_
  refine ah_cons (as_iconst C dX12_firstRow_13 (by decide)) ?_
  refine ah_cons (as_iast C dX12_firstRow_14) ?_
  refine ah_cons (as_aload_n C dX12_firstRow_15 rfl) ?_
  refine ah_cons (as_gfr C dX12_firstRow_16 fgX12_31) ?_
  refine ah_cons (as_iload_n C dX12_firstRow_19 rfl) ?_
  refine ah_cons (as_iconst C dX12_firstRow_20 (by decide)) ?_
  refine ah_cons (as_iast C dX12_firstRow_21) ?_
  refine ah_cons (as_iinc C dX12_firstRow_22 (by decide) (by decide)) ?_
  refine ah_cons (as_lim (as_goto C dX12_firstRow_25 (by decide))) ?_
  refine ah_cons (as_vret C rfl dX12_firstRow_28) ?_
  exact ah_nil
def kX12_nextRow (f : Nat) : List (Nat × ah_S) := [
  (7, ah_ild 1 8),
  (60, ah_ild 3 61),
  (0, ah_ald 0 1),
  (1, ah_gfi [12] 2 4),
  (4, ah_push (.int (1)) 5),
  (5, ah_bin (fun x y => x - y) 6),
  (6, ah_lim 7 [0, 1] (ah_ist 1 7)),
  (8, ah_zlt 135 11),
  (11, ah_ald 0 12),
  (12, ah_gfr [12] 13 15),
  (15, ah_ild 1 16),
  (16, ah_iald 0 17),
  (17, ah_ist 2 18),
  (18, ah_ild 2 19),
  (19, ah_push (.int (-1)) 20),
  (20, ah_ceq 28 23),
  (23, ah_ild 2 24),
  (24, ah_ild 1 25),
  (25, ah_cgt 28 129),
  (28, ah_ild 2 29),
  (29, ah_push (.int (-1)) 30),
  (30, ah_ceq 47 33),
  (33, ah_ald 0 34),
  (34, ah_gfr [12] 13 37),
  (37, ah_ild 2 38),
  (38, ah_push (.int (-1)) 39),
  (39, ah_iast 40),
  (40, ah_ald 0 41),
  (41, ah_gfr [12] 13 44),
  (44, ah_ild 1 45),
  (45, ah_push (.int (-1)) 46),
  (46, ah_iast 47),
  (47, ah_ild 2 48),
  (48, ah_push (.int (-1)) 49),
  (49, ah_ceq 52 56),
  (52, ah_ild 1 53),
  (53, ah_goto 57),
  (56, ah_ild 2 57),
  (57, ah_push (.int (1)) 58),
  (58, ah_bin (fun x y => x + y) 59),
  (59, ah_lim 60 [0, 1, 3] (ah_ist 3 60)),
  (61, ah_ald 0 62),
  (62, ah_gfi [12] 2 65),
  (65, ah_clt 68 129),
  (68, ah_ald 0 69),
  (69, ah_gfr [12] 13 72),
  (72, ah_ild 3 73),
  (73, ah_iald 0 74),
  (74, ah_push (.int (-1)) 75),
  (75, ah_ceq 78 123),
  (78, ah_ald 0 79),
  (79, ah_gfr [12] 11 82),
  (82, ah_ild 1 83),
  (83, ah_iald 0 84),
  (84, ah_push (.int (-1)) 85),
  (85, ah_ceq 88 123),
  (88, ah_ald 0 89),
  (89, ah_gfr [12] 11 92),
  (92, ah_ild 3 93),
  (93, ah_iald 0 94),
  (94, ah_push (.int (-1)) 95),
  (95, ah_ceq 98 123),
  (98, ah_ald 0 99),
  (99, ah_ild 1 100),
  (100, ah_ild 3 101),
  (101, ah_vI [(12, aX12_mayBe f)] 3 104),
  (104, ah_zeq 123 107),
  (107, ah_ald 0 108),
  (108, ah_gfr [12] 13 111),
  (111, ah_ild 1 112),
  (112, ah_ild 3 113),
  (113, ah_iast 114),
  (114, ah_ald 0 115),
  (115, ah_gfr [12] 13 118),
  (118, ah_ild 3 119),
  (119, ah_ild 1 120),
  (120, ah_iast 121),
  (121, ah_push (.int (1)) 122),
  (122, ah_zret),
  (123, ah_inc 3 (1) 126),
  (126, ah_lim 60 [0, 1, 3] (ah_goto 60)),
  (129, ah_inc 1 (-1) 132),
  (132, ah_lim 7 [0, 1] (ah_goto 7)),
  (135, ah_push (.int (0)) 136),
  (136, ah_zret)]
def aX12_nextRow (f : Nat) : ah_F := ah_fun (kX12_nextRow f) 4 f
set_option maxRecDepth 100000 in
set_option maxHeartbeats 4000000 in
theorem mX12_nextRow {l : Launch} {s0 : State} {D : va_G} {tc : Nat → ClassId} {ad : Nat → Nat} {A : Nat → Prop} (hW : ah_W0 s0 ad A) (f : Nat) : ah_Met l s0 D tc ad A yX12_nextRow cX12_nextRow 4 (some .boolean) 3 66 (aX12_nextRow f) := by
  refine ah_met hW.1 (by decide) (fun p e s m args below meth c res C => ?_)
  refine ah_cons (as_iload_n C dX12_nextRow_7 rfl) ?_
  refine ah_cons (as_iload_n C dX12_nextRow_60 rfl) ?_
  refine ah_cons (as_aload_n C dX12_nextRow_0 rfl) ?_
  refine ah_cons (as_gfi C dX12_nextRow_1 fgX12_85) ?_
  refine ah_cons (as_iconst C dX12_nextRow_4 (by decide)) ?_
  refine ah_cons (as_isub C dX12_nextRow_5) ?_
  refine ah_cons (as_lim (as_istore_n C dX12_nextRow_6 rfl (by decide))) ?_
  refine ah_cons (as_if_lt C dX12_nextRow_8 (by decide)) ?_
  refine ah_cons (as_aload_n C dX12_nextRow_11 rfl) ?_
  refine ah_cons (as_gfr C dX12_nextRow_12 fgX12_28) ?_
  refine ah_cons (as_iload_n C dX12_nextRow_15 rfl) ?_
  refine ah_cons (as_iald C dX12_nextRow_16) ?_
  refine ah_cons (as_istore_n C dX12_nextRow_17 rfl (by decide)) ?_
  refine ah_cons (as_iload_n C dX12_nextRow_18 rfl) ?_
  refine ah_cons (as_iconst C dX12_nextRow_19 (by decide)) ?_
  refine ah_cons (as_icmp_eq C dX12_nextRow_20 (by decide)) ?_
  refine ah_cons (as_iload_n C dX12_nextRow_23 rfl) ?_
  refine ah_cons (as_iload_n C dX12_nextRow_24 rfl) ?_
  refine ah_cons (as_icmp_le C dX12_nextRow_25 (by decide)) ?_
  refine ah_cons (as_iload_n C dX12_nextRow_28 rfl) ?_
  refine ah_cons (as_iconst C dX12_nextRow_29 (by decide)) ?_
  refine ah_cons (as_icmp_eq C dX12_nextRow_30 (by decide)) ?_
  refine ah_cons (as_aload_n C dX12_nextRow_33 rfl) ?_
  refine ah_cons (as_gfr C dX12_nextRow_34 fgX12_28) ?_
  refine ah_cons (as_iload_n C dX12_nextRow_37 rfl) ?_
  refine ah_cons (as_iconst C dX12_nextRow_38 (by decide)) ?_
  refine ah_cons (as_iast C dX12_nextRow_39) ?_
  refine ah_cons (as_aload_n C dX12_nextRow_40 rfl) ?_
  refine ah_cons (as_gfr C dX12_nextRow_41 fgX12_28) ?_
  refine ah_cons (as_iload_n C dX12_nextRow_44 rfl) ?_
  refine ah_cons (as_iconst C dX12_nextRow_45 (by decide)) ?_
  refine ah_cons (as_iast C dX12_nextRow_46) ?_
  refine ah_cons (as_iload_n C dX12_nextRow_47 rfl) ?_
  refine ah_cons (as_iconst C dX12_nextRow_48 (by decide)) ?_
  refine ah_cons (as_icmp_ne C dX12_nextRow_49 (by decide)) ?_
  refine ah_cons (as_iload_n C dX12_nextRow_52 rfl) ?_
  refine ah_cons (as_goto C dX12_nextRow_53 (by decide)) ?_
  refine ah_cons (as_iload_n C dX12_nextRow_56 rfl) ?_
  refine ah_cons (as_iconst C dX12_nextRow_57 (by decide)) ?_
  refine ah_cons (as_iadd C dX12_nextRow_58) ?_
  refine ah_cons (as_lim (as_istore_n C dX12_nextRow_59 rfl (by decide))) ?_
  refine ah_cons (as_aload_n C dX12_nextRow_61 rfl) ?_
  refine ah_cons (as_gfi C dX12_nextRow_62 fgX12_85) ?_
  refine ah_cons (as_icmp_ge C dX12_nextRow_65 (by decide)) ?_
  refine ah_cons (as_aload_n C dX12_nextRow_68 rfl) ?_
  refine ah_cons (as_gfr C dX12_nextRow_69 fgX12_28) ?_
  refine ah_cons (as_iload_n C dX12_nextRow_72 rfl) ?_
  refine ah_cons (as_iald C dX12_nextRow_73) ?_
  refine ah_cons (as_iconst C dX12_nextRow_74 (by decide)) ?_
  refine ah_cons (as_icmp_ne C dX12_nextRow_75 (by decide)) ?_
  refine ah_cons (as_aload_n C dX12_nextRow_78 rfl) ?_
  refine ah_cons (as_gfr C dX12_nextRow_79 fgX12_22) ?_
  refine ah_cons (as_iload_n C dX12_nextRow_82 rfl) ?_
  refine ah_cons (as_iald C dX12_nextRow_83) ?_
  refine ah_cons (as_iconst C dX12_nextRow_84 (by decide)) ?_
  refine ah_cons (as_icmp_ne C dX12_nextRow_85 (by decide)) ?_
  refine ah_cons (as_aload_n C dX12_nextRow_88 rfl) ?_
  refine ah_cons (as_gfr C dX12_nextRow_89 fgX12_22) ?_
  refine ah_cons (as_iload_n C dX12_nextRow_92 rfl) ?_
  refine ah_cons (as_iald C dX12_nextRow_93) ?_
  refine ah_cons (as_iconst C dX12_nextRow_94 (by decide)) ?_
  refine ah_cons (as_icmp_ne C dX12_nextRow_95 (by decide)) ?_
  refine ah_cons (as_aload_n C dX12_nextRow_98 rfl) ?_
  refine ah_cons (as_iload_n C dX12_nextRow_99 rfl) ?_
  refine ah_cons (as_iload_n C dX12_nextRow_100 rfl) ?_
  refine ah_cons (as_vI (ah_t1 (ah_okV (n := 2) C (mX12_mayBe hW f) dX12_nextRow_101 (ci := 12) rfl wt_490 wt_492 wt_491 wt_446 wt_493 ⟨by decide, by decide, by decide, by decide⟩ ⟨by decide, by decide⟩) ah_t0)) ?_
  refine ah_cons (as_if_eq C dX12_nextRow_104 (by decide)) ?_
  refine ah_cons (as_aload_n C dX12_nextRow_107 rfl) ?_
  refine ah_cons (as_gfr C dX12_nextRow_108 fgX12_28) ?_
  refine ah_cons (as_iload_n C dX12_nextRow_111 rfl) ?_
  refine ah_cons (as_iload_n C dX12_nextRow_112 rfl) ?_
  refine ah_cons (as_iast C dX12_nextRow_113) ?_
  refine ah_cons (as_aload_n C dX12_nextRow_114 rfl) ?_
  refine ah_cons (as_gfr C dX12_nextRow_115 fgX12_28) ?_
  refine ah_cons (as_iload_n C dX12_nextRow_118 rfl) ?_
  refine ah_cons (as_iload_n C dX12_nextRow_119 rfl) ?_
  refine ah_cons (as_iast C dX12_nextRow_120) ?_
  refine ah_cons (as_iconst C dX12_nextRow_121 (by decide)) ?_
  refine ah_cons (as_zret C rfl dX12_nextRow_122) ?_
  refine ah_cons (as_iinc C dX12_nextRow_123 (by decide) (by decide)) ?_
  refine ah_cons (as_lim (as_goto C dX12_nextRow_126 (by decide))) ?_
  refine ah_cons (as_iinc C dX12_nextRow_129 (by decide) (by decide)) ?_
  refine ah_cons (as_lim (as_goto C dX12_nextRow_132 (by decide))) ?_
  refine ah_cons (as_iconst C dX12_nextRow_135 (by decide)) ?_
  refine ah_cons (as_zret C rfl dX12_nextRow_136) ?_
  exact ah_nil
def kX12_likenessRow (f : Nat) : List (Nat × ah_S) := [
  (4, ah_ild 2 5),
  (0, ah_push (.int (0)) 1),
  (1, ah_ist 1 2),
  (2, ah_push (.int (0)) 3),
  (3, ah_lim 4 [0, 1, 2] (ah_ist 2 4)),
  (5, ah_ald 0 6),
  (6, ah_gfi [12] 2 9),
  (9, ah_clt 12 46),
  (12, ah_ild 1 13),
  (13, ah_ald 0 14),
  (14, ah_gfr [12] 13 17),
  (17, ah_ild 2 18),
  (18, ah_iald 0 19),
  (19, ah_ild 2 20),
  (20, ah_cgt 23 37),
  (23, ah_ald 0 24),
  (24, ah_ild 2 25),
  (25, ah_ald 0 26),
  (26, ah_gfr [12] 13 29),
  (29, ah_ild 2 30),
  (30, ah_iald 0 31),
  (31, ah_vI [(12, aX12_likenessOf f)] 3 34),
  (34, ah_goto 38),
  (37, ah_push (.int (0)) 38),
  (38, ah_bin (fun x y => x + y) 39),
  (39, ah_ist 1 40),
  (40, ah_inc 2 (1) 43),
  (43, ah_lim 4 [0, 1, 2] (ah_goto 4)),
  (46, ah_ild 1 47),
  (47, ah_iret)]
def aX12_likenessRow (f : Nat) : ah_F := ah_fun (kX12_likenessRow f) 3 f
set_option maxRecDepth 100000 in
set_option maxHeartbeats 4000000 in
theorem mX12_likenessRow {l : Launch} {s0 : State} {D : va_G} {tc : Nat → ClassId} {ad : Nat → Nat} {A : Nat → Prop} (hW : ah_W0 s0 ad A) (f : Nat) : ah_Met l s0 D tc ad A yX12_likenessRow cX12_likenessRow 3 (some .int) 4 88 (aX12_likenessRow f) := by
  refine ah_met hW.1 (by decide) (fun p e s m args below meth c res C => ?_)
  refine ah_cons (as_iload_n C dX12_likenessRow_4 rfl) ?_
  refine ah_cons (as_iconst C dX12_likenessRow_0 (by decide)) ?_
  refine ah_cons (as_istore_n C dX12_likenessRow_1 rfl (by decide)) ?_
  refine ah_cons (as_iconst C dX12_likenessRow_2 (by decide)) ?_
  refine ah_cons (as_lim (as_istore_n C dX12_likenessRow_3 rfl (by decide))) ?_
  refine ah_cons (as_aload_n C dX12_likenessRow_5 rfl) ?_
  refine ah_cons (as_gfi C dX12_likenessRow_6 fgX12_85) ?_
  refine ah_cons (as_icmp_ge C dX12_likenessRow_9 (by decide)) ?_
  refine ah_cons (as_iload_n C dX12_likenessRow_12 rfl) ?_
  refine ah_cons (as_aload_n C dX12_likenessRow_13 rfl) ?_
  refine ah_cons (as_gfr C dX12_likenessRow_14 fgX12_28) ?_
  refine ah_cons (as_iload_n C dX12_likenessRow_17 rfl) ?_
  refine ah_cons (as_iald C dX12_likenessRow_18) ?_
  refine ah_cons (as_iload_n C dX12_likenessRow_19 rfl) ?_
  refine ah_cons (as_icmp_le C dX12_likenessRow_20 (by decide)) ?_
  refine ah_cons (as_aload_n C dX12_likenessRow_23 rfl) ?_
  refine ah_cons (as_iload_n C dX12_likenessRow_24 rfl) ?_
  refine ah_cons (as_aload_n C dX12_likenessRow_25 rfl) ?_
  refine ah_cons (as_gfr C dX12_likenessRow_26 fgX12_28) ?_
  refine ah_cons (as_iload_n C dX12_likenessRow_29 rfl) ?_
  refine ah_cons (as_iald C dX12_likenessRow_30) ?_
  refine ah_cons (as_vI (ah_t1 (ah_okV (n := 2) C (mX12_likenessOf hW f) dX12_likenessRow_31 (ci := 12) rfl wt_498 wt_500 wt_499 wt_446 wt_501 ⟨by decide, by decide, by decide, by decide⟩ ⟨by decide, by decide⟩) ah_t0)) ?_
  refine ah_cons (as_goto C dX12_likenessRow_34 (by decide)) ?_
  refine ah_cons (as_iconst C dX12_likenessRow_37 (by decide)) ?_
  refine ah_cons (as_iadd C dX12_likenessRow_38) ?_
  refine ah_cons (as_istore_n C dX12_likenessRow_39 rfl (by decide)) ?_
  refine ah_cons (as_iinc C dX12_likenessRow_40 (by decide) (by decide)) ?_
  refine ah_cons (as_lim (as_goto C dX12_likenessRow_43 (by decide))) ?_
  refine ah_cons (as_iload_n C dX12_likenessRow_46 rfl) ?_
  refine ah_cons (as_iret C rfl dX12_likenessRow_47) ?_
  exact ah_nil
def kX12_milesRow (f : Nat) : List (Nat × ah_S) := [
  (4, ah_ild 2 5),
  (0, ah_push (.int (0)) 1),
  (1, ah_ist 1 2),
  (2, ah_push (.int (0)) 3),
  (3, ah_lim 4 [0, 1, 2] (ah_ist 2 4)),
  (5, ah_ald 0 6),
  (6, ah_gfi [12] 2 9),
  (9, ah_clt 12 55),
  (12, ah_ild 1 13),
  (13, ah_ald 0 14),
  (14, ah_gfr [12] 13 17),
  (17, ah_ild 2 18),
  (18, ah_iald 0 19),
  (19, ah_ild 2 20),
  (20, ah_cgt 23 46),
  (23, ah_ald 0 24),
  (24, ah_gfr [12] 10 27),
  (27, ah_ild 2 28),
  (28, ah_iald 0 29),
  (29, ah_ald 0 30),
  (30, ah_gfr [12] 10 33),
  (33, ah_ald 0 34),
  (34, ah_gfr [12] 13 37),
  (37, ah_ild 2 38),
  (38, ah_iald 0 39),
  (39, ah_iald 0 40),
  (40, ah_sI (aX12_far f) 2 43),
  (43, ah_goto 47),
  (46, ah_push (.int (0)) 47),
  (47, ah_bin (fun x y => x + y) 48),
  (48, ah_ist 1 49),
  (49, ah_inc 2 (1) 52),
  (52, ah_lim 4 [0, 1, 2] (ah_goto 4)),
  (55, ah_ild 1 56),
  (56, ah_iret)]
def aX12_milesRow (f : Nat) : ah_F := ah_fun (kX12_milesRow f) 3 f
set_option maxRecDepth 100000 in
set_option maxHeartbeats 4000000 in
theorem mX12_milesRow {l : Launch} {s0 : State} {D : va_G} {tc : Nat → ClassId} {ad : Nat → Nat} {A : Nat → Prop} (hW : ah_W0 s0 ad A) (f : Nat) : ah_Met l s0 D tc ad A yX12_milesRow cX12_milesRow 3 (some .int) 1 21 (aX12_milesRow f) := by
  refine ah_met hW.1 (by decide) (fun p e s m args below meth c res C => ?_)
  refine ah_cons (as_iload_n C dX12_milesRow_4 rfl) ?_
  refine ah_cons (as_iconst C dX12_milesRow_0 (by decide)) ?_
  refine ah_cons (as_istore_n C dX12_milesRow_1 rfl (by decide)) ?_
  refine ah_cons (as_iconst C dX12_milesRow_2 (by decide)) ?_
  refine ah_cons (as_lim (as_istore_n C dX12_milesRow_3 rfl (by decide))) ?_
  refine ah_cons (as_aload_n C dX12_milesRow_5 rfl) ?_
  refine ah_cons (as_gfi C dX12_milesRow_6 fgX12_85) ?_
  refine ah_cons (as_icmp_ge C dX12_milesRow_9 (by decide)) ?_
  refine ah_cons (as_iload_n C dX12_milesRow_12 rfl) ?_
  refine ah_cons (as_aload_n C dX12_milesRow_13 rfl) ?_
  refine ah_cons (as_gfr C dX12_milesRow_14 fgX12_28) ?_
  refine ah_cons (as_iload_n C dX12_milesRow_17 rfl) ?_
  refine ah_cons (as_iald C dX12_milesRow_18) ?_
  refine ah_cons (as_iload_n C dX12_milesRow_19 rfl) ?_
  refine ah_cons (as_icmp_le C dX12_milesRow_20 (by decide)) ?_
  refine ah_cons (as_aload_n C dX12_milesRow_23 rfl) ?_
  refine ah_cons (as_gfr C dX12_milesRow_24 fgX12_19) ?_
  refine ah_cons (as_iload_n C dX12_milesRow_27 rfl) ?_
  refine ah_cons (as_iald C dX12_milesRow_28) ?_
  refine ah_cons (as_aload_n C dX12_milesRow_29 rfl) ?_
  refine ah_cons (as_gfr C dX12_milesRow_30 fgX12_19) ?_
  refine ah_cons (as_aload_n C dX12_milesRow_33 rfl) ?_
  refine ah_cons (as_gfr C dX12_milesRow_34 fgX12_28) ?_
  refine ah_cons (as_iload_n C dX12_milesRow_37 rfl) ?_
  refine ah_cons (as_iald C dX12_milesRow_38) ?_
  refine ah_cons (as_iald C dX12_milesRow_39) ?_
  refine ah_cons (as_sI C (mX12_far hW f) dX12_milesRow_40 wt_487 wt_488 wt_446 wt_489 ⟨by decide, by decide, by decide⟩ ⟨by decide, by decide⟩) ?_
  refine ah_cons (as_goto C dX12_milesRow_43 (by decide)) ?_
  refine ah_cons (as_iconst C dX12_milesRow_46 (by decide)) ?_
  refine ah_cons (as_iadd C dX12_milesRow_47) ?_
  refine ah_cons (as_istore_n C dX12_milesRow_48 rfl (by decide)) ?_
  refine ah_cons (as_iinc C dX12_milesRow_49 (by decide) (by decide)) ?_
  refine ah_cons (as_lim (as_goto C dX12_milesRow_52 (by decide))) ?_
  refine ah_cons (as_iload_n C dX12_milesRow_55 rfl) ?_
  refine ah_cons (as_iret C rfl dX12_milesRow_56) ?_
  exact ah_nil
def kX12_mostOf (f : Nat) : List (Nat × ah_S) := [
  (8, ah_ald 0 9),
  (0, ah_ald 0 1),
  (1, ah_vV [(12, aX12_firstRow f)] 1 4),
  (4, ah_push (.int (0)) 5),
  (5, ah_ist 2 6),
  (6, ah_push (.int (0)) 7),
  (7, ah_lim 8 [0, 1, 2, 3] (ah_ist 3 8)),
  (9, ah_vI [(12, aX12_nextRow f)] 1 12),
  (12, ah_zeq 69 15),
  (15, ah_ald 0 16),
  (16, ah_ald 0 17),
  (17, ah_gfr [12] 13 20),
  (20, ah_vI [(12, aX12_pairsOf f)] 2 23),
  (23, ah_ist 4 25),
  (25, ah_ald 0 26),
  (26, ah_vI [(12, aX12_likenessRow f)] 1 29),
  (29, ah_ist 5 31),
  (31, ah_ild 4 33),
  (33, ah_ild 2 34),
  (34, ah_cgt 49 37),
  (37, ah_ild 4 39),
  (39, ah_ild 2 40),
  (40, ah_ceq 43 66),
  (43, ah_ild 5 45),
  (45, ah_ild 3 46),
  (46, ah_cgt 49 66),
  (49, ah_ild 4 51),
  (51, ah_ist 2 52),
  (52, ah_ild 5 54),
  (54, ah_ist 3 55),
  (55, ah_ald 0 56),
  (56, ah_gfr [12] 13 59),
  (59, ah_ald 0 60),
  (60, ah_gfr [12] 14 63),
  (63, ah_sV (aX12_copy f) 2 66),
  (66, ah_lim 8 [0, 1, 2, 3] (ah_goto 8)),
  (69, ah_ild 1 70),
  (70, ah_zeq 73 77),
  (73, ah_ild 2 74),
  (74, ah_goto 95),
  (77, ah_ild 1 78),
  (78, ah_push (.int (1)) 79),
  (79, ah_ceq 82 86),
  (82, ah_ild 3 83),
  (83, ah_goto 95),
  (86, ah_ald 0 87),
  (87, ah_gfr [12] 14 90),
  (90, ah_ild 1 91),
  (91, ah_push (.int (10)) 93),
  (93, ah_bin (fun x y => x - y) 94),
  (94, ah_iald 0 95),
  (95, ah_iret)]
def aX12_mostOf (f : Nat) : ah_F := ah_fun (kX12_mostOf f) 6 f
set_option maxRecDepth 100000 in
set_option maxHeartbeats 4000000 in
theorem mX12_mostOf {l : Launch} {s0 : State} {D : va_G} {tc : Nat → ClassId} {ad : Nat → Nat} {A : Nat → Prop} (hW : ah_W0 s0 ad A) (f : Nat) : ah_Met l s0 D tc ad A yX12_mostOf cX12_mostOf 6 (some .int) 5 110 (aX12_mostOf f) := by
  refine ah_met hW.1 (by decide) (fun p e s m args below meth c res C => ?_)
  refine ah_cons (as_aload_n C dX12_mostOf_8 rfl) ?_
  refine ah_cons (as_aload_n C dX12_mostOf_0 rfl) ?_
  refine ah_cons (as_vV (ah_t1 (ah_okV (n := 0) C (mX12_firstRow hW f) dX12_mostOf_1 (ci := 12) rfl wt_561 wt_563 wt_562 wt_446 wt_564 ⟨by decide, by decide, by decide, by decide⟩ ⟨by decide, by decide⟩) ah_t0)) ?_
  refine ah_cons (as_iconst C dX12_mostOf_4 (by decide)) ?_
  refine ah_cons (as_istore_n C dX12_mostOf_5 rfl (by decide)) ?_
  refine ah_cons (as_iconst C dX12_mostOf_6 (by decide)) ?_
  refine ah_cons (as_lim (as_istore_n C dX12_mostOf_7 rfl (by decide))) ?_
  refine ah_cons (as_vI (ah_t1 (ah_okV (n := 0) C (mX12_nextRow hW f) dX12_mostOf_9 (ci := 12) rfl wt_565 wt_567 wt_566 wt_446 wt_568 ⟨by decide, by decide, by decide, by decide⟩ ⟨by decide, by decide⟩) ah_t0)) ?_
  refine ah_cons (as_if_eq C dX12_mostOf_12 (by decide)) ?_
  refine ah_cons (as_aload_n C dX12_mostOf_15 rfl) ?_
  refine ah_cons (as_aload_n C dX12_mostOf_16 rfl) ?_
  refine ah_cons (as_gfr C dX12_mostOf_17 fgX12_28) ?_
  refine ah_cons (as_vI (ah_t1 (ah_okV (n := 1) C (mX12_pairsOf hW f) dX12_mostOf_20 (ci := 12) rfl wt_555 wt_557 wt_556 wt_446 wt_558 ⟨by decide, by decide, by decide, by decide⟩ ⟨by decide, by decide⟩) ah_t0)) ?_
  refine ah_cons (as_istore C dX12_mostOf_23 (by decide)) ?_
  refine ah_cons (as_aload_n C dX12_mostOf_25 rfl) ?_
  refine ah_cons (as_vI (ah_t1 (ah_okV (n := 0) C (mX12_likenessRow hW f) dX12_mostOf_26 (ci := 12) rfl wt_569 wt_571 wt_570 wt_446 wt_572 ⟨by decide, by decide, by decide, by decide⟩ ⟨by decide, by decide⟩) ah_t0)) ?_
  refine ah_cons (as_istore C dX12_mostOf_29 (by decide)) ?_
  refine ah_cons (as_iload C dX12_mostOf_31) ?_
  refine ah_cons (as_iload_n C dX12_mostOf_33 rfl) ?_
  refine ah_cons (as_icmp_gt C dX12_mostOf_34 (by decide)) ?_
  refine ah_cons (as_iload C dX12_mostOf_37) ?_
  refine ah_cons (as_iload_n C dX12_mostOf_39 rfl) ?_
  refine ah_cons (as_icmp_ne C dX12_mostOf_40 (by decide)) ?_
  refine ah_cons (as_iload C dX12_mostOf_43) ?_
  refine ah_cons (as_iload_n C dX12_mostOf_45 rfl) ?_
  refine ah_cons (as_icmp_le C dX12_mostOf_46 (by decide)) ?_
  refine ah_cons (as_iload C dX12_mostOf_49) ?_
  refine ah_cons (as_istore_n C dX12_mostOf_51 rfl (by decide)) ?_
  refine ah_cons (as_iload C dX12_mostOf_52) ?_
  refine ah_cons (as_istore_n C dX12_mostOf_54 rfl (by decide)) ?_
  refine ah_cons (as_aload_n C dX12_mostOf_55 rfl) ?_
  refine ah_cons (as_gfr C dX12_mostOf_56 fgX12_28) ?_
  refine ah_cons (as_aload_n C dX12_mostOf_59 rfl) ?_
  refine ah_cons (as_gfr C dX12_mostOf_60 fgX12_31) ?_
  refine ah_cons (as_sV C (mX12_copy hW f) dX12_mostOf_63 wt_552 wt_553 wt_446 wt_554 ⟨by decide, by decide, by decide⟩ ⟨by decide, by decide⟩) ?_
  refine ah_cons (as_lim (as_goto C dX12_mostOf_66 (by decide))) ?_
  refine ah_cons (as_iload_n C dX12_mostOf_69 rfl) ?_
  refine ah_cons (as_if_ne C dX12_mostOf_70 (by decide)) ?_
  refine ah_cons (as_iload_n C dX12_mostOf_73 rfl) ?_
  refine ah_cons (as_goto C dX12_mostOf_74 (by decide)) ?_
  refine ah_cons (as_iload_n C dX12_mostOf_77 rfl) ?_
  refine ah_cons (as_iconst C dX12_mostOf_78 (by decide)) ?_
  refine ah_cons (as_icmp_ne C dX12_mostOf_79 (by decide)) ?_
  refine ah_cons (as_iload_n C dX12_mostOf_82 rfl) ?_
  refine ah_cons (as_goto C dX12_mostOf_83 (by decide)) ?_
  refine ah_cons (as_aload_n C dX12_mostOf_86 rfl) ?_
  refine ah_cons (as_gfr C dX12_mostOf_87 fgX12_31) ?_
  refine ah_cons (as_iload_n C dX12_mostOf_90 rfl) ?_
  refine ah_cons (as_bipush C dX12_mostOf_91 (by decide)) ?_
  refine ah_cons (as_isub C dX12_mostOf_93) ?_
  refine ah_cons (as_iald C dX12_mostOf_94) ?_
  refine ah_cons (as_iret C rfl dX12_mostOf_95) ?_
  exact ah_nil
def kX12_isRowWhat (f : Nat) : List (Nat × ah_S) := [
  (0, ah_ild 0 1),
  (1, ah_i2l 2),
  (2, ah_push (.long (0)) 3),
  (3, ah_push (.long (1)) 4),
  (4, ah_sI (aX12_in f) 3 7),
  (7, ah_zeq 10 24),
  (10, ah_ild 0 11),
  (11, ah_i2l 12),
  (12, ah_push (.long (10)) 15),
  (15, ah_push (.long (16)) 18),
  (18, ah_sI (aX12_in f) 3 21),
  (21, ah_zeq 28 24),
  (24, ah_push (.int (1)) 25),
  (25, ah_goto 29),
  (28, ah_push (.int (0)) 29),
  (29, ah_zret)]
def aX12_isRowWhat (f : Nat) : ah_F := ah_fun (kX12_isRowWhat f) 1 f
set_option maxRecDepth 100000 in
set_option maxHeartbeats 4000000 in
theorem mX12_isRowWhat {l : Launch} {s0 : State} {D : va_G} {tc : Nat → ClassId} {ad : Nat → Nat} {A : Nat → Prop} (hW : ah_W0 s0 ad A) (f : Nat) : ah_Met l s0 D tc ad A yX12_isRowWhat cX12_isRowWhat 1 (some .boolean) 1 25 (aX12_isRowWhat f) := by
  refine ah_met hW.1 (by decide) (fun p e s m args below meth c res C => ?_)
  refine ah_cons (as_iload_n C dX12_isRowWhat_0 rfl) ?_
  refine ah_cons (as_i2l C dX12_isRowWhat_1) ?_
  refine ah_cons (as_lconst C dX12_isRowWhat_2 (by decide)) ?_
  refine ah_cons (as_lconst C dX12_isRowWhat_3 (by decide)) ?_
  refine ah_cons (as_sI C (mX12_in hW f) dX12_isRowWhat_4 wt_444 wt_445 wt_446 wt_447 ⟨by decide, by decide, by decide⟩ ⟨by decide, by decide⟩) ?_
  refine ah_cons (as_if_ne C dX12_isRowWhat_7 (by decide)) ?_
  refine ah_cons (as_iload_n C dX12_isRowWhat_10 rfl) ?_
  refine ah_cons (as_i2l C dX12_isRowWhat_11) ?_
  refine ah_cons (as_ldc2 C dX12_isRowWhat_12 wt_573) ?_
  refine ah_cons (as_ldc2 C dX12_isRowWhat_15 wt_574) ?_
  refine ah_cons (as_sI C (mX12_in hW f) dX12_isRowWhat_18 wt_444 wt_445 wt_446 wt_447 ⟨by decide, by decide, by decide⟩ ⟨by decide, by decide⟩) ?_
  refine ah_cons (as_if_eq C dX12_isRowWhat_21 (by decide)) ?_
  refine ah_cons (as_iconst C dX12_isRowWhat_24 (by decide)) ?_
  refine ah_cons (as_goto C dX12_isRowWhat_25 (by decide)) ?_
  refine ah_cons (as_iconst C dX12_isRowWhat_28 (by decide)) ?_
  refine ah_cons (as_zret C rfl dX12_isRowWhat_29) ?_
  exact ah_nil
def kX12_most (f : Nat) : List (Nat × ah_S) := [
  (0, ah_ild 1 1),
  (1, ah_sI (aX12_isRowWhat f) 1 4),
  (4, ah_zeq 7 10),
  (7, ah_push (.int (-102)) 9),
  (9, ah_iret),
  (10, ah_ald 0 11),
  (11, ah_vI [(12, aX12_lacks f)] 1 14),
  (14, ah_zeq 22 17),
  (17, ah_push (.int (-103)) 19),
  (19, ah_goto 27),
  (22, ah_ald 0 23),
  (23, ah_ild 1 24),
  (24, ah_vI [(12, aX12_mostOf f)] 2 27),
  (27, ah_iret)]
def aX12_most (f : Nat) : ah_F := ah_fun (kX12_most f) 2 f
set_option maxRecDepth 100000 in
set_option maxHeartbeats 4000000 in
theorem mX12_most {l : Launch} {s0 : State} {D : va_G} {tc : Nat → ClassId} {ad : Nat → Nat} {A : Nat → Prop} (hW : ah_W0 s0 ad A) (f : Nat) : ah_Met l s0 D tc ad A yX12_most cX12_most 2 (some .int) 6 135 (aX12_most f) := by
  refine ah_met hW.1 (by decide) (fun p e s m args below meth c res C => ?_)
  refine ah_cons (as_iload_n C dX12_most_0 rfl) ?_
  refine ah_cons (as_sI C (mX12_isRowWhat hW f) dX12_most_1 wt_575 wt_576 wt_446 wt_577 ⟨by decide, by decide, by decide⟩ ⟨by decide, by decide⟩) ?_
  refine ah_cons (as_if_ne C dX12_most_4 (by decide)) ?_
  refine ah_cons (as_bipush C dX12_most_7 (by decide)) ?_
  refine ah_cons (as_iret C rfl dX12_most_9) ?_
  refine ah_cons (as_aload_n C dX12_most_10 rfl) ?_
  refine ah_cons (as_vI (ah_t1 (ah_okV (n := 0) C (mX12_lacks hW f) dX12_most_11 (ci := 12) rfl wt_547 wt_549 wt_548 wt_446 wt_550 ⟨by decide, by decide, by decide, by decide⟩ ⟨by decide, by decide⟩) ah_t0)) ?_
  refine ah_cons (as_if_eq C dX12_most_14 (by decide)) ?_
  refine ah_cons (as_bipush C dX12_most_17 (by decide)) ?_
  refine ah_cons (as_goto C dX12_most_19 (by decide)) ?_
  refine ah_cons (as_aload_n C dX12_most_22 rfl) ?_
  refine ah_cons (as_iload_n C dX12_most_23 rfl) ?_
  refine ah_cons (as_vI (ah_t1 (ah_okV (n := 1) C (mX12_mostOf hW f) dX12_most_24 (ci := 12) rfl wt_578 wt_580 wt_579 wt_446 wt_581 ⟨by decide, by decide, by decide, by decide⟩ ⟨by decide, by decide⟩) ah_t0)) ?_
  refine ah_cons (as_iret C rfl dX12_most_27) ?_
  exact ah_nil
def kX12_bestOf (f : Nat) : List (Nat × ah_S) := [
  (9, ah_ald 0 10),
  (0, ah_ald 0 1),
  (1, ah_vV [(12, aX12_firstRow f)] 1 4),
  (4, ah_push (.int (0)) 5),
  (5, ah_ist 3 6),
  (6, ah_push (.int (0)) 7),
  (7, ah_lim 9 [0, 1, 2, 3, 4] (ah_ist 4 9)),
  (10, ah_vI [(12, aX12_nextRow f)] 1 13),
  (13, ah_zeq 74 16),
  (16, ah_ald 0 17),
  (17, ah_vI [(12, aX12_likenessRow f)] 1 20),
  (20, ah_ist 5 22),
  (22, ah_ald 0 23),
  (23, ah_vI [(12, aX12_milesRow f)] 1 26),
  (26, ah_ist 6 28),
  (28, ah_ild 6 30),
  (30, ah_ild 1 31),
  (31, ah_cgt 71 34),
  (34, ah_ild 5 36),
  (36, ah_ild 3 37),
  (37, ah_cgt 53 40),
  (40, ah_ild 5 42),
  (42, ah_ild 3 43),
  (43, ah_ceq 46 71),
  (46, ah_ild 6 48),
  (48, ah_ild 4 50),
  (50, ah_clt 53 71),
  (53, ah_ild 5 55),
  (55, ah_ist 3 56),
  (56, ah_ild 6 58),
  (58, ah_ist 4 60),
  (60, ah_ald 0 61),
  (61, ah_gfr [12] 13 64),
  (64, ah_ald 0 65),
  (65, ah_gfr [12] 14 68),
  (68, ah_sV (aX12_copy f) 2 71),
  (71, ah_lim 9 [0, 1, 2, 3, 4] (ah_goto 9)),
  (74, ah_ild 2 75),
  (75, ah_zeq 78 82),
  (78, ah_ild 3 79),
  (79, ah_goto 101),
  (82, ah_ild 2 83),
  (83, ah_push (.int (1)) 84),
  (84, ah_ceq 87 92),
  (87, ah_ild 4 89),
  (89, ah_goto 101),
  (92, ah_ald 0 93),
  (93, ah_gfr [12] 14 96),
  (96, ah_ild 2 97),
  (97, ah_push (.int (10)) 99),
  (99, ah_bin (fun x y => x - y) 100),
  (100, ah_iald 0 101),
  (101, ah_iret)]
def aX12_bestOf (f : Nat) : ah_F := ah_fun (kX12_bestOf f) 7 f
set_option maxRecDepth 100000 in
set_option maxHeartbeats 4000000 in
theorem mX12_bestOf {l : Launch} {s0 : State} {D : va_G} {tc : Nat → ClassId} {ad : Nat → Nat} {A : Nat → Prop} (hW : ah_W0 s0 ad A) (f : Nat) : ah_Met l s0 D tc ad A yX12_bestOf cX12_bestOf 7 (some .int) 5 110 (aX12_bestOf f) := by
  refine ah_met hW.1 (by decide) (fun p e s m args below meth c res C => ?_)
  refine ah_cons (as_aload_n C dX12_bestOf_9 rfl) ?_
  refine ah_cons (as_aload_n C dX12_bestOf_0 rfl) ?_
  refine ah_cons (as_vV (ah_t1 (ah_okV (n := 0) C (mX12_firstRow hW f) dX12_bestOf_1 (ci := 12) rfl wt_561 wt_563 wt_562 wt_446 wt_564 ⟨by decide, by decide, by decide, by decide⟩ ⟨by decide, by decide⟩) ah_t0)) ?_
  refine ah_cons (as_iconst C dX12_bestOf_4 (by decide)) ?_
  refine ah_cons (as_istore_n C dX12_bestOf_5 rfl (by decide)) ?_
  refine ah_cons (as_iconst C dX12_bestOf_6 (by decide)) ?_
  refine ah_cons (as_lim (as_istore C dX12_bestOf_7 (by decide))) ?_
  refine ah_cons (as_vI (ah_t1 (ah_okV (n := 0) C (mX12_nextRow hW f) dX12_bestOf_10 (ci := 12) rfl wt_565 wt_567 wt_566 wt_446 wt_568 ⟨by decide, by decide, by decide, by decide⟩ ⟨by decide, by decide⟩) ah_t0)) ?_
  refine ah_cons (as_if_eq C dX12_bestOf_13 (by decide)) ?_
  refine ah_cons (as_aload_n C dX12_bestOf_16 rfl) ?_
  refine ah_cons (as_vI (ah_t1 (ah_okV (n := 0) C (mX12_likenessRow hW f) dX12_bestOf_17 (ci := 12) rfl wt_569 wt_571 wt_570 wt_446 wt_572 ⟨by decide, by decide, by decide, by decide⟩ ⟨by decide, by decide⟩) ah_t0)) ?_
  refine ah_cons (as_istore C dX12_bestOf_20 (by decide)) ?_
  refine ah_cons (as_aload_n C dX12_bestOf_22 rfl) ?_
  refine ah_cons (as_vI (ah_t1 (ah_okV (n := 0) C (mX12_milesRow hW f) dX12_bestOf_23 (ci := 12) rfl wt_582 wt_584 wt_583 wt_446 wt_585 ⟨by decide, by decide, by decide, by decide⟩ ⟨by decide, by decide⟩) ah_t0)) ?_
  refine ah_cons (as_istore C dX12_bestOf_26 (by decide)) ?_
  refine ah_cons (as_iload C dX12_bestOf_28) ?_
  refine ah_cons (as_iload_n C dX12_bestOf_30 rfl) ?_
  refine ah_cons (as_icmp_gt C dX12_bestOf_31 (by decide)) ?_
  refine ah_cons (as_iload C dX12_bestOf_34) ?_
  refine ah_cons (as_iload_n C dX12_bestOf_36 rfl) ?_
  refine ah_cons (as_icmp_gt C dX12_bestOf_37 (by decide)) ?_
  refine ah_cons (as_iload C dX12_bestOf_40) ?_
  refine ah_cons (as_iload_n C dX12_bestOf_42 rfl) ?_
  refine ah_cons (as_icmp_ne C dX12_bestOf_43 (by decide)) ?_
  refine ah_cons (as_iload C dX12_bestOf_46) ?_
  refine ah_cons (as_iload C dX12_bestOf_48) ?_
  refine ah_cons (as_icmp_ge C dX12_bestOf_50 (by decide)) ?_
  refine ah_cons (as_iload C dX12_bestOf_53) ?_
  refine ah_cons (as_istore_n C dX12_bestOf_55 rfl (by decide)) ?_
  refine ah_cons (as_iload C dX12_bestOf_56) ?_
  refine ah_cons (as_istore C dX12_bestOf_58 (by decide)) ?_
  refine ah_cons (as_aload_n C dX12_bestOf_60 rfl) ?_
  refine ah_cons (as_gfr C dX12_bestOf_61 fgX12_28) ?_
  refine ah_cons (as_aload_n C dX12_bestOf_64 rfl) ?_
  refine ah_cons (as_gfr C dX12_bestOf_65 fgX12_31) ?_
  refine ah_cons (as_sV C (mX12_copy hW f) dX12_bestOf_68 wt_552 wt_553 wt_446 wt_554 ⟨by decide, by decide, by decide⟩ ⟨by decide, by decide⟩) ?_
  refine ah_cons (as_lim (as_goto C dX12_bestOf_71 (by decide))) ?_
  refine ah_cons (as_iload_n C dX12_bestOf_74 rfl) ?_
  refine ah_cons (as_if_ne C dX12_bestOf_75 (by decide)) ?_
  refine ah_cons (as_iload_n C dX12_bestOf_78 rfl) ?_
  refine ah_cons (as_goto C dX12_bestOf_79 (by decide)) ?_
  refine ah_cons (as_iload_n C dX12_bestOf_82 rfl) ?_
  refine ah_cons (as_iconst C dX12_bestOf_83 (by decide)) ?_
  refine ah_cons (as_icmp_ne C dX12_bestOf_84 (by decide)) ?_
  refine ah_cons (as_iload C dX12_bestOf_87) ?_
  refine ah_cons (as_goto C dX12_bestOf_89 (by decide)) ?_
  refine ah_cons (as_aload_n C dX12_bestOf_92 rfl) ?_
  refine ah_cons (as_gfr C dX12_bestOf_93 fgX12_31) ?_
  refine ah_cons (as_iload_n C dX12_bestOf_96 rfl) ?_
  refine ah_cons (as_bipush C dX12_bestOf_97 (by decide)) ?_
  refine ah_cons (as_isub C dX12_bestOf_99) ?_
  refine ah_cons (as_iald C dX12_bestOf_100) ?_
  refine ah_cons (as_iret C rfl dX12_bestOf_101) ?_
  exact ah_nil
def kX12_best (f : Nat) : List (Nat × ah_S) := [
  (0, ah_ild 1 1),
  (1, ah_i2l 2),
  (2, ah_push (.long (0)) 3),
  (3, ah_push (.long (30)) 6),
  (6, ah_sI (aX12_in f) 3 9),
  (9, ah_zeq 19 12),
  (12, ah_ild 2 13),
  (13, ah_sI (aX12_isRowWhat f) 1 16),
  (16, ah_zeq 19 22),
  (19, ah_push (.int (-102)) 21),
  (21, ah_iret),
  (22, ah_ald 0 23),
  (23, ah_vI [(12, aX12_lacks f)] 1 26),
  (26, ah_zeq 34 29),
  (29, ah_push (.int (-103)) 31),
  (31, ah_goto 40),
  (34, ah_ald 0 35),
  (35, ah_ild 1 36),
  (36, ah_ild 2 37),
  (37, ah_vI [(12, aX12_bestOf f)] 3 40),
  (40, ah_iret)]
def aX12_best (f : Nat) : ah_F := ah_fun (kX12_best f) 3 f
set_option maxRecDepth 100000 in
set_option maxHeartbeats 4000000 in
theorem mX12_best {l : Launch} {s0 : State} {D : va_G} {tc : Nat → ClassId} {ad : Nat → Nat} {A : Nat → Prop} (hW : ah_W0 s0 ad A) (f : Nat) : ah_Met l s0 D tc ad A yX12_best cX12_best 3 (some .int) 6 136 (aX12_best f) := by
  refine ah_met hW.1 (by decide) (fun p e s m args below meth c res C => ?_)
  refine ah_cons (as_iload_n C dX12_best_0 rfl) ?_
  refine ah_cons (as_i2l C dX12_best_1) ?_
  refine ah_cons (as_lconst C dX12_best_2 (by decide)) ?_
  refine ah_cons (as_ldc2 C dX12_best_3 wt_586) ?_
  refine ah_cons (as_sI C (mX12_in hW f) dX12_best_6 wt_444 wt_445 wt_446 wt_447 ⟨by decide, by decide, by decide⟩ ⟨by decide, by decide⟩) ?_
  refine ah_cons (as_if_eq C dX12_best_9 (by decide)) ?_
  refine ah_cons (as_iload_n C dX12_best_12 rfl) ?_
  refine ah_cons (as_sI C (mX12_isRowWhat hW f) dX12_best_13 wt_575 wt_576 wt_446 wt_577 ⟨by decide, by decide, by decide⟩ ⟨by decide, by decide⟩) ?_
  refine ah_cons (as_if_ne C dX12_best_16 (by decide)) ?_
  refine ah_cons (as_bipush C dX12_best_19 (by decide)) ?_
  refine ah_cons (as_iret C rfl dX12_best_21) ?_
  refine ah_cons (as_aload_n C dX12_best_22 rfl) ?_
  refine ah_cons (as_vI (ah_t1 (ah_okV (n := 0) C (mX12_lacks hW f) dX12_best_23 (ci := 12) rfl wt_547 wt_549 wt_548 wt_446 wt_550 ⟨by decide, by decide, by decide, by decide⟩ ⟨by decide, by decide⟩) ah_t0)) ?_
  refine ah_cons (as_if_eq C dX12_best_26 (by decide)) ?_
  refine ah_cons (as_bipush C dX12_best_29 (by decide)) ?_
  refine ah_cons (as_goto C dX12_best_31 (by decide)) ?_
  refine ah_cons (as_aload_n C dX12_best_34 rfl) ?_
  refine ah_cons (as_iload_n C dX12_best_35 rfl) ?_
  refine ah_cons (as_iload_n C dX12_best_36 rfl) ?_
  refine ah_cons (as_vI (ah_t1 (ah_okV (n := 2) C (mX12_bestOf hW f) dX12_best_37 (ci := 12) rfl wt_587 wt_589 wt_588 wt_446 wt_590 ⟨by decide, by decide, by decide, by decide⟩ ⟨by decide, by decide⟩) ah_t0)) ?_
  refine ah_cons (as_iret C rfl dX12_best_40) ?_
  exact ah_nil
def kX12_isStable (f : Nat) : List (Nat × ah_S) := [
  (4, ah_ild 2 5),
  (16, ah_ild 3 17),
  (49, ah_ist 4 51),
  (110, ah_ist 5 112),
  (126, ah_ist 1 127),
  (0, ah_push (.int (1)) 1),
  (1, ah_ist 1 2),
  (2, ah_push (.int (0)) 3),
  (3, ah_lim 4 [0, 1, 2] (ah_ist 2 4)),
  (5, ah_ald 0 6),
  (6, ah_gfi [12] 2 9),
  (9, ah_clt 12 139),
  (12, ah_ild 2 13),
  (13, ah_push (.int (1)) 14),
  (14, ah_bin (fun x y => x + y) 15),
  (15, ah_lim 16 [0, 1, 2, 3] (ah_ist 3 16)),
  (17, ah_ald 0 18),
  (18, ah_gfi [12] 2 21),
  (21, ah_clt 24 133),
  (24, ah_ald 0 25),
  (25, ah_gfr [12] 11 28),
  (28, ah_ild 2 29),
  (29, ah_iald 0 30),
  (30, ah_push (.int (-1)) 31),
  (31, ah_ceq 34 48),
  (34, ah_ald 0 35),
  (35, ah_gfr [12] 11 38),
  (38, ah_ild 3 39),
  (39, ah_iald 0 40),
  (40, ah_push (.int (-1)) 41),
  (41, ah_ceq 44 48),
  (44, ah_push (.int (1)) 45),
  (45, ah_lim 49 [0, 1, 2, 3] (ah_goto 49)),
  (48, ah_lim 49 [0, 1, 2, 3] (ah_push (.int (0)) 49)),
  (51, ah_ild 4 53),
  (53, ah_zeq 109 56),
  (56, ah_ald 0 57),
  (57, ah_ild 2 58),
  (58, ah_ild 3 59),
  (59, ah_vI [(12, aX12_mayBe f)] 3 62),
  (62, ah_zeq 109 65),
  (65, ah_ald 0 66),
  (66, ah_gfr [12] 13 69),
  (69, ah_ild 2 70),
  (70, ah_iald 0 71),
  (71, ah_ild 3 72),
  (72, ah_ceq 109 75),
  (75, ah_ald 0 76),
  (76, ah_ild 2 77),
  (77, ah_ild 3 78),
  (78, ah_ald 0 79),
  (79, ah_gfr [12] 13 82),
  (82, ah_ild 2 83),
  (83, ah_iald 0 84),
  (84, ah_vI [(12, aX12_prefers f)] 4 87),
  (87, ah_zeq 109 90),
  (90, ah_ald 0 91),
  (91, ah_ild 3 92),
  (92, ah_ild 2 93),
  (93, ah_ald 0 94),
  (94, ah_gfr [12] 13 97),
  (97, ah_ild 3 98),
  (98, ah_iald 0 99),
  (99, ah_vI [(12, aX12_prefers f)] 4 102),
  (102, ah_zeq 109 105),
  (105, ah_push (.int (1)) 106),
  (106, ah_lim 110 [0, 1, 2, 3] (ah_goto 110)),
  (109, ah_lim 110 [0, 1, 2, 3] (ah_push (.int (0)) 110)),
  (112, ah_ild 1 113),
  (113, ah_zeq 125 116),
  (116, ah_ild 5 118),
  (118, ah_zeq 121 125),
  (121, ah_push (.int (1)) 122),
  (122, ah_lim 126 [0, 2, 3] (ah_goto 126)),
  (125, ah_lim 126 [0, 2, 3] (ah_push (.int (0)) 126)),
  (127, ah_inc 3 (1) 130),
  (130, ah_lim 16 [0, 1, 2, 3] (ah_goto 16)),
  (133, ah_inc 2 (1) 136),
  (136, ah_lim 4 [0, 1, 2] (ah_goto 4)),
  (139, ah_ild 1 140),
  (140, ah_zret)]
def aX12_isStable (f : Nat) : ah_F := ah_fun (kX12_isStable f) 6 f
set_option maxRecDepth 100000 in
set_option maxHeartbeats 4000000 in
theorem mX12_isStable {l : Launch} {s0 : State} {D : va_G} {tc : Nat → ClassId} {ad : Nat → Nat} {A : Nat → Prop} (hW : ah_W0 s0 ad A) (f : Nat) : ah_Met l s0 D tc ad A yX12_isStable cX12_isStable 6 (some .boolean) 5 112 (aX12_isStable f) := by
  refine ah_met hW.1 (by decide) (fun p e s m args below meth c res C => ?_)
  refine ah_cons (as_iload_n C dX12_isStable_4 rfl) ?_
  refine ah_cons (as_iload_n C dX12_isStable_16 rfl) ?_
  refine ah_cons (as_istore C dX12_isStable_49 (by decide)) ?_
  refine ah_cons (as_istore C dX12_isStable_110 (by decide)) ?_
  refine ah_cons (as_istore_n C dX12_isStable_126 rfl (by decide)) ?_
  refine ah_cons (as_iconst C dX12_isStable_0 (by decide)) ?_
  refine ah_cons (as_istore_n C dX12_isStable_1 rfl (by decide)) ?_
  refine ah_cons (as_iconst C dX12_isStable_2 (by decide)) ?_
  refine ah_cons (as_lim (as_istore_n C dX12_isStable_3 rfl (by decide))) ?_
  refine ah_cons (as_aload_n C dX12_isStable_5 rfl) ?_
  refine ah_cons (as_gfi C dX12_isStable_6 fgX12_85) ?_
  refine ah_cons (as_icmp_ge C dX12_isStable_9 (by decide)) ?_
  refine ah_cons (as_iload_n C dX12_isStable_12 rfl) ?_
  refine ah_cons (as_iconst C dX12_isStable_13 (by decide)) ?_
  refine ah_cons (as_iadd C dX12_isStable_14) ?_
  refine ah_cons (as_lim (as_istore_n C dX12_isStable_15 rfl (by decide))) ?_
  refine ah_cons (as_aload_n C dX12_isStable_17 rfl) ?_
  refine ah_cons (as_gfi C dX12_isStable_18 fgX12_85) ?_
  refine ah_cons (as_icmp_ge C dX12_isStable_21 (by decide)) ?_
  refine ah_cons (as_aload_n C dX12_isStable_24 rfl) ?_
  refine ah_cons (as_gfr C dX12_isStable_25 fgX12_22) ?_
  refine ah_cons (as_iload_n C dX12_isStable_28 rfl) ?_
  refine ah_cons (as_iald C dX12_isStable_29) ?_
  refine ah_cons (as_iconst C dX12_isStable_30 (by decide)) ?_
  refine ah_cons (as_icmp_ne C dX12_isStable_31 (by decide)) ?_
  refine ah_cons (as_aload_n C dX12_isStable_34 rfl) ?_
  refine ah_cons (as_gfr C dX12_isStable_35 fgX12_22) ?_
  refine ah_cons (as_iload_n C dX12_isStable_38 rfl) ?_
  refine ah_cons (as_iald C dX12_isStable_39) ?_
  refine ah_cons (as_iconst C dX12_isStable_40 (by decide)) ?_
  refine ah_cons (as_icmp_ne C dX12_isStable_41 (by decide)) ?_
  refine ah_cons (as_iconst C dX12_isStable_44 (by decide)) ?_
  refine ah_cons (as_lim (as_goto C dX12_isStable_45 (by decide))) ?_
  refine ah_cons (as_lim (as_iconst C dX12_isStable_48 (by decide))) ?_
  refine ah_cons (as_iload C dX12_isStable_51) ?_
  refine ah_cons (as_if_eq C dX12_isStable_53 (by decide)) ?_
  refine ah_cons (as_aload_n C dX12_isStable_56 rfl) ?_
  refine ah_cons (as_iload_n C dX12_isStable_57 rfl) ?_
  refine ah_cons (as_iload_n C dX12_isStable_58 rfl) ?_
  refine ah_cons (as_vI (ah_t1 (ah_okV (n := 2) C (mX12_mayBe hW f) dX12_isStable_59 (ci := 12) rfl wt_490 wt_492 wt_491 wt_446 wt_493 ⟨by decide, by decide, by decide, by decide⟩ ⟨by decide, by decide⟩) ah_t0)) ?_
  refine ah_cons (as_if_eq C dX12_isStable_62 (by decide)) ?_
  refine ah_cons (as_aload_n C dX12_isStable_65 rfl) ?_
  refine ah_cons (as_gfr C dX12_isStable_66 fgX12_28) ?_
  refine ah_cons (as_iload_n C dX12_isStable_69 rfl) ?_
  refine ah_cons (as_iald C dX12_isStable_70) ?_
  refine ah_cons (as_iload_n C dX12_isStable_71 rfl) ?_
  refine ah_cons (as_icmp_eq C dX12_isStable_72 (by decide)) ?_
  refine ah_cons (as_aload_n C dX12_isStable_75 rfl) ?_
  refine ah_cons (as_iload_n C dX12_isStable_76 rfl) ?_
  refine ah_cons (as_iload_n C dX12_isStable_77 rfl) ?_
  refine ah_cons (as_aload_n C dX12_isStable_78 rfl) ?_
  refine ah_cons (as_gfr C dX12_isStable_79 fgX12_28) ?_
  refine ah_cons (as_iload_n C dX12_isStable_82 rfl) ?_
  refine ah_cons (as_iald C dX12_isStable_83) ?_
  refine ah_cons (as_vI (ah_t1 (ah_okV (n := 3) C (mX12_prefers hW f) dX12_isStable_84 (ci := 12) rfl wt_502 wt_504 wt_503 wt_446 wt_505 ⟨by decide, by decide, by decide, by decide⟩ ⟨by decide, by decide⟩) ah_t0)) ?_
  refine ah_cons (as_if_eq C dX12_isStable_87 (by decide)) ?_
  refine ah_cons (as_aload_n C dX12_isStable_90 rfl) ?_
  refine ah_cons (as_iload_n C dX12_isStable_91 rfl) ?_
  refine ah_cons (as_iload_n C dX12_isStable_92 rfl) ?_
  refine ah_cons (as_aload_n C dX12_isStable_93 rfl) ?_
  refine ah_cons (as_gfr C dX12_isStable_94 fgX12_28) ?_
  refine ah_cons (as_iload_n C dX12_isStable_97 rfl) ?_
  refine ah_cons (as_iald C dX12_isStable_98) ?_
  refine ah_cons (as_vI (ah_t1 (ah_okV (n := 3) C (mX12_prefers hW f) dX12_isStable_99 (ci := 12) rfl wt_502 wt_504 wt_503 wt_446 wt_505 ⟨by decide, by decide, by decide, by decide⟩ ⟨by decide, by decide⟩) ah_t0)) ?_
  refine ah_cons (as_if_eq C dX12_isStable_102 (by decide)) ?_
  refine ah_cons (as_iconst C dX12_isStable_105 (by decide)) ?_
  refine ah_cons (as_lim (as_goto C dX12_isStable_106 (by decide))) ?_
  refine ah_cons (as_lim (as_iconst C dX12_isStable_109 (by decide))) ?_
  refine ah_cons (as_iload_n C dX12_isStable_112 rfl) ?_
  refine ah_cons (as_if_eq C dX12_isStable_113 (by decide)) ?_
  refine ah_cons (as_iload C dX12_isStable_116) ?_
  refine ah_cons (as_if_ne C dX12_isStable_118 (by decide)) ?_
  refine ah_cons (as_iconst C dX12_isStable_121 (by decide)) ?_
  refine ah_cons (as_lim (as_goto C dX12_isStable_122 (by decide))) ?_
  refine ah_cons (as_lim (as_iconst C dX12_isStable_125 (by decide))) ?_
  refine ah_cons (as_iinc C dX12_isStable_127 (by decide) (by decide)) ?_
  refine ah_cons (as_lim (as_goto C dX12_isStable_130 (by decide))) ?_
  refine ah_cons (as_iinc C dX12_isStable_133 (by decide) (by decide)) ?_
  refine ah_cons (as_lim (as_goto C dX12_isStable_136 (by decide))) ?_
  refine ah_cons (as_iload_n C dX12_isStable_139 rfl) ?_
  refine ah_cons (as_zret C rfl dX12_isStable_140) ?_
  exact ah_nil
def kX12_stableOf (f : Nat) : List (Nat × ah_S) := [
  (11, ah_ild 4 13),
  (0, ah_ald 0 1),
  (1, ah_vV [(12, aX12_firstRow f)] 1 4),
  (4, ah_push (.int (0)) 5),
  (5, ah_ist 2 6),
  (6, ah_push (.int (-1)) 7),
  (7, ah_ist 3 8),
  (8, ah_push (.int (1)) 9),
  (9, ah_lim 11 [0, 1, 2, 3, 4] (ah_ist 4 11)),
  (13, ah_zeq 74 16),
  (16, ah_ald 0 17),
  (17, ah_vI [(12, aX12_isStable f)] 1 20),
  (20, ah_ist 5 22),
  (22, ah_ild 2 23),
  (23, ah_ild 5 25),
  (25, ah_zeq 32 28),
  (28, ah_push (.int (1)) 29),
  (29, ah_goto 33),
  (32, ah_push (.int (0)) 33),
  (33, ah_bin (fun x y => x + y) 34),
  (34, ah_ist 2 35),
  (35, ah_ild 5 37),
  (37, ah_zeq 65 40),
  (40, ah_ild 2 41),
  (41, ah_push (.int (1)) 42),
  (42, ah_ceq 45 65),
  (45, ah_ald 0 46),
  (46, ah_gfr [12] 13 49),
  (49, ah_ald 0 50),
  (50, ah_gfr [12] 14 53),
  (53, ah_sV (aX12_copy f) 2 56),
  (56, ah_ald 0 57),
  (57, ah_ald 0 58),
  (58, ah_gfr [12] 13 61),
  (61, ah_vI [(12, aX12_pairsOf f)] 2 64),
  (64, ah_ist 3 65),
  (65, ah_ald 0 66),
  (66, ah_vI [(12, aX12_nextRow f)] 1 69),
  (69, ah_ist 4 71),
  (71, ah_lim 11 [0, 1, 2, 3, 4] (ah_goto 11)),
  (74, ah_ild 1 75),
  (75, ah_zeq 78 82),
  (78, ah_ild 2 79),
  (79, ah_goto 100),
  (82, ah_ild 1 83),
  (83, ah_push (.int (1)) 84),
  (84, ah_ceq 87 91),
  (87, ah_ild 3 88),
  (88, ah_goto 100),
  (91, ah_ald 0 92),
  (92, ah_gfr [12] 14 95),
  (95, ah_ild 1 96),
  (96, ah_push (.int (10)) 98),
  (98, ah_bin (fun x y => x - y) 99),
  (99, ah_iald 0 100),
  (100, ah_iret)]
def aX12_stableOf (f : Nat) : ah_F := ah_fun (kX12_stableOf f) 6 f
set_option maxRecDepth 100000 in
set_option maxHeartbeats 4000000 in
theorem mX12_stableOf {l : Launch} {s0 : State} {D : va_G} {tc : Nat → ClassId} {ad : Nat → Nat} {A : Nat → Prop} (hW : ah_W0 s0 ad A) (f : Nat) : ah_Met l s0 D tc ad A yX12_stableOf cX12_stableOf 6 (some .int) 6 137 (aX12_stableOf f) := by
  refine ah_met hW.1 (by decide) (fun p e s m args below meth c res C => ?_)
  refine ah_cons (as_iload C dX12_stableOf_11) ?_
  refine ah_cons (as_aload_n C dX12_stableOf_0 rfl) ?_
  refine ah_cons (as_vV (ah_t1 (ah_okV (n := 0) C (mX12_firstRow hW f) dX12_stableOf_1 (ci := 12) rfl wt_561 wt_563 wt_562 wt_446 wt_564 ⟨by decide, by decide, by decide, by decide⟩ ⟨by decide, by decide⟩) ah_t0)) ?_
  refine ah_cons (as_iconst C dX12_stableOf_4 (by decide)) ?_
  refine ah_cons (as_istore_n C dX12_stableOf_5 rfl (by decide)) ?_
  refine ah_cons (as_iconst C dX12_stableOf_6 (by decide)) ?_
  refine ah_cons (as_istore_n C dX12_stableOf_7 rfl (by decide)) ?_
  refine ah_cons (as_iconst C dX12_stableOf_8 (by decide)) ?_
  refine ah_cons (as_lim (as_istore C dX12_stableOf_9 (by decide))) ?_
  refine ah_cons (as_if_eq C dX12_stableOf_13 (by decide)) ?_
  refine ah_cons (as_aload_n C dX12_stableOf_16 rfl) ?_
  refine ah_cons (as_vI (ah_t1 (ah_okV (n := 0) C (mX12_isStable hW f) dX12_stableOf_17 (ci := 12) rfl wt_591 wt_593 wt_592 wt_446 wt_594 ⟨by decide, by decide, by decide, by decide⟩ ⟨by decide, by decide⟩) ah_t0)) ?_
  refine ah_cons (as_istore C dX12_stableOf_20 (by decide)) ?_
  refine ah_cons (as_iload_n C dX12_stableOf_22 rfl) ?_
  refine ah_cons (as_iload C dX12_stableOf_23) ?_
  refine ah_cons (as_if_eq C dX12_stableOf_25 (by decide)) ?_
  refine ah_cons (as_iconst C dX12_stableOf_28 (by decide)) ?_
  refine ah_cons (as_goto C dX12_stableOf_29 (by decide)) ?_
  refine ah_cons (as_iconst C dX12_stableOf_32 (by decide)) ?_
  refine ah_cons (as_iadd C dX12_stableOf_33) ?_
  refine ah_cons (as_istore_n C dX12_stableOf_34 rfl (by decide)) ?_
  refine ah_cons (as_iload C dX12_stableOf_35) ?_
  refine ah_cons (as_if_eq C dX12_stableOf_37 (by decide)) ?_
  refine ah_cons (as_iload_n C dX12_stableOf_40 rfl) ?_
  refine ah_cons (as_iconst C dX12_stableOf_41 (by decide)) ?_
  refine ah_cons (as_icmp_ne C dX12_stableOf_42 (by decide)) ?_
  refine ah_cons (as_aload_n C dX12_stableOf_45 rfl) ?_
  refine ah_cons (as_gfr C dX12_stableOf_46 fgX12_28) ?_
  refine ah_cons (as_aload_n C dX12_stableOf_49 rfl) ?_
  refine ah_cons (as_gfr C dX12_stableOf_50 fgX12_31) ?_
  refine ah_cons (as_sV C (mX12_copy hW f) dX12_stableOf_53 wt_552 wt_553 wt_446 wt_554 ⟨by decide, by decide, by decide⟩ ⟨by decide, by decide⟩) ?_
  refine ah_cons (as_aload_n C dX12_stableOf_56 rfl) ?_
  refine ah_cons (as_aload_n C dX12_stableOf_57 rfl) ?_
  refine ah_cons (as_gfr C dX12_stableOf_58 fgX12_28) ?_
  refine ah_cons (as_vI (ah_t1 (ah_okV (n := 1) C (mX12_pairsOf hW f) dX12_stableOf_61 (ci := 12) rfl wt_555 wt_557 wt_556 wt_446 wt_558 ⟨by decide, by decide, by decide, by decide⟩ ⟨by decide, by decide⟩) ah_t0)) ?_
  refine ah_cons (as_istore_n C dX12_stableOf_64 rfl (by decide)) ?_
  refine ah_cons (as_aload_n C dX12_stableOf_65 rfl) ?_
  refine ah_cons (as_vI (ah_t1 (ah_okV (n := 0) C (mX12_nextRow hW f) dX12_stableOf_66 (ci := 12) rfl wt_565 wt_567 wt_566 wt_446 wt_568 ⟨by decide, by decide, by decide, by decide⟩ ⟨by decide, by decide⟩) ah_t0)) ?_
  refine ah_cons (as_istore C dX12_stableOf_69 (by decide)) ?_
  refine ah_cons (as_lim (as_goto C dX12_stableOf_71 (by decide))) ?_
  refine ah_cons (as_iload_n C dX12_stableOf_74 rfl) ?_
  refine ah_cons (as_if_ne C dX12_stableOf_75 (by decide)) ?_
  refine ah_cons (as_iload_n C dX12_stableOf_78 rfl) ?_
  refine ah_cons (as_goto C dX12_stableOf_79 (by decide)) ?_
  refine ah_cons (as_iload_n C dX12_stableOf_82 rfl) ?_
  refine ah_cons (as_iconst C dX12_stableOf_83 (by decide)) ?_
  refine ah_cons (as_icmp_ne C dX12_stableOf_84 (by decide)) ?_
  refine ah_cons (as_iload_n C dX12_stableOf_87 rfl) ?_
  refine ah_cons (as_goto C dX12_stableOf_88 (by decide)) ?_
  refine ah_cons (as_aload_n C dX12_stableOf_91 rfl) ?_
  refine ah_cons (as_gfr C dX12_stableOf_92 fgX12_31) ?_
  refine ah_cons (as_iload_n C dX12_stableOf_95 rfl) ?_
  refine ah_cons (as_bipush C dX12_stableOf_96 (by decide)) ?_
  refine ah_cons (as_isub C dX12_stableOf_98) ?_
  refine ah_cons (as_iald C dX12_stableOf_99) ?_
  refine ah_cons (as_iret C rfl dX12_stableOf_100) ?_
  exact ah_nil
def kX12_stable (f : Nat) : List (Nat × ah_S) := [
  (0, ah_ild 1 1),
  (1, ah_sI (aX12_isRowWhat f) 1 4),
  (4, ah_zeq 7 10),
  (7, ah_push (.int (-102)) 9),
  (9, ah_iret),
  (10, ah_ald 0 11),
  (11, ah_vI [(12, aX12_lacks f)] 1 14),
  (14, ah_zeq 22 17),
  (17, ah_push (.int (-103)) 19),
  (19, ah_goto 27),
  (22, ah_ald 0 23),
  (23, ah_ild 1 24),
  (24, ah_vI [(12, aX12_stableOf f)] 2 27),
  (27, ah_iret)]
def aX12_stable (f : Nat) : ah_F := ah_fun (kX12_stable f) 2 f
set_option maxRecDepth 100000 in
set_option maxHeartbeats 4000000 in
theorem mX12_stable {l : Launch} {s0 : State} {D : va_G} {tc : Nat → ClassId} {ad : Nat → Nat} {A : Nat → Prop} (hW : ah_W0 s0 ad A) (f : Nat) : ah_Met l s0 D tc ad A yX12_stable cX12_stable 2 (some .int) 7 162 (aX12_stable f) := by
  refine ah_met hW.1 (by decide) (fun p e s m args below meth c res C => ?_)
  refine ah_cons (as_iload_n C dX12_stable_0 rfl) ?_
  refine ah_cons (as_sI C (mX12_isRowWhat hW f) dX12_stable_1 wt_575 wt_576 wt_446 wt_577 ⟨by decide, by decide, by decide⟩ ⟨by decide, by decide⟩) ?_
  refine ah_cons (as_if_ne C dX12_stable_4 (by decide)) ?_
  refine ah_cons (as_bipush C dX12_stable_7 (by decide)) ?_
  refine ah_cons (as_iret C rfl dX12_stable_9) ?_
  refine ah_cons (as_aload_n C dX12_stable_10 rfl) ?_
  refine ah_cons (as_vI (ah_t1 (ah_okV (n := 0) C (mX12_lacks hW f) dX12_stable_11 (ci := 12) rfl wt_547 wt_549 wt_548 wt_446 wt_550 ⟨by decide, by decide, by decide, by decide⟩ ⟨by decide, by decide⟩) ah_t0)) ?_
  refine ah_cons (as_if_eq C dX12_stable_14 (by decide)) ?_
  refine ah_cons (as_bipush C dX12_stable_17 (by decide)) ?_
  refine ah_cons (as_goto C dX12_stable_19 (by decide)) ?_
  refine ah_cons (as_aload_n C dX12_stable_22 rfl) ?_
  refine ah_cons (as_iload_n C dX12_stable_23 rfl) ?_
  refine ah_cons (as_vI (ah_t1 (ah_okV (n := 1) C (mX12_stableOf hW f) dX12_stable_24 (ci := 12) rfl wt_595 wt_597 wt_596 wt_446 wt_598 ⟨by decide, by decide, by decide, by decide⟩ ⟨by decide, by decide⟩) ah_t0)) ?_
  refine ah_cons (as_iret C rfl dX12_stable_27) ?_
  exact ah_nil
def kX12_happy (f : Nat) : List (Nat × ah_S) := [
  (0, ah_ald 0 1),
  (1, ah_ild 1 2),
  (2, ah_vI [(12, aX12_isSingle f)] 2 5),
  (5, ah_zeq 8 11),
  (8, ah_push (.int (-101)) 10),
  (10, ah_iret),
  (11, ah_ald 0 12),
  (12, ah_gfr [12] 11 15),
  (15, ah_ild 1 16),
  (16, ah_iald 0 17),
  (17, ah_ist 2 18),
  (18, ah_ild 2 19),
  (19, ah_push (.int (-1)) 20),
  (20, ah_ceq 23 26),
  (23, ah_push (.int (-103)) 25),
  (25, ah_iret),
  (26, ah_ald 0 27),
  (27, ah_ild 1 28),
  (28, ah_vI [(12, aX12_preferredOf f)] 2 31),
  (31, ah_ild 2 32),
  (32, ah_ceq 35 48),
  (35, ah_ald 0 36),
  (36, ah_ild 2 37),
  (37, ah_vI [(12, aX12_preferredOf f)] 2 40),
  (40, ah_ild 1 41),
  (41, ah_ceq 44 48),
  (44, ah_push (.int (1)) 45),
  (45, ah_goto 49),
  (48, ah_push (.int (0)) 49),
  (49, ah_iret)]
def aX12_happy (f : Nat) : ah_F := ah_fun (kX12_happy f) 3 f
set_option maxRecDepth 100000 in
set_option maxHeartbeats 4000000 in
theorem mX12_happy {l : Launch} {s0 : State} {D : va_G} {tc : Nat → ClassId} {ad : Nat → Nat} {A : Nat → Prop} (hW : ah_W0 s0 ad A) (f : Nat) : ah_Met l s0 D tc ad A yX12_happy cX12_happy 3 (some .int) 6 135 (aX12_happy f) := by
  refine ah_met hW.1 (by decide) (fun p e s m args below meth c res C => ?_)
  refine ah_cons (as_aload_n C dX12_happy_0 rfl) ?_
  refine ah_cons (as_iload_n C dX12_happy_1 rfl) ?_
  refine ah_cons (as_vI (ah_t1 (ah_okV (n := 1) C (mX12_isSingle hW f) dX12_happy_2 (ci := 12) rfl wt_475 wt_477 wt_476 wt_446 wt_478 ⟨by decide, by decide, by decide, by decide⟩ ⟨by decide, by decide⟩) ah_t0)) ?_
  refine ah_cons (as_if_ne C dX12_happy_5 (by decide)) ?_
  refine ah_cons (as_bipush C dX12_happy_8 (by decide)) ?_
  refine ah_cons (as_iret C rfl dX12_happy_10) ?_
  refine ah_cons (as_aload_n C dX12_happy_11 rfl) ?_
  refine ah_cons (as_gfr C dX12_happy_12 fgX12_22) ?_
  refine ah_cons (as_iload_n C dX12_happy_15 rfl) ?_
  refine ah_cons (as_iald C dX12_happy_16) ?_
  refine ah_cons (as_istore_n C dX12_happy_17 rfl (by decide)) ?_
  refine ah_cons (as_iload_n C dX12_happy_18 rfl) ?_
  refine ah_cons (as_iconst C dX12_happy_19 (by decide)) ?_
  refine ah_cons (as_icmp_ne C dX12_happy_20 (by decide)) ?_
  refine ah_cons (as_bipush C dX12_happy_23 (by decide)) ?_
  refine ah_cons (as_iret C rfl dX12_happy_25) ?_
  refine ah_cons (as_aload_n C dX12_happy_26 rfl) ?_
  refine ah_cons (as_iload_n C dX12_happy_27 rfl) ?_
  refine ah_cons (as_vI (ah_t1 (ah_okV (n := 1) C (mX12_preferredOf hW f) dX12_happy_28 (ci := 12) rfl wt_524 wt_526 wt_525 wt_446 wt_527 ⟨by decide, by decide, by decide, by decide⟩ ⟨by decide, by decide⟩) ah_t0)) ?_
  refine ah_cons (as_iload_n C dX12_happy_31 rfl) ?_
  refine ah_cons (as_icmp_ne C dX12_happy_32 (by decide)) ?_
  refine ah_cons (as_aload_n C dX12_happy_35 rfl) ?_
  refine ah_cons (as_iload_n C dX12_happy_36 rfl) ?_
  refine ah_cons (as_vI (ah_t1 (ah_okV (n := 1) C (mX12_preferredOf hW f) dX12_happy_37 (ci := 12) rfl wt_524 wt_526 wt_525 wt_446 wt_527 ⟨by decide, by decide, by decide, by decide⟩ ⟨by decide, by decide⟩) ah_t0)) ?_
  refine ah_cons (as_iload_n C dX12_happy_40 rfl) ?_
  refine ah_cons (as_icmp_ne C dX12_happy_41 (by decide)) ?_
  refine ah_cons (as_iconst C dX12_happy_44 (by decide)) ?_
  refine ah_cons (as_goto C dX12_happy_45 (by decide)) ?_
  refine ah_cons (as_iconst C dX12_happy_48 (by decide)) ?_
  refine ah_cons (as_iret C rfl dX12_happy_49) ?_
  exact ah_nil
def kX12_roundOf (f : Nat) : List (Nat × ah_S) := [
  (7, ah_ild 4 9),
  (32, ah_ist 5 34),
  (61, ah_ist 2 62),
  (89, ah_ist 3 90),
  (0, ah_ild 1 1),
  (1, ah_ist 2 2),
  (2, ah_ild 1 3),
  (3, ah_ist 3 4),
  (4, ah_push (.int (0)) 5),
  (5, ah_lim 7 [0, 1, 2, 3, 4] (ah_ist 4 7)),
  (9, ah_ald 0 10),
  (10, ah_gfi [12] 2 13),
  (13, ah_clt 16 96),
  (16, ah_ald 0 17),
  (17, ah_gfr [12] 11 20),
  (20, ah_ild 4 22),
  (22, ah_iald 0 23),
  (23, ah_push (.int (-1)) 24),
  (24, ah_ceq 27 31),
  (27, ah_push (.int (1)) 28),
  (28, ah_lim 32 [0, 1, 2, 3, 4] (ah_goto 32)),
  (31, ah_lim 32 [0, 1, 2, 3, 4] (ah_push (.int (0)) 32)),
  (34, ah_ild 5 36),
  (36, ah_zeq 60 39),
  (39, ah_ald 0 40),
  (40, ah_gfr [12] 10 43),
  (43, ah_ild 4 45),
  (45, ah_iald 0 46),
  (46, ah_ild 2 47),
  (47, ah_clt 50 60),
  (50, ah_ald 0 51),
  (51, ah_gfr [12] 10 54),
  (54, ah_ild 4 56),
  (56, ah_iald 0 57),
  (57, ah_lim 61 [0, 1, 3, 4, 5] (ah_goto 61)),
  (60, ah_lim 61 [0, 1, 3, 4, 5] (ah_ild 2 61)),
  (62, ah_ild 5 64),
  (64, ah_zeq 88 67),
  (67, ah_ald 0 68),
  (68, ah_gfr [12] 10 71),
  (71, ah_ild 4 73),
  (73, ah_iald 0 74),
  (74, ah_ild 3 75),
  (75, ah_cgt 78 88),
  (78, ah_ald 0 79),
  (79, ah_gfr [12] 10 82),
  (82, ah_ild 4 84),
  (84, ah_iald 0 85),
  (85, ah_lim 89 [0, 1, 2, 4] (ah_goto 89)),
  (88, ah_lim 89 [0, 1, 2, 4] (ah_ild 3 89)),
  (90, ah_inc 4 (1) 93),
  (93, ah_lim 7 [0, 1, 2, 3, 4] (ah_goto 7)),
  (96, ah_ild 1 97),
  (97, ah_ild 2 98),
  (98, ah_bin (fun x y => x - y) 99),
  (99, ah_ild 3 100),
  (100, ah_ild 1 101),
  (101, ah_bin (fun x y => x - y) 102),
  (102, ah_clt 105 111),
  (105, ah_ild 1 106),
  (106, ah_ild 2 107),
  (107, ah_bin (fun x y => x - y) 108),
  (108, ah_goto 114),
  (111, ah_ild 3 112),
  (112, ah_ild 1 113),
  (113, ah_bin (fun x y => x - y) 114),
  (114, ah_ist 4 116),
  (116, ah_ild 3 117),
  (117, ah_ild 2 118),
  (118, ah_bin (fun x y => x - y) 119),
  (119, ah_ild 4 121),
  (121, ah_bin (fun x y => x + y) 122),
  (122, ah_iret)]
def aX12_roundOf (f : Nat) : ah_F := ah_fun (kX12_roundOf f) 6 f
set_option maxRecDepth 100000 in
set_option maxHeartbeats 4000000 in
theorem mX12_roundOf {l : Launch} {s0 : State} {D : va_G} {tc : Nat → ClassId} {ad : Nat → Nat} {A : Nat → Prop} (hW : ah_W0 s0 ad A) (f : Nat) : ah_Met l s0 D tc ad A yX12_roundOf cX12_roundOf 6 (some .int) 0 0 (aX12_roundOf f) := by
  refine ah_met hW.1 (by decide) (fun p e s m args below meth c res C => ?_)
  refine ah_cons (as_iload C dX12_roundOf_7) ?_
  refine ah_cons (as_istore C dX12_roundOf_32 (by decide)) ?_
  refine ah_cons (as_istore_n C dX12_roundOf_61 rfl (by decide)) ?_
  refine ah_cons (as_istore_n C dX12_roundOf_89 rfl (by decide)) ?_
  refine ah_cons (as_iload_n C dX12_roundOf_0 rfl) ?_
  refine ah_cons (as_istore_n C dX12_roundOf_1 rfl (by decide)) ?_
  refine ah_cons (as_iload_n C dX12_roundOf_2 rfl) ?_
  refine ah_cons (as_istore_n C dX12_roundOf_3 rfl (by decide)) ?_
  refine ah_cons (as_iconst C dX12_roundOf_4 (by decide)) ?_
  refine ah_cons (as_lim (as_istore C dX12_roundOf_5 (by decide))) ?_
  refine ah_cons (as_aload_n C dX12_roundOf_9 rfl) ?_
  refine ah_cons (as_gfi C dX12_roundOf_10 fgX12_85) ?_
  refine ah_cons (as_icmp_ge C dX12_roundOf_13 (by decide)) ?_
  refine ah_cons (as_aload_n C dX12_roundOf_16 rfl) ?_
  refine ah_cons (as_gfr C dX12_roundOf_17 fgX12_22) ?_
  refine ah_cons (as_iload C dX12_roundOf_20) ?_
  refine ah_cons (as_iald C dX12_roundOf_22) ?_
  refine ah_cons (as_iconst C dX12_roundOf_23 (by decide)) ?_
  refine ah_cons (as_icmp_ne C dX12_roundOf_24 (by decide)) ?_
  refine ah_cons (as_iconst C dX12_roundOf_27 (by decide)) ?_
  refine ah_cons (as_lim (as_goto C dX12_roundOf_28 (by decide))) ?_
  refine ah_cons (as_lim (as_iconst C dX12_roundOf_31 (by decide))) ?_
  refine ah_cons (as_iload C dX12_roundOf_34) ?_
  refine ah_cons (as_if_eq C dX12_roundOf_36 (by decide)) ?_
  refine ah_cons (as_aload_n C dX12_roundOf_39 rfl) ?_
  refine ah_cons (as_gfr C dX12_roundOf_40 fgX12_19) ?_
  refine ah_cons (as_iload C dX12_roundOf_43) ?_
  refine ah_cons (as_iald C dX12_roundOf_45) ?_
  refine ah_cons (as_iload_n C dX12_roundOf_46 rfl) ?_
  refine ah_cons (as_icmp_ge C dX12_roundOf_47 (by decide)) ?_
  refine ah_cons (as_aload_n C dX12_roundOf_50 rfl) ?_
  refine ah_cons (as_gfr C dX12_roundOf_51 fgX12_19) ?_
  refine ah_cons (as_iload C dX12_roundOf_54) ?_
  refine ah_cons (as_iald C dX12_roundOf_56) ?_
  refine ah_cons (as_lim (as_goto C dX12_roundOf_57 (by decide))) ?_
  refine ah_cons (as_lim (as_iload_n C dX12_roundOf_60 rfl)) ?_
  refine ah_cons (as_iload C dX12_roundOf_62) ?_
  refine ah_cons (as_if_eq C dX12_roundOf_64 (by decide)) ?_
  refine ah_cons (as_aload_n C dX12_roundOf_67 rfl) ?_
  refine ah_cons (as_gfr C dX12_roundOf_68 fgX12_19) ?_
  refine ah_cons (as_iload C dX12_roundOf_71) ?_
  refine ah_cons (as_iald C dX12_roundOf_73) ?_
  refine ah_cons (as_iload_n C dX12_roundOf_74 rfl) ?_
  refine ah_cons (as_icmp_le C dX12_roundOf_75 (by decide)) ?_
  refine ah_cons (as_aload_n C dX12_roundOf_78 rfl) ?_
  refine ah_cons (as_gfr C dX12_roundOf_79 fgX12_19) ?_
  refine ah_cons (as_iload C dX12_roundOf_82) ?_
  refine ah_cons (as_iald C dX12_roundOf_84) ?_
  refine ah_cons (as_lim (as_goto C dX12_roundOf_85 (by decide))) ?_
  refine ah_cons (as_lim (as_iload_n C dX12_roundOf_88 rfl)) ?_
  refine ah_cons (as_iinc C dX12_roundOf_90 (by decide) (by decide)) ?_
  refine ah_cons (as_lim (as_goto C dX12_roundOf_93 (by decide))) ?_
  refine ah_cons (as_iload_n C dX12_roundOf_96 rfl) ?_
  refine ah_cons (as_iload_n C dX12_roundOf_97 rfl) ?_
  refine ah_cons (as_isub C dX12_roundOf_98) ?_
  refine ah_cons (as_iload_n C dX12_roundOf_99 rfl) ?_
  refine ah_cons (as_iload_n C dX12_roundOf_100 rfl) ?_
  refine ah_cons (as_isub C dX12_roundOf_101) ?_
  refine ah_cons (as_icmp_ge C dX12_roundOf_102 (by decide)) ?_
  refine ah_cons (as_iload_n C dX12_roundOf_105 rfl) ?_
  refine ah_cons (as_iload_n C dX12_roundOf_106 rfl) ?_
  refine ah_cons (as_isub C dX12_roundOf_107) ?_
  refine ah_cons (as_goto C dX12_roundOf_108 (by decide)) ?_
  refine ah_cons (as_iload_n C dX12_roundOf_111 rfl) ?_
  refine ah_cons (as_iload_n C dX12_roundOf_112 rfl) ?_
  refine ah_cons (as_isub C dX12_roundOf_113) ?_
  refine ah_cons (as_istore C dX12_roundOf_114 (by decide)) ?_
  refine ah_cons (as_iload_n C dX12_roundOf_116 rfl) ?_
  refine ah_cons (as_iload_n C dX12_roundOf_117 rfl) ?_
  refine ah_cons (as_isub C dX12_roundOf_118) ?_
  refine ah_cons (as_iload C dX12_roundOf_119) ?_
  refine ah_cons (as_iadd C dX12_roundOf_121) ?_
  refine ah_cons (as_iret C rfl dX12_roundOf_122) ?_
  exact ah_nil
def kX12_round (f : Nat) : List (Nat × ah_S) := [
  (0, ah_ald 0 1),
  (1, ah_vI [(12, aX12_lacks f)] 1 4),
  (4, ah_zeq 7 27),
  (7, ah_ild 1 8),
  (8, ah_i2l 9),
  (9, ah_push (.long (0)) 10),
  (10, ah_push (.long (5)) 13),
  (13, ah_sI (aX12_in f) 3 16),
  (16, ah_zeq 27 19),
  (19, ah_ald 0 20),
  (20, ah_ild 1 21),
  (21, ah_vI [(12, aX12_roundOf f)] 2 24),
  (24, ah_goto 29),
  (27, ah_push (.int (-101)) 29),
  (29, ah_iret)]
def aX12_round (f : Nat) : ah_F := ah_fun (kX12_round f) 2 f
set_option maxRecDepth 100000 in
set_option maxHeartbeats 4000000 in
theorem mX12_round {l : Launch} {s0 : State} {D : va_G} {tc : Nat → ClassId} {ad : Nat → Nat} {A : Nat → Prop} (hW : ah_W0 s0 ad A) (f : Nat) : ah_Met l s0 D tc ad A yX12_round cX12_round 2 (some .int) 1 25 (aX12_round f) := by
  refine ah_met hW.1 (by decide) (fun p e s m args below meth c res C => ?_)
  refine ah_cons (as_aload_n C dX12_round_0 rfl) ?_
  refine ah_cons (as_vI (ah_t1 (ah_okV (n := 0) C (mX12_lacks hW f) dX12_round_1 (ci := 12) rfl wt_547 wt_549 wt_548 wt_446 wt_550 ⟨by decide, by decide, by decide, by decide⟩ ⟨by decide, by decide⟩) ah_t0)) ?_
  refine ah_cons (as_if_ne C dX12_round_4 (by decide)) ?_
  refine ah_cons (as_iload_n C dX12_round_7 rfl) ?_
  refine ah_cons (as_i2l C dX12_round_8) ?_
  refine ah_cons (as_lconst C dX12_round_9 (by decide)) ?_
  refine ah_cons (as_ldc2 C dX12_round_10 wt_545) ?_
  refine ah_cons (as_sI C (mX12_in hW f) dX12_round_13 wt_444 wt_445 wt_446 wt_447 ⟨by decide, by decide, by decide⟩ ⟨by decide, by decide⟩) ?_
  refine ah_cons (as_if_eq C dX12_round_16 (by decide)) ?_
  refine ah_cons (as_aload_n C dX12_round_19 rfl) ?_
  refine ah_cons (as_iload_n C dX12_round_20 rfl) ?_
  refine ah_cons (as_vI (ah_t1 (ah_okV (n := 1) C (mX12_roundOf hW f) dX12_round_21 (ci := 12) rfl wt_599 wt_601 wt_600 wt_446 wt_602 ⟨by decide, by decide, by decide, by decide⟩ ⟨by decide, by decide⟩) ah_t0)) ?_
  refine ah_cons (as_goto C dX12_round_24 (by decide)) ?_
  refine ah_cons (as_bipush C dX12_round_27 (by decide)) ?_
  refine ah_cons (as_iret C rfl dX12_round_29) ?_
  exact ah_nil
def kX12_oddsOf (f : Nat) : List (Nat × ah_S) := [
  (7, ah_ild 4 9),
  (22, ah_ild 5 24),
  (58, ah_ist 6 60),
  (0, ah_push (.int (0)) 1),
  (1, ah_ist 2 2),
  (2, ah_push (.int (0)) 3),
  (3, ah_ist 3 4),
  (4, ah_push (.int (0)) 5),
  (5, ah_lim 7 [0, 1, 2, 3, 4] (ah_ist 4 7)),
  (9, ah_ald 0 10),
  (10, ah_gfi [12] 2 13),
  (13, ah_clt 16 109),
  (16, ah_ild 4 18),
  (18, ah_push (.int (1)) 19),
  (19, ah_bin (fun x y => x + y) 20),
  (20, ah_lim 22 [0, 1, 2, 3, 4, 5] (ah_ist 5 22)),
  (24, ah_ald 0 25),
  (25, ah_gfi [12] 2 28),
  (28, ah_clt 31 103),
  (31, ah_ald 0 32),
  (32, ah_gfr [12] 11 35),
  (35, ah_ild 4 37),
  (37, ah_iald 0 38),
  (38, ah_push (.int (-1)) 39),
  (39, ah_ceq 42 57),
  (42, ah_ald 0 43),
  (43, ah_gfr [12] 11 46),
  (46, ah_ild 5 48),
  (48, ah_iald 0 49),
  (49, ah_push (.int (-1)) 50),
  (50, ah_ceq 53 57),
  (53, ah_push (.int (1)) 54),
  (54, ah_lim 58 [0, 1, 2, 3, 4, 5] (ah_goto 58)),
  (57, ah_lim 58 [0, 1, 2, 3, 4, 5] (ah_push (.int (0)) 58)),
  (60, ah_ild 3 61),
  (61, ah_ild 6 63),
  (63, ah_zeq 70 66),
  (66, ah_push (.int (1)) 67),
  (67, ah_goto 71),
  (70, ah_push (.int (0)) 71),
  (71, ah_bin (fun x y => x + y) 72),
  (72, ah_ist 3 73),
  (73, ah_ild 2 74),
  (74, ah_ild 6 76),
  (76, ah_zeq 94 79),
  (79, ah_ald 0 80),
  (80, ah_ild 4 82),
  (82, ah_ild 5 84),
  (84, ah_vI [(12, aX12_mayBe f)] 3 87),
  (87, ah_zeq 94 90),
  (90, ah_push (.int (1)) 91),
  (91, ah_goto 95),
  (94, ah_push (.int (0)) 95),
  (95, ah_bin (fun x y => x + y) 96),
  (96, ah_ist 2 97),
  (97, ah_inc 5 (1) 100),
  (100, ah_lim 22 [0, 1, 2, 3, 4, 5] (ah_goto 22)),
  (103, ah_inc 4 (1) 106),
  (106, ah_lim 7 [0, 1, 2, 3, 4] (ah_goto 7)),
  (109, ah_ild 3 110),
  (110, ah_zeq 113 117),
  (113, ah_push (.int (1)) 114),
  (114, ah_goto 118),
  (117, ah_ild 3 118),
  (118, ah_ist 4 120),
  (120, ah_ild 4 122),
  (122, ah_ild 2 123),
  (123, ah_sI (aX12_common f) 2 126),
  (126, ah_ist 5 128),
  (128, ah_ild 1 129),
  (129, ah_zeq 132 139),
  (132, ah_ild 2 133),
  (133, ah_ild 5 135),
  (135, ah_div 136),
  (136, ah_goto 144),
  (139, ah_ild 4 141),
  (141, ah_ild 5 143),
  (143, ah_div 144),
  (144, ah_iret)]
def aX12_oddsOf (f : Nat) : ah_F := ah_fun (kX12_oddsOf f) 7 f
set_option maxRecDepth 100000 in
set_option maxHeartbeats 4000000 in
theorem mX12_oddsOf {l : Launch} {s0 : State} {D : va_G} {tc : Nat → ClassId} {ad : Nat → Nat} {A : Nat → Prop} (hW : ah_W0 s0 ad A) (f : Nat) : ah_Met l s0 D tc ad A yX12_oddsOf cX12_oddsOf 7 (some .int) 3 66 (aX12_oddsOf f) := by
  refine ah_met hW.1 (by decide) (fun p e s m args below meth c res C => ?_)
  refine ah_cons (as_iload C dX12_oddsOf_7) ?_
  refine ah_cons (as_iload C dX12_oddsOf_22) ?_
  refine ah_cons (as_istore C dX12_oddsOf_58 (by decide)) ?_
  refine ah_cons (as_iconst C dX12_oddsOf_0 (by decide)) ?_
  refine ah_cons (as_istore_n C dX12_oddsOf_1 rfl (by decide)) ?_
  refine ah_cons (as_iconst C dX12_oddsOf_2 (by decide)) ?_
  refine ah_cons (as_istore_n C dX12_oddsOf_3 rfl (by decide)) ?_
  refine ah_cons (as_iconst C dX12_oddsOf_4 (by decide)) ?_
  refine ah_cons (as_lim (as_istore C dX12_oddsOf_5 (by decide))) ?_
  refine ah_cons (as_aload_n C dX12_oddsOf_9 rfl) ?_
  refine ah_cons (as_gfi C dX12_oddsOf_10 fgX12_85) ?_
  refine ah_cons (as_icmp_ge C dX12_oddsOf_13 (by decide)) ?_
  refine ah_cons (as_iload C dX12_oddsOf_16) ?_
  refine ah_cons (as_iconst C dX12_oddsOf_18 (by decide)) ?_
  refine ah_cons (as_iadd C dX12_oddsOf_19) ?_
  refine ah_cons (as_lim (as_istore C dX12_oddsOf_20 (by decide))) ?_
  refine ah_cons (as_aload_n C dX12_oddsOf_24 rfl) ?_
  refine ah_cons (as_gfi C dX12_oddsOf_25 fgX12_85) ?_
  refine ah_cons (as_icmp_ge C dX12_oddsOf_28 (by decide)) ?_
  refine ah_cons (as_aload_n C dX12_oddsOf_31 rfl) ?_
  refine ah_cons (as_gfr C dX12_oddsOf_32 fgX12_22) ?_
  refine ah_cons (as_iload C dX12_oddsOf_35) ?_
  refine ah_cons (as_iald C dX12_oddsOf_37) ?_
  refine ah_cons (as_iconst C dX12_oddsOf_38 (by decide)) ?_
  refine ah_cons (as_icmp_ne C dX12_oddsOf_39 (by decide)) ?_
  refine ah_cons (as_aload_n C dX12_oddsOf_42 rfl) ?_
  refine ah_cons (as_gfr C dX12_oddsOf_43 fgX12_22) ?_
  refine ah_cons (as_iload C dX12_oddsOf_46) ?_
  refine ah_cons (as_iald C dX12_oddsOf_48) ?_
  refine ah_cons (as_iconst C dX12_oddsOf_49 (by decide)) ?_
  refine ah_cons (as_icmp_ne C dX12_oddsOf_50 (by decide)) ?_
  refine ah_cons (as_iconst C dX12_oddsOf_53 (by decide)) ?_
  refine ah_cons (as_lim (as_goto C dX12_oddsOf_54 (by decide))) ?_
  refine ah_cons (as_lim (as_iconst C dX12_oddsOf_57 (by decide))) ?_
  refine ah_cons (as_iload_n C dX12_oddsOf_60 rfl) ?_
  refine ah_cons (as_iload C dX12_oddsOf_61) ?_
  refine ah_cons (as_if_eq C dX12_oddsOf_63 (by decide)) ?_
  refine ah_cons (as_iconst C dX12_oddsOf_66 (by decide)) ?_
  refine ah_cons (as_goto C dX12_oddsOf_67 (by decide)) ?_
  refine ah_cons (as_iconst C dX12_oddsOf_70 (by decide)) ?_
  refine ah_cons (as_iadd C dX12_oddsOf_71) ?_
  refine ah_cons (as_istore_n C dX12_oddsOf_72 rfl (by decide)) ?_
  refine ah_cons (as_iload_n C dX12_oddsOf_73 rfl) ?_
  refine ah_cons (as_iload C dX12_oddsOf_74) ?_
  refine ah_cons (as_if_eq C dX12_oddsOf_76 (by decide)) ?_
  refine ah_cons (as_aload_n C dX12_oddsOf_79 rfl) ?_
  refine ah_cons (as_iload C dX12_oddsOf_80) ?_
  refine ah_cons (as_iload C dX12_oddsOf_82) ?_
  refine ah_cons (as_vI (ah_t1 (ah_okV (n := 2) C (mX12_mayBe hW f) dX12_oddsOf_84 (ci := 12) rfl wt_490 wt_492 wt_491 wt_446 wt_493 ⟨by decide, by decide, by decide, by decide⟩ ⟨by decide, by decide⟩) ah_t0)) ?_
  refine ah_cons (as_if_eq C dX12_oddsOf_87 (by decide)) ?_
  refine ah_cons (as_iconst C dX12_oddsOf_90 (by decide)) ?_
  refine ah_cons (as_goto C dX12_oddsOf_91 (by decide)) ?_
  refine ah_cons (as_iconst C dX12_oddsOf_94 (by decide)) ?_
  refine ah_cons (as_iadd C dX12_oddsOf_95) ?_
  refine ah_cons (as_istore_n C dX12_oddsOf_96 rfl (by decide)) ?_
  refine ah_cons (as_iinc C dX12_oddsOf_97 (by decide) (by decide)) ?_
  refine ah_cons (as_lim (as_goto C dX12_oddsOf_100 (by decide))) ?_
  refine ah_cons (as_iinc C dX12_oddsOf_103 (by decide) (by decide)) ?_
  refine ah_cons (as_lim (as_goto C dX12_oddsOf_106 (by decide))) ?_
  refine ah_cons (as_iload_n C dX12_oddsOf_109 rfl) ?_
  refine ah_cons (as_if_ne C dX12_oddsOf_110 (by decide)) ?_
  refine ah_cons (as_iconst C dX12_oddsOf_113 (by decide)) ?_
  refine ah_cons (as_goto C dX12_oddsOf_114 (by decide)) ?_
  refine ah_cons (as_iload_n C dX12_oddsOf_117 rfl) ?_
  refine ah_cons (as_istore C dX12_oddsOf_118 (by decide)) ?_
  refine ah_cons (as_iload C dX12_oddsOf_120) ?_
  refine ah_cons (as_iload_n C dX12_oddsOf_122 rfl) ?_
  refine ah_cons (as_sI C (mX12_common hW f) dX12_oddsOf_123 wt_603 wt_604 wt_446 wt_605 ⟨by decide, by decide, by decide⟩ ⟨by decide, by decide⟩) ?_
  refine ah_cons (as_istore C dX12_oddsOf_126 (by decide)) ?_
  refine ah_cons (as_iload_n C dX12_oddsOf_128 rfl) ?_
  refine ah_cons (as_if_ne C dX12_oddsOf_129 (by decide)) ?_
  refine ah_cons (as_iload_n C dX12_oddsOf_132 rfl) ?_
  refine ah_cons (as_iload C dX12_oddsOf_133) ?_
  refine ah_cons (as_idiv C dX12_oddsOf_135) ?_
  refine ah_cons (as_goto C dX12_oddsOf_136 (by decide)) ?_
  refine ah_cons (as_iload C dX12_oddsOf_139) ?_
  refine ah_cons (as_iload C dX12_oddsOf_141) ?_
  refine ah_cons (as_idiv C dX12_oddsOf_143) ?_
  refine ah_cons (as_iret C rfl dX12_oddsOf_144) ?_
  exact ah_nil
def kX12_odds (f : Nat) : List (Nat × ah_S) := [
  (0, ah_ild 1 1),
  (1, ah_i2l 2),
  (2, ah_push (.long (0)) 3),
  (3, ah_push (.long (1)) 4),
  (4, ah_sI (aX12_in f) 3 7),
  (7, ah_zeq 10 13),
  (10, ah_push (.int (-102)) 12),
  (12, ah_iret),
  (13, ah_ald 0 14),
  (14, ah_vI [(12, aX12_lacks f)] 1 17),
  (17, ah_zeq 25 20),
  (20, ah_push (.int (-103)) 22),
  (22, ah_goto 30),
  (25, ah_ald 0 26),
  (26, ah_ild 1 27),
  (27, ah_vI [(12, aX12_oddsOf f)] 2 30),
  (30, ah_iret)]
def aX12_odds (f : Nat) : ah_F := ah_fun (kX12_odds f) 2 f
set_option maxRecDepth 100000 in
set_option maxHeartbeats 4000000 in
theorem mX12_odds {l : Launch} {s0 : State} {D : va_G} {tc : Nat → ClassId} {ad : Nat → Nat} {A : Nat → Prop} (hW : ah_W0 s0 ad A) (f : Nat) : ah_Met l s0 D tc ad A yX12_odds cX12_odds 2 (some .int) 4 92 (aX12_odds f) := by
  refine ah_met hW.1 (by decide) (fun p e s m args below meth c res C => ?_)
  refine ah_cons (as_iload_n C dX12_odds_0 rfl) ?_
  refine ah_cons (as_i2l C dX12_odds_1) ?_
  refine ah_cons (as_lconst C dX12_odds_2 (by decide)) ?_
  refine ah_cons (as_lconst C dX12_odds_3 (by decide)) ?_
  refine ah_cons (as_sI C (mX12_in hW f) dX12_odds_4 wt_444 wt_445 wt_446 wt_447 ⟨by decide, by decide, by decide⟩ ⟨by decide, by decide⟩) ?_
  refine ah_cons (as_if_ne C dX12_odds_7 (by decide)) ?_
  refine ah_cons (as_bipush C dX12_odds_10 (by decide)) ?_
  refine ah_cons (as_iret C rfl dX12_odds_12) ?_
  refine ah_cons (as_aload_n C dX12_odds_13 rfl) ?_
  refine ah_cons (as_vI (ah_t1 (ah_okV (n := 0) C (mX12_lacks hW f) dX12_odds_14 (ci := 12) rfl wt_547 wt_549 wt_548 wt_446 wt_550 ⟨by decide, by decide, by decide, by decide⟩ ⟨by decide, by decide⟩) ah_t0)) ?_
  refine ah_cons (as_if_eq C dX12_odds_17 (by decide)) ?_
  refine ah_cons (as_bipush C dX12_odds_20 (by decide)) ?_
  refine ah_cons (as_goto C dX12_odds_22 (by decide)) ?_
  refine ah_cons (as_aload_n C dX12_odds_25 rfl) ?_
  refine ah_cons (as_iload_n C dX12_odds_26 rfl) ?_
  refine ah_cons (as_vI (ah_t1 (ah_okV (n := 1) C (mX12_oddsOf hW f) dX12_odds_27 (ci := 12) rfl wt_606 wt_608 wt_607 wt_446 wt_609 ⟨by decide, by decide, by decide, by decide⟩ ⟨by decide, by decide⟩) ah_t0)) ?_
  refine ah_cons (as_iret C rfl dX12_odds_30) ?_
  exact ah_nil
def kX12_see (f : Nat) : List (Nat × ah_S) := [
  (0, ah_ald 0 1),
  (1, ah_ild 1 2),
  (2, ah_ild 2 3),
  (3, ah_vI [(12, aX12_areTwo f)] 3 6),
  (6, ah_zeq 9 12),
  (9, ah_push (.int (-101)) 11),
  (11, ah_iret),
  (12, ah_ild 3 13),
  (13, ah_i2l 14),
  (14, ah_push (.long (-1)) 17),
  (17, ah_push (.long (18)) 20),
  (20, ah_sI (aX12_in f) 3 23),
  (23, ah_zeq 26 29),
  (26, ah_push (.int (-102)) 28),
  (28, ah_iret),
  (29, ah_ald 0 30),
  (30, ah_gfi [12] 15 33),
  (33, ah_push (.int (8)) 35),
  (35, ah_ceq 38 41),
  (38, ah_push (.int (-104)) 40),
  (40, ah_iret),
  (41, ah_ald 0 42),
  (42, ah_gfr [12] 16 45),
  (45, ah_push (.int (3)) 46),
  (46, ah_ald 0 47),
  (47, ah_gfi [12] 15 50),
  (50, ah_bin (fun x y => x * y) 51),
  (51, ah_ild 1 52),
  (52, ah_iast 53),
  (53, ah_ald 0 54),
  (54, ah_gfr [12] 16 57),
  (57, ah_push (.int (3)) 58),
  (58, ah_ald 0 59),
  (59, ah_gfi [12] 15 62),
  (62, ah_bin (fun x y => x * y) 63),
  (63, ah_push (.int (1)) 64),
  (64, ah_bin (fun x y => x + y) 65),
  (65, ah_ild 2 66),
  (66, ah_iast 67),
  (67, ah_ald 0 68),
  (68, ah_gfr [12] 16 71),
  (71, ah_push (.int (3)) 72),
  (72, ah_ald 0 73),
  (73, ah_gfi [12] 15 76),
  (76, ah_bin (fun x y => x * y) 77),
  (77, ah_push (.int (2)) 78),
  (78, ah_bin (fun x y => x + y) 79),
  (79, ah_ild 3 80),
  (80, ah_iast 81),
  (81, ah_ald 0 82),
  (82, ah_dupR 83),
  (83, ah_gfi [12] 15 86),
  (86, ah_push (.int (1)) 87),
  (87, ah_bin (fun x y => x + y) 88),
  (88, ah_pfi [12] 15 91),
  (91, ah_ald 0 92),
  (92, ah_gfi [12] 15 95),
  (95, ah_iret)]
def aX12_see (f : Nat) : ah_F := ah_fun (kX12_see f) 4 f
set_option maxRecDepth 100000 in
set_option maxHeartbeats 4000000 in
theorem mX12_see {l : Launch} {s0 : State} {D : va_G} {tc : Nat → ClassId} {ad : Nat → Nat} {A : Nat → Prop} (hW : ah_W0 s0 ad A) (f : Nat) : ah_Met l s0 D tc ad A yX12_see cX12_see 4 (some .int) 3 68 (aX12_see f) := by
  refine ah_met hW.1 (by decide) (fun p e s m args below meth c res C => ?_)
  refine ah_cons (as_aload_n C dX12_see_0 rfl) ?_
  refine ah_cons (as_iload_n C dX12_see_1 rfl) ?_
  refine ah_cons (as_iload_n C dX12_see_2 rfl) ?_
  refine ah_cons (as_vI (ah_t1 (ah_okV (n := 2) C (mX12_areTwo hW f) dX12_see_3 (ci := 12) rfl wt_541 wt_543 wt_542 wt_446 wt_544 ⟨by decide, by decide, by decide, by decide⟩ ⟨by decide, by decide⟩) ah_t0)) ?_
  refine ah_cons (as_if_ne C dX12_see_6 (by decide)) ?_
  refine ah_cons (as_bipush C dX12_see_9 (by decide)) ?_
  refine ah_cons (as_iret C rfl dX12_see_11) ?_
  refine ah_cons (as_iload_n C dX12_see_12 rfl) ?_
  refine ah_cons (as_i2l C dX12_see_13) ?_
  refine ah_cons (as_ldc2 C dX12_see_14 wt_610) ?_
  refine ah_cons (as_ldc2 C dX12_see_17 wt_611) ?_
  refine ah_cons (as_sI C (mX12_in hW f) dX12_see_20 wt_444 wt_445 wt_446 wt_447 ⟨by decide, by decide, by decide⟩ ⟨by decide, by decide⟩) ?_
  refine ah_cons (as_if_ne C dX12_see_23 (by decide)) ?_
  refine ah_cons (as_bipush C dX12_see_26 (by decide)) ?_
  refine ah_cons (as_iret C rfl dX12_see_28) ?_
  refine ah_cons (as_aload_n C dX12_see_29 rfl) ?_
  refine ah_cons (as_gfi C dX12_see_30 fgX12_100) ?_
  refine ah_cons (as_bipush C dX12_see_33 (by decide)) ?_
  refine ah_cons (as_icmp_ne C dX12_see_35 (by decide)) ?_
  refine ah_cons (as_bipush C dX12_see_38 (by decide)) ?_
  refine ah_cons (as_iret C rfl dX12_see_40) ?_
  refine ah_cons (as_aload_n C dX12_see_41 rfl) ?_
  refine ah_cons (as_gfr C dX12_see_42 fgX12_34) ?_
  refine ah_cons (as_iconst C dX12_see_45 (by decide)) ?_
  refine ah_cons (as_aload_n C dX12_see_46 rfl) ?_
  refine ah_cons (as_gfi C dX12_see_47 fgX12_100) ?_
  refine ah_cons (as_imul C dX12_see_50) ?_
  refine ah_cons (as_iload_n C dX12_see_51 rfl) ?_
  refine ah_cons (as_iast C dX12_see_52) ?_
  refine ah_cons (as_aload_n C dX12_see_53 rfl) ?_
  refine ah_cons (as_gfr C dX12_see_54 fgX12_34) ?_
  refine ah_cons (as_iconst C dX12_see_57 (by decide)) ?_
  refine ah_cons (as_aload_n C dX12_see_58 rfl) ?_
  refine ah_cons (as_gfi C dX12_see_59 fgX12_100) ?_
  refine ah_cons (as_imul C dX12_see_62) ?_
  refine ah_cons (as_iconst C dX12_see_63 (by decide)) ?_
  refine ah_cons (as_iadd C dX12_see_64) ?_
  refine ah_cons (as_iload_n C dX12_see_65 rfl) ?_
  refine ah_cons (as_iast C dX12_see_66) ?_
  refine ah_cons (as_aload_n C dX12_see_67 rfl) ?_
  refine ah_cons (as_gfr C dX12_see_68 fgX12_34) ?_
  refine ah_cons (as_iconst C dX12_see_71 (by decide)) ?_
  refine ah_cons (as_aload_n C dX12_see_72 rfl) ?_
  refine ah_cons (as_gfi C dX12_see_73 fgX12_100) ?_
  refine ah_cons (as_imul C dX12_see_76) ?_
  refine ah_cons (as_iconst C dX12_see_77 (by decide)) ?_
  refine ah_cons (as_iadd C dX12_see_78) ?_
  refine ah_cons (as_iload_n C dX12_see_79 rfl) ?_
  refine ah_cons (as_iast C dX12_see_80) ?_
  refine ah_cons (as_aload_n C dX12_see_81 rfl) ?_
  refine ah_cons (as_dupR C dX12_see_82) ?_
  refine ah_cons (as_gfi C dX12_see_83 fgX12_100) ?_
  refine ah_cons (as_iconst C dX12_see_86 (by decide)) ?_
  refine ah_cons (as_iadd C dX12_see_87) ?_
  refine ah_cons (as_pfi C dX12_see_88 fpX12_100) ?_
  refine ah_cons (as_aload_n C dX12_see_91 rfl) ?_
  refine ah_cons (as_gfi C dX12_see_92 fgX12_100) ?_
  refine ah_cons (as_iret C rfl dX12_see_95) ?_
  exact ah_nil
def kX12_forget (f : Nat) : List (Nat × ah_S) := [
  (0, ah_ald 0 1),
  (1, ah_gfi [12] 15 4),
  (4, ah_ist 1 5),
  (5, ah_ald 0 6),
  (6, ah_push (.int (0)) 7),
  (7, ah_pfi [12] 15 10),
  (10, ah_ild 1 11),
  (11, ah_iret)]
def aX12_forget (f : Nat) : ah_F := ah_fun (kX12_forget f) 2 f
set_option maxRecDepth 100000 in
set_option maxHeartbeats 4000000 in
theorem mX12_forget {l : Launch} {s0 : State} {D : va_G} {tc : Nat → ClassId} {ad : Nat → Nat} {A : Nat → Prop} (hW : ah_W0 s0 ad A) (f : Nat) : ah_Met l s0 D tc ad A yX12_forget cX12_forget 2 (some .int) 0 0 (aX12_forget f) := by
  refine ah_met hW.1 (by decide) (fun p e s m args below meth c res C => ?_)
  refine ah_cons (as_aload_n C dX12_forget_0 rfl) ?_
  refine ah_cons (as_gfi C dX12_forget_1 fgX12_100) ?_
  refine ah_cons (as_istore_n C dX12_forget_4 rfl (by decide)) ?_
  refine ah_cons (as_aload_n C dX12_forget_5 rfl) ?_
  refine ah_cons (as_iconst C dX12_forget_6 (by decide)) ?_
  refine ah_cons (as_pfi C dX12_forget_7 fpX12_100) ?_
  refine ah_cons (as_iload_n C dX12_forget_10 rfl) ?_
  refine ah_cons (as_iret C rfl dX12_forget_11) ?_
  exact ah_nil
def kX12_draw (f : Nat) : List (Nat × ah_S) := [
  (0, ah_ald 0 1),
  (1, ah_push (.long (1103515245)) 4),
  (4, ah_ald 0 5),
  (5, ah_gfi [12] 18 8),
  (8, ah_i2l 9),
  (9, ah_lbin (fun x y => x * y) 10),
  (10, ah_push (.long (12345)) 13),
  (13, ah_lbin (fun x y => x + y) 14),
  (14, ah_push (.long (2147483647)) 17),
  (17, ah_lbin (fun x y => x &&& y) 18),
  (18, ah_l2i 19),
  (19, ah_pfi [12] 18 22),
  (22, ah_ald 0 23),
  (23, ah_gfi [12] 18 26),
  (26, ah_push (.int (65536)) 28),
  (28, ah_div 29),
  (29, ah_ild 1 30),
  (30, ah_rem 31),
  (31, ah_iret)]
def aX12_draw (f : Nat) : ah_F := ah_fun (kX12_draw f) 2 f
set_option maxRecDepth 100000 in
set_option maxHeartbeats 4000000 in
theorem mX12_draw {l : Launch} {s0 : State} {D : va_G} {tc : Nat → ClassId} {ad : Nat → Nat} {A : Nat → Prop} (hW : ah_W0 s0 ad A) (f : Nat) : ah_Met l s0 D tc ad A yX12_draw cX12_draw 2 (some .int) 0 0 (aX12_draw f) := by
  refine ah_met hW.1 (by decide) (fun p e s m args below meth c res C => ?_)
  refine ah_cons (as_aload_n C dX12_draw_0 rfl) ?_
  refine ah_cons (as_ldc2 C dX12_draw_1 wt_612) ?_
  refine ah_cons (as_aload_n C dX12_draw_4 rfl) ?_
  refine ah_cons (as_gfi C dX12_draw_5 fgX12_227) ?_
  refine ah_cons (as_i2l C dX12_draw_8) ?_
  refine ah_cons (as_lmul C dX12_draw_9) ?_
  refine ah_cons (as_ldc2 C dX12_draw_10 wt_614) ?_
  refine ah_cons (as_ladd C dX12_draw_13) ?_
  refine ah_cons (as_ldc2 C dX12_draw_14 wt_615) ?_
  refine ah_cons (as_land C dX12_draw_17) ?_
  refine ah_cons (as_l2i C dX12_draw_18) ?_
  refine ah_cons (as_pfi C dX12_draw_19 fpX12_227) ?_
  refine ah_cons (as_aload_n C dX12_draw_22 rfl) ?_
  refine ah_cons (as_gfi C dX12_draw_23 fgX12_227) ?_
  refine ah_cons (as_ldc C dX12_draw_26 wt_616) ?_
  refine ah_cons (as_idiv C dX12_draw_28) ?_
  refine ah_cons (as_iload_n C dX12_draw_29 rfl) ?_
  refine ah_cons (as_irem C dX12_draw_30) ?_
  refine ah_cons (as_iret C rfl dX12_draw_31) ?_
  exact ah_nil
def kX12_winters (f : Nat) : List (Nat × ah_S) := [
  (66, ah_ild 6 68),
  (0, ah_ild 1 1),
  (1, ah_i2l 2),
  (2, ah_push (.long (1)) 3),
  (3, ah_push (.long (60)) 6),
  (6, ah_sI (aX12_in f) 3 9),
  (9, ah_zeq 28 12),
  (12, ah_ild 2 13),
  (13, ah_zlt 28 16),
  (16, ah_ild 3 17),
  (17, ah_i2l 18),
  (18, ah_push (.long (0)) 19),
  (19, ah_push (.long (2)) 22),
  (22, ah_sI (aX12_in f) 3 25),
  (25, ah_zeq 28 31),
  (28, ah_push (.int (-102)) 30),
  (30, ah_iret),
  (31, ah_ald 0 32),
  (32, ah_vI [(12, aX12_lacks f)] 1 35),
  (35, ah_zeq 41 38),
  (38, ah_push (.int (-103)) 40),
  (40, ah_iret),
  (41, ah_ald 0 42),
  (42, ah_gfr [12] 11 45),
  (45, ah_ald 0 46),
  (46, ah_gfr [12] 12 49),
  (49, ah_sV (aX12_copy f) 2 52),
  (52, ah_ald 0 53),
  (53, ah_ild 2 54),
  (54, ah_pfi [12] 18 57),
  (57, ah_push (.int (0)) 58),
  (58, ah_ist 4 60),
  (60, ah_push (.int (0)) 61),
  (61, ah_ist 5 63),
  (63, ah_push (.int (0)) 64),
  (64, ah_lim 66 [0, 1, 3, 4, 5, 6] (ah_ist 6 66)),
  (68, ah_ild 1 69),
  (69, ah_clt 72 172),
  (72, ah_ald 0 73),
  (73, ah_ald 0 74),
  (74, ah_gfi [12] 2 77),
  (77, ah_vI [(12, aX12_draw f)] 2 80),
  (80, ah_ist 7 82),
  (82, ah_ald 0 83),
  (83, ah_ald 0 84),
  (84, ah_gfi [12] 2 87),
  (87, ah_vI [(12, aX12_draw f)] 2 90),
  (90, ah_ist 8 92),
  (92, ah_ild 7 94),
  (94, ah_ild 8 96),
  (96, ah_ceq 166 99),
  (99, ah_ald 0 100),
  (100, ah_gfr [12] 12 103),
  (103, ah_ild 7 105),
  (105, ah_iald 0 106),
  (106, ah_push (.int (-1)) 107),
  (107, ah_ceq 110 166),
  (110, ah_ald 0 111),
  (111, ah_gfr [12] 12 114),
  (114, ah_ild 8 116),
  (116, ah_iald 0 117),
  (117, ah_push (.int (-1)) 118),
  (118, ah_ceq 121 166),
  (121, ah_ald 0 122),
  (122, ah_ild 7 124),
  (124, ah_ild 8 126),
  (126, ah_vI [(12, aX12_mayBe f)] 3 129),
  (129, ah_zeq 166 132),
  (132, ah_ald 0 133),
  (133, ah_gfr [12] 12 136),
  (136, ah_ild 7 138),
  (138, ah_ild 8 140),
  (140, ah_iast 141),
  (141, ah_ald 0 142),
  (142, ah_gfr [12] 12 145),
  (145, ah_ild 8 147),
  (147, ah_ild 7 149),
  (149, ah_iast 150),
  (150, ah_inc 4 (1) 153),
  (153, ah_ild 5 155),
  (155, ah_ald 0 156),
  (156, ah_ild 7 158),
  (158, ah_ild 8 160),
  (160, ah_vI [(12, aX12_likenessOf f)] 3 163),
  (163, ah_bin (fun x y => x + y) 164),
  (164, ah_ist 5 166),
  (166, ah_inc 6 (1) 169),
  (169, ah_lim 66 [0, 1, 3, 4, 5, 6] (ah_goto 66)),
  (172, ah_ild 3 173),
  (173, ah_zeq 176 181),
  (176, ah_ild 4 178),
  (178, ah_goto 195),
  (181, ah_ild 3 182),
  (182, ah_push (.int (1)) 183),
  (183, ah_ceq 186 191),
  (186, ah_ild 5 188),
  (188, ah_goto 195),
  (191, ah_ald 0 192),
  (192, ah_gfi [12] 18 195),
  (195, ah_iret)]
def aX12_winters (f : Nat) : ah_F := ah_fun (kX12_winters f) 9 f
set_option maxRecDepth 100000 in
set_option maxHeartbeats 4000000 in
theorem mX12_winters {l : Launch} {s0 : State} {D : va_G} {tc : Nat → ClassId} {ad : Nat → Nat} {A : Nat → Prop} (hW : ah_W0 s0 ad A) (f : Nat) : ah_Met l s0 D tc ad A yX12_winters cX12_winters 9 (some .int) 4 88 (aX12_winters f) := by
  refine ah_met hW.1 (by decide) (fun p e s m args below meth c res C => ?_)
  refine ah_cons (as_iload C dX12_winters_66) ?_
  refine ah_cons (as_iload_n C dX12_winters_0 rfl) ?_
  refine ah_cons (as_i2l C dX12_winters_1) ?_
  refine ah_cons (as_lconst C dX12_winters_2 (by decide)) ?_
  refine ah_cons (as_ldc2 C dX12_winters_3 wt_617) ?_
  refine ah_cons (as_sI C (mX12_in hW f) dX12_winters_6 wt_444 wt_445 wt_446 wt_447 ⟨by decide, by decide, by decide⟩ ⟨by decide, by decide⟩) ?_
  refine ah_cons (as_if_eq C dX12_winters_9 (by decide)) ?_
  refine ah_cons (as_iload_n C dX12_winters_12 rfl) ?_
  refine ah_cons (as_if_lt C dX12_winters_13 (by decide)) ?_
  refine ah_cons (as_iload_n C dX12_winters_16 rfl) ?_
  refine ah_cons (as_i2l C dX12_winters_17) ?_
  refine ah_cons (as_lconst C dX12_winters_18 (by decide)) ?_
  refine ah_cons (as_ldc2 C dX12_winters_19 wt_618) ?_
  refine ah_cons (as_sI C (mX12_in hW f) dX12_winters_22 wt_444 wt_445 wt_446 wt_447 ⟨by decide, by decide, by decide⟩ ⟨by decide, by decide⟩) ?_
  refine ah_cons (as_if_ne C dX12_winters_25 (by decide)) ?_
  refine ah_cons (as_bipush C dX12_winters_28 (by decide)) ?_
  refine ah_cons (as_iret C rfl dX12_winters_30) ?_
  refine ah_cons (as_aload_n C dX12_winters_31 rfl) ?_
  refine ah_cons (as_vI (ah_t1 (ah_okV (n := 0) C (mX12_lacks hW f) dX12_winters_32 (ci := 12) rfl wt_547 wt_549 wt_548 wt_446 wt_550 ⟨by decide, by decide, by decide, by decide⟩ ⟨by decide, by decide⟩) ah_t0)) ?_
  refine ah_cons (as_if_eq C dX12_winters_35 (by decide)) ?_
  refine ah_cons (as_bipush C dX12_winters_38 (by decide)) ?_
  refine ah_cons (as_iret C rfl dX12_winters_40) ?_
  refine ah_cons (as_aload_n C dX12_winters_41 rfl) ?_
  refine ah_cons (as_gfr C dX12_winters_42 fgX12_22) ?_
  refine ah_cons (as_aload_n C dX12_winters_45 rfl) ?_
  refine ah_cons (as_gfr C dX12_winters_46 fgX12_25) ?_
  refine ah_cons (as_sV C (mX12_copy hW f) dX12_winters_49 wt_552 wt_553 wt_446 wt_554 ⟨by decide, by decide, by decide⟩ ⟨by decide, by decide⟩) ?_
  refine ah_cons (as_aload_n C dX12_winters_52 rfl) ?_
  refine ah_cons (as_iload_n C dX12_winters_53 rfl) ?_
  refine ah_cons (as_pfi C dX12_winters_54 fpX12_227) ?_
  refine ah_cons (as_iconst C dX12_winters_57 (by decide)) ?_
  refine ah_cons (as_istore C dX12_winters_58 (by decide)) ?_
  refine ah_cons (as_iconst C dX12_winters_60 (by decide)) ?_
  refine ah_cons (as_istore C dX12_winters_61 (by decide)) ?_
  refine ah_cons (as_iconst C dX12_winters_63 (by decide)) ?_
  refine ah_cons (as_lim (as_istore C dX12_winters_64 (by decide))) ?_
  refine ah_cons (as_iload_n C dX12_winters_68 rfl) ?_
  refine ah_cons (as_icmp_ge C dX12_winters_69 (by decide)) ?_
  refine ah_cons (as_aload_n C dX12_winters_72 rfl) ?_
  refine ah_cons (as_aload_n C dX12_winters_73 rfl) ?_
  refine ah_cons (as_gfi C dX12_winters_74 fgX12_85) ?_
  refine ah_cons (as_vI (ah_t1 (ah_okV (n := 1) C (mX12_draw hW f) dX12_winters_77 (ci := 12) rfl wt_619 wt_621 wt_620 wt_446 wt_622 ⟨by decide, by decide, by decide, by decide⟩ ⟨by decide, by decide⟩) ah_t0)) ?_
  refine ah_cons (as_istore C dX12_winters_80 (by decide)) ?_
  refine ah_cons (as_aload_n C dX12_winters_82 rfl) ?_
  refine ah_cons (as_aload_n C dX12_winters_83 rfl) ?_
  refine ah_cons (as_gfi C dX12_winters_84 fgX12_85) ?_
  refine ah_cons (as_vI (ah_t1 (ah_okV (n := 1) C (mX12_draw hW f) dX12_winters_87 (ci := 12) rfl wt_619 wt_621 wt_620 wt_446 wt_622 ⟨by decide, by decide, by decide, by decide⟩ ⟨by decide, by decide⟩) ah_t0)) ?_
  refine ah_cons (as_istore C dX12_winters_90 (by decide)) ?_
  refine ah_cons (as_iload C dX12_winters_92) ?_
  refine ah_cons (as_iload C dX12_winters_94) ?_
  refine ah_cons (as_icmp_eq C dX12_winters_96 (by decide)) ?_
  refine ah_cons (as_aload_n C dX12_winters_99 rfl) ?_
  refine ah_cons (as_gfr C dX12_winters_100 fgX12_25) ?_
  refine ah_cons (as_iload C dX12_winters_103) ?_
  refine ah_cons (as_iald C dX12_winters_105) ?_
  refine ah_cons (as_iconst C dX12_winters_106 (by decide)) ?_
  refine ah_cons (as_icmp_ne C dX12_winters_107 (by decide)) ?_
  refine ah_cons (as_aload_n C dX12_winters_110 rfl) ?_
  refine ah_cons (as_gfr C dX12_winters_111 fgX12_25) ?_
  refine ah_cons (as_iload C dX12_winters_114) ?_
  refine ah_cons (as_iald C dX12_winters_116) ?_
  refine ah_cons (as_iconst C dX12_winters_117 (by decide)) ?_
  refine ah_cons (as_icmp_ne C dX12_winters_118 (by decide)) ?_
  refine ah_cons (as_aload_n C dX12_winters_121 rfl) ?_
  refine ah_cons (as_iload C dX12_winters_122) ?_
  refine ah_cons (as_iload C dX12_winters_124) ?_
  refine ah_cons (as_vI (ah_t1 (ah_okV (n := 2) C (mX12_mayBe hW f) dX12_winters_126 (ci := 12) rfl wt_490 wt_492 wt_491 wt_446 wt_493 ⟨by decide, by decide, by decide, by decide⟩ ⟨by decide, by decide⟩) ah_t0)) ?_
  refine ah_cons (as_if_eq C dX12_winters_129 (by decide)) ?_
  refine ah_cons (as_aload_n C dX12_winters_132 rfl) ?_
  refine ah_cons (as_gfr C dX12_winters_133 fgX12_25) ?_
  refine ah_cons (as_iload C dX12_winters_136) ?_
  refine ah_cons (as_iload C dX12_winters_138) ?_
  refine ah_cons (as_iast C dX12_winters_140) ?_
  refine ah_cons (as_aload_n C dX12_winters_141 rfl) ?_
  refine ah_cons (as_gfr C dX12_winters_142 fgX12_25) ?_
  refine ah_cons (as_iload C dX12_winters_145) ?_
  refine ah_cons (as_iload C dX12_winters_147) ?_
  refine ah_cons (as_iast C dX12_winters_149) ?_
  refine ah_cons (as_iinc C dX12_winters_150 (by decide) (by decide)) ?_
  refine ah_cons (as_iload C dX12_winters_153) ?_
  refine ah_cons (as_aload_n C dX12_winters_155 rfl) ?_
  refine ah_cons (as_iload C dX12_winters_156) ?_
  refine ah_cons (as_iload C dX12_winters_158) ?_
  refine ah_cons (as_vI (ah_t1 (ah_okV (n := 2) C (mX12_likenessOf hW f) dX12_winters_160 (ci := 12) rfl wt_498 wt_500 wt_499 wt_446 wt_501 ⟨by decide, by decide, by decide, by decide⟩ ⟨by decide, by decide⟩) ah_t0)) ?_
  refine ah_cons (as_iadd C dX12_winters_163) ?_
  refine ah_cons (as_istore C dX12_winters_164 (by decide)) ?_
  refine ah_cons (as_iinc C dX12_winters_166 (by decide) (by decide)) ?_
  refine ah_cons (as_lim (as_goto C dX12_winters_169 (by decide))) ?_
  refine ah_cons (as_iload_n C dX12_winters_172 rfl) ?_
  refine ah_cons (as_if_ne C dX12_winters_173 (by decide)) ?_
  refine ah_cons (as_iload C dX12_winters_176) ?_
  refine ah_cons (as_goto C dX12_winters_178 (by decide)) ?_
  refine ah_cons (as_iload_n C dX12_winters_181 rfl) ?_
  refine ah_cons (as_iconst C dX12_winters_182 (by decide)) ?_
  refine ah_cons (as_icmp_ne C dX12_winters_183 (by decide)) ?_
  refine ah_cons (as_iload C dX12_winters_186) ?_
  refine ah_cons (as_goto C dX12_winters_188 (by decide)) ?_
  refine ah_cons (as_aload_n C dX12_winters_191 rfl) ?_
  refine ah_cons (as_gfi C dX12_winters_192 fgX12_227) ?_
  refine ah_cons (as_iret C rfl dX12_winters_195) ?_
  exact ah_nil
def kX12_image (f : Nat) : List (Nat × ah_S) := [
  (0, ah_ald 0 1),
  (1, ah_vI [(12, aX12_lacks f)] 1 4),
  (4, ah_zeq 10 7),
  (7, ah_push (.int (-103)) 9),
  (9, ah_iret),
  (10, ah_ald 0 11),
  (11, ah_gfr [12] 9 14),
  (14, ah_ald 0 15),
  (15, ah_gfr [12] 25 18),
  (18, ah_sV (aX12_copy f) 2 21),
  (21, ah_ald 0 22),
  (22, ah_gfr [12] 10 25),
  (25, ah_ald 0 26),
  (26, ah_gfr [12] 26 29),
  (29, ah_sV (aX12_copy f) 2 32),
  (32, ah_ald 0 33),
  (33, ah_gfr [12] 11 36),
  (36, ah_ald 0 37),
  (37, ah_gfr [12] 27 40),
  (40, ah_sV (aX12_copy f) 2 43),
  (43, ah_ald 0 44),
  (44, ah_gfr [12] 16 47),
  (47, ah_ald 0 48),
  (48, ah_gfr [12] 28 51),
  (51, ah_sV (aX12_copy f) 2 54),
  (54, ah_ald 0 55),
  (55, ah_ald 0 56),
  (56, ah_gfi [12] 3 59),
  (59, ah_pfi [12] 20 62),
  (62, ah_ald 0 63),
  (63, ah_ald 0 64),
  (64, ah_gfi [12] 4 67),
  (67, ah_pfi [12] 21 70),
  (70, ah_ald 0 71),
  (71, ah_ald 0 72),
  (72, ah_gfi [12] 5 75),
  (75, ah_pfi [12] 22 78),
  (78, ah_ald 0 79),
  (79, ah_ald 0 80),
  (80, ah_gfi [12] 6 83),
  (83, ah_pfi [12] 23 86),
  (86, ah_ald 0 87),
  (87, ah_ald 0 88),
  (88, ah_gfi [12] 15 91),
  (91, ah_pfi [12] 24 94),
  (94, ah_ald 0 95),
  (95, ah_ald 0 96),
  (96, ah_gfi [12] 7 99),
  (99, ah_pfi [12] 19 102),
  (102, ah_ald 0 103),
  (103, ah_gfi [12] 3 106),
  (106, ah_iret)]
def aX12_image (f : Nat) : ah_F := ah_fun (kX12_image f) 1 f
set_option maxRecDepth 100000 in
set_option maxHeartbeats 4000000 in
theorem mX12_image {l : Launch} {s0 : State} {D : va_G} {tc : Nat → ClassId} {ad : Nat → Nat} {A : Nat → Prop} (hW : ah_W0 s0 ad A) (f : Nat) : ah_Met l s0 D tc ad A yX12_image cX12_image 1 (some .int) 1 22 (aX12_image f) := by
  refine ah_met hW.1 (by decide) (fun p e s m args below meth c res C => ?_)
  refine ah_cons (as_aload_n C dX12_image_0 rfl) ?_
  refine ah_cons (as_vI (ah_t1 (ah_okV (n := 0) C (mX12_lacks hW f) dX12_image_1 (ci := 12) rfl wt_547 wt_549 wt_548 wt_446 wt_550 ⟨by decide, by decide, by decide, by decide⟩ ⟨by decide, by decide⟩) ah_t0)) ?_
  refine ah_cons (as_if_eq C dX12_image_4 (by decide)) ?_
  refine ah_cons (as_bipush C dX12_image_7 (by decide)) ?_
  refine ah_cons (as_iret C rfl dX12_image_9) ?_
  refine ah_cons (as_aload_n C dX12_image_10 rfl) ?_
  refine ah_cons (as_gfr C dX12_image_11 fgX12_16) ?_
  refine ah_cons (as_aload_n C dX12_image_14 rfl) ?_
  refine ah_cons (as_gfr C dX12_image_15 fgX12_40) ?_
  refine ah_cons (as_sV C (mX12_copy hW f) dX12_image_18 wt_552 wt_553 wt_446 wt_554 ⟨by decide, by decide, by decide⟩ ⟨by decide, by decide⟩) ?_
  refine ah_cons (as_aload_n C dX12_image_21 rfl) ?_
  refine ah_cons (as_gfr C dX12_image_22 fgX12_19) ?_
  refine ah_cons (as_aload_n C dX12_image_25 rfl) ?_
  refine ah_cons (as_gfr C dX12_image_26 fgX12_43) ?_
  refine ah_cons (as_sV C (mX12_copy hW f) dX12_image_29 wt_552 wt_553 wt_446 wt_554 ⟨by decide, by decide, by decide⟩ ⟨by decide, by decide⟩) ?_
  refine ah_cons (as_aload_n C dX12_image_32 rfl) ?_
  refine ah_cons (as_gfr C dX12_image_33 fgX12_22) ?_
  refine ah_cons (as_aload_n C dX12_image_36 rfl) ?_
  refine ah_cons (as_gfr C dX12_image_37 fgX12_46) ?_
  refine ah_cons (as_sV C (mX12_copy hW f) dX12_image_40 wt_552 wt_553 wt_446 wt_554 ⟨by decide, by decide, by decide⟩ ⟨by decide, by decide⟩) ?_
  refine ah_cons (as_aload_n C dX12_image_43 rfl) ?_
  refine ah_cons (as_gfr C dX12_image_44 fgX12_34) ?_
  refine ah_cons (as_aload_n C dX12_image_47 rfl) ?_
  refine ah_cons (as_gfr C dX12_image_48 fgX12_49) ?_
  refine ah_cons (as_sV C (mX12_copy hW f) dX12_image_51 wt_552 wt_553 wt_446 wt_554 ⟨by decide, by decide, by decide⟩ ⟨by decide, by decide⟩) ?_
  refine ah_cons (as_aload_n C dX12_image_54 rfl) ?_
  refine ah_cons (as_aload_n C dX12_image_55 rfl) ?_
  refine ah_cons (as_gfi C dX12_image_56 fgX12_88) ?_
  refine ah_cons (as_pfi C dX12_image_59 fpX12_242) ?_
  refine ah_cons (as_aload_n C dX12_image_62 rfl) ?_
  refine ah_cons (as_aload_n C dX12_image_63 rfl) ?_
  refine ah_cons (as_gfi C dX12_image_64 fgX12_91) ?_
  refine ah_cons (as_pfi C dX12_image_67 fpX12_245) ?_
  refine ah_cons (as_aload_n C dX12_image_70 rfl) ?_
  refine ah_cons (as_aload_n C dX12_image_71 rfl) ?_
  refine ah_cons (as_gfi C dX12_image_72 fgX12_94) ?_
  refine ah_cons (as_pfi C dX12_image_75 fpX12_248) ?_
  refine ah_cons (as_aload_n C dX12_image_78 rfl) ?_
  refine ah_cons (as_aload_n C dX12_image_79 rfl) ?_
  refine ah_cons (as_gfi C dX12_image_80 fgX12_97) ?_
  refine ah_cons (as_pfi C dX12_image_83 fpX12_251) ?_
  refine ah_cons (as_aload_n C dX12_image_86 rfl) ?_
  refine ah_cons (as_aload_n C dX12_image_87 rfl) ?_
  refine ah_cons (as_gfi C dX12_image_88 fgX12_100) ?_
  refine ah_cons (as_pfi C dX12_image_91 fpX12_254) ?_
  refine ah_cons (as_aload_n C dX12_image_94 rfl) ?_
  refine ah_cons (as_aload_n C dX12_image_95 rfl) ?_
  refine ah_cons (as_gfi C dX12_image_96 fgX12_103) ?_
  refine ah_cons (as_pfi C dX12_image_99 fpX12_52) ?_
  refine ah_cons (as_aload_n C dX12_image_102 rfl) ?_
  refine ah_cons (as_gfi C dX12_image_103 fgX12_88) ?_
  refine ah_cons (as_iret C rfl dX12_image_106) ?_
  exact ah_nil
def kX12_restore (f : Nat) : List (Nat × ah_S) := [
  (0, ah_ald 0 1),
  (1, ah_gfi [12] 19 4),
  (4, ah_ald 0 5),
  (5, ah_gfi [12] 7 8),
  (8, ah_ceq 14 11),
  (11, ah_push (.int (-103)) 13),
  (13, ah_iret),
  (14, ah_ald 0 15),
  (15, ah_gfr [12] 25 18),
  (18, ah_ald 0 19),
  (19, ah_gfr [12] 9 22),
  (22, ah_sV (aX12_copy f) 2 25),
  (25, ah_ald 0 26),
  (26, ah_gfr [12] 26 29),
  (29, ah_ald 0 30),
  (30, ah_gfr [12] 10 33),
  (33, ah_sV (aX12_copy f) 2 36),
  (36, ah_ald 0 37),
  (37, ah_gfr [12] 27 40),
  (40, ah_ald 0 41),
  (41, ah_gfr [12] 11 44),
  (44, ah_sV (aX12_copy f) 2 47),
  (47, ah_ald 0 48),
  (48, ah_gfr [12] 28 51),
  (51, ah_ald 0 52),
  (52, ah_gfr [12] 16 55),
  (55, ah_sV (aX12_copy f) 2 58),
  (58, ah_ald 0 59),
  (59, ah_ald 0 60),
  (60, ah_gfi [12] 20 63),
  (63, ah_pfi [12] 3 66),
  (66, ah_ald 0 67),
  (67, ah_ald 0 68),
  (68, ah_gfi [12] 21 71),
  (71, ah_pfi [12] 4 74),
  (74, ah_ald 0 75),
  (75, ah_ald 0 76),
  (76, ah_gfi [12] 22 79),
  (79, ah_pfi [12] 5 82),
  (82, ah_ald 0 83),
  (83, ah_ald 0 84),
  (84, ah_gfi [12] 23 87),
  (87, ah_pfi [12] 6 90),
  (90, ah_ald 0 91),
  (91, ah_ald 0 92),
  (92, ah_gfi [12] 24 95),
  (95, ah_pfi [12] 15 98),
  (98, ah_ald 0 99),
  (99, ah_gfi [12] 3 102),
  (102, ah_iret)]
def aX12_restore (f : Nat) : ah_F := ah_fun (kX12_restore f) 1 f
set_option maxRecDepth 100000 in
set_option maxHeartbeats 4000000 in
theorem mX12_restore {l : Launch} {s0 : State} {D : va_G} {tc : Nat → ClassId} {ad : Nat → Nat} {A : Nat → Prop} (hW : ah_W0 s0 ad A) (f : Nat) : ah_Met l s0 D tc ad A yX12_restore cX12_restore 1 (some .int) 1 22 (aX12_restore f) := by
  refine ah_met hW.1 (by decide) (fun p e s m args below meth c res C => ?_)
  refine ah_cons (as_aload_n C dX12_restore_0 rfl) ?_
  refine ah_cons (as_gfi C dX12_restore_1 fgX12_52) ?_
  refine ah_cons (as_aload_n C dX12_restore_4 rfl) ?_
  refine ah_cons (as_gfi C dX12_restore_5 fgX12_103) ?_
  refine ah_cons (as_icmp_eq C dX12_restore_8 (by decide)) ?_
  refine ah_cons (as_bipush C dX12_restore_11 (by decide)) ?_
  refine ah_cons (as_iret C rfl dX12_restore_13) ?_
  refine ah_cons (as_aload_n C dX12_restore_14 rfl) ?_
  refine ah_cons (as_gfr C dX12_restore_15 fgX12_40) ?_
  refine ah_cons (as_aload_n C dX12_restore_18 rfl) ?_
  refine ah_cons (as_gfr C dX12_restore_19 fgX12_16) ?_
  refine ah_cons (as_sV C (mX12_copy hW f) dX12_restore_22 wt_552 wt_553 wt_446 wt_554 ⟨by decide, by decide, by decide⟩ ⟨by decide, by decide⟩) ?_
  refine ah_cons (as_aload_n C dX12_restore_25 rfl) ?_
  refine ah_cons (as_gfr C dX12_restore_26 fgX12_43) ?_
  refine ah_cons (as_aload_n C dX12_restore_29 rfl) ?_
  refine ah_cons (as_gfr C dX12_restore_30 fgX12_19) ?_
  refine ah_cons (as_sV C (mX12_copy hW f) dX12_restore_33 wt_552 wt_553 wt_446 wt_554 ⟨by decide, by decide, by decide⟩ ⟨by decide, by decide⟩) ?_
  refine ah_cons (as_aload_n C dX12_restore_36 rfl) ?_
  refine ah_cons (as_gfr C dX12_restore_37 fgX12_46) ?_
  refine ah_cons (as_aload_n C dX12_restore_40 rfl) ?_
  refine ah_cons (as_gfr C dX12_restore_41 fgX12_22) ?_
  refine ah_cons (as_sV C (mX12_copy hW f) dX12_restore_44 wt_552 wt_553 wt_446 wt_554 ⟨by decide, by decide, by decide⟩ ⟨by decide, by decide⟩) ?_
  refine ah_cons (as_aload_n C dX12_restore_47 rfl) ?_
  refine ah_cons (as_gfr C dX12_restore_48 fgX12_49) ?_
  refine ah_cons (as_aload_n C dX12_restore_51 rfl) ?_
  refine ah_cons (as_gfr C dX12_restore_52 fgX12_34) ?_
  refine ah_cons (as_sV C (mX12_copy hW f) dX12_restore_55 wt_552 wt_553 wt_446 wt_554 ⟨by decide, by decide, by decide⟩ ⟨by decide, by decide⟩) ?_
  refine ah_cons (as_aload_n C dX12_restore_58 rfl) ?_
  refine ah_cons (as_aload_n C dX12_restore_59 rfl) ?_
  refine ah_cons (as_gfi C dX12_restore_60 fgX12_242) ?_
  refine ah_cons (as_pfi C dX12_restore_63 fpX12_88) ?_
  refine ah_cons (as_aload_n C dX12_restore_66 rfl) ?_
  refine ah_cons (as_aload_n C dX12_restore_67 rfl) ?_
  refine ah_cons (as_gfi C dX12_restore_68 fgX12_245) ?_
  refine ah_cons (as_pfi C dX12_restore_71 fpX12_91) ?_
  refine ah_cons (as_aload_n C dX12_restore_74 rfl) ?_
  refine ah_cons (as_aload_n C dX12_restore_75 rfl) ?_
  refine ah_cons (as_gfi C dX12_restore_76 fgX12_248) ?_
  refine ah_cons (as_pfi C dX12_restore_79 fpX12_94) ?_
  refine ah_cons (as_aload_n C dX12_restore_82 rfl) ?_
  refine ah_cons (as_aload_n C dX12_restore_83 rfl) ?_
  refine ah_cons (as_gfi C dX12_restore_84 fgX12_251) ?_
  refine ah_cons (as_pfi C dX12_restore_87 fpX12_97) ?_
  refine ah_cons (as_aload_n C dX12_restore_90 rfl) ?_
  refine ah_cons (as_aload_n C dX12_restore_91 rfl) ?_
  refine ah_cons (as_gfi C dX12_restore_92 fgX12_254) ?_
  refine ah_cons (as_pfi C dX12_restore_95 fpX12_100) ?_
  refine ah_cons (as_aload_n C dX12_restore_98 rfl) ?_
  refine ah_cons (as_gfi C dX12_restore_99 fgX12_88) ?_
  refine ah_cons (as_iret C rfl dX12_restore_102) ?_
  exact ah_nil
def kX12_likenessNow (f : Nat) : List (Nat × ah_S) := [
  (4, ah_ild 2 5),
  (0, ah_push (.int (0)) 1),
  (1, ah_ist 1 2),
  (2, ah_push (.int (0)) 3),
  (3, ah_lim 4 [0, 1, 2] (ah_ist 2 4)),
  (5, ah_ald 0 6),
  (6, ah_gfi [12] 2 9),
  (9, ah_clt 12 46),
  (12, ah_ild 1 13),
  (13, ah_ald 0 14),
  (14, ah_gfr [12] 11 17),
  (17, ah_ild 2 18),
  (18, ah_iald 0 19),
  (19, ah_ild 2 20),
  (20, ah_cgt 23 37),
  (23, ah_ald 0 24),
  (24, ah_ild 2 25),
  (25, ah_ald 0 26),
  (26, ah_gfr [12] 11 29),
  (29, ah_ild 2 30),
  (30, ah_iald 0 31),
  (31, ah_vI [(12, aX12_likenessOf f)] 3 34),
  (34, ah_goto 38),
  (37, ah_push (.int (0)) 38),
  (38, ah_bin (fun x y => x + y) 39),
  (39, ah_ist 1 40),
  (40, ah_inc 2 (1) 43),
  (43, ah_lim 4 [0, 1, 2] (ah_goto 4)),
  (46, ah_ild 1 47),
  (47, ah_iret)]
def aX12_likenessNow (f : Nat) : ah_F := ah_fun (kX12_likenessNow f) 3 f
set_option maxRecDepth 100000 in
set_option maxHeartbeats 4000000 in
theorem mX12_likenessNow {l : Launch} {s0 : State} {D : va_G} {tc : Nat → ClassId} {ad : Nat → Nat} {A : Nat → Prop} (hW : ah_W0 s0 ad A) (f : Nat) : ah_Met l s0 D tc ad A yX12_likenessNow cX12_likenessNow 3 (some .int) 4 88 (aX12_likenessNow f) := by
  refine ah_met hW.1 (by decide) (fun p e s m args below meth c res C => ?_)
  refine ah_cons (as_iload_n C dX12_likenessNow_4 rfl) ?_
  refine ah_cons (as_iconst C dX12_likenessNow_0 (by decide)) ?_
  refine ah_cons (as_istore_n C dX12_likenessNow_1 rfl (by decide)) ?_
  refine ah_cons (as_iconst C dX12_likenessNow_2 (by decide)) ?_
  refine ah_cons (as_lim (as_istore_n C dX12_likenessNow_3 rfl (by decide))) ?_
  refine ah_cons (as_aload_n C dX12_likenessNow_5 rfl) ?_
  refine ah_cons (as_gfi C dX12_likenessNow_6 fgX12_85) ?_
  refine ah_cons (as_icmp_ge C dX12_likenessNow_9 (by decide)) ?_
  refine ah_cons (as_iload_n C dX12_likenessNow_12 rfl) ?_
  refine ah_cons (as_aload_n C dX12_likenessNow_13 rfl) ?_
  refine ah_cons (as_gfr C dX12_likenessNow_14 fgX12_22) ?_
  refine ah_cons (as_iload_n C dX12_likenessNow_17 rfl) ?_
  refine ah_cons (as_iald C dX12_likenessNow_18) ?_
  refine ah_cons (as_iload_n C dX12_likenessNow_19 rfl) ?_
  refine ah_cons (as_icmp_le C dX12_likenessNow_20 (by decide)) ?_
  refine ah_cons (as_aload_n C dX12_likenessNow_23 rfl) ?_
  refine ah_cons (as_iload_n C dX12_likenessNow_24 rfl) ?_
  refine ah_cons (as_aload_n C dX12_likenessNow_25 rfl) ?_
  refine ah_cons (as_gfr C dX12_likenessNow_26 fgX12_22) ?_
  refine ah_cons (as_iload_n C dX12_likenessNow_29 rfl) ?_
  refine ah_cons (as_iald C dX12_likenessNow_30) ?_
  refine ah_cons (as_vI (ah_t1 (ah_okV (n := 2) C (mX12_likenessOf hW f) dX12_likenessNow_31 (ci := 12) rfl wt_498 wt_500 wt_499 wt_446 wt_501 ⟨by decide, by decide, by decide, by decide⟩ ⟨by decide, by decide⟩) ah_t0)) ?_
  refine ah_cons (as_goto C dX12_likenessNow_34 (by decide)) ?_
  refine ah_cons (as_iconst C dX12_likenessNow_37 (by decide)) ?_
  refine ah_cons (as_iadd C dX12_likenessNow_38) ?_
  refine ah_cons (as_istore_n C dX12_likenessNow_39 rfl (by decide)) ?_
  refine ah_cons (as_iinc C dX12_likenessNow_40 (by decide) (by decide)) ?_
  refine ah_cons (as_lim (as_goto C dX12_likenessNow_43 (by decide))) ?_
  refine ah_cons (as_iload_n C dX12_likenessNow_46 rfl) ?_
  refine ah_cons (as_iret C rfl dX12_likenessNow_47) ?_
  exact ah_nil
def kX12_mayTwos (f : Nat) : List (Nat × ah_S) := [
  (4, ah_ild 2 5),
  (0, ah_push (.int (0)) 1),
  (1, ah_ist 1 2),
  (2, ah_push (.int (0)) 3),
  (3, ah_lim 4 [0, 1, 2] (ah_ist 2 4)),
  (5, ah_ald 0 6),
  (6, ah_gfi [12] 2 9),
  (9, ah_clt 12 29),
  (12, ah_ild 1 13),
  (13, ah_ald 0 14),
  (14, ah_ild 2 15),
  (15, ah_vI [(12, aX12_mayBits f)] 2 18),
  (18, ah_sI (aX12_ones f) 1 21),
  (21, ah_bin (fun x y => x + y) 22),
  (22, ah_ist 1 23),
  (23, ah_inc 2 (1) 26),
  (26, ah_lim 4 [0, 1, 2] (ah_goto 4)),
  (29, ah_ild 1 30),
  (30, ah_push (.int (2)) 31),
  (31, ah_div 32),
  (32, ah_iret)]
def aX12_mayTwos (f : Nat) : ah_F := ah_fun (kX12_mayTwos f) 3 f
set_option maxRecDepth 100000 in
set_option maxHeartbeats 4000000 in
theorem mX12_mayTwos {l : Launch} {s0 : State} {D : va_G} {tc : Nat → ClassId} {ad : Nat → Nat} {A : Nat → Prop} (hW : ah_W0 s0 ad A) (f : Nat) : ah_Met l s0 D tc ad A yX12_mayTwos cX12_mayTwos 3 (some .int) 4 89 (aX12_mayTwos f) := by
  refine ah_met hW.1 (by decide) (fun p e s m args below meth c res C => ?_)
  refine ah_cons (as_iload_n C dX12_mayTwos_4 rfl) ?_
  refine ah_cons (as_iconst C dX12_mayTwos_0 (by decide)) ?_
  refine ah_cons (as_istore_n C dX12_mayTwos_1 rfl (by decide)) ?_
  refine ah_cons (as_iconst C dX12_mayTwos_2 (by decide)) ?_
  refine ah_cons (as_lim (as_istore_n C dX12_mayTwos_3 rfl (by decide))) ?_
  refine ah_cons (as_aload_n C dX12_mayTwos_5 rfl) ?_
  refine ah_cons (as_gfi C dX12_mayTwos_6 fgX12_85) ?_
  refine ah_cons (as_icmp_ge C dX12_mayTwos_9 (by decide)) ?_
  refine ah_cons (as_iload_n C dX12_mayTwos_12 rfl) ?_
  refine ah_cons (as_aload_n C dX12_mayTwos_13 rfl) ?_
  refine ah_cons (as_iload_n C dX12_mayTwos_14 rfl) ?_
  refine ah_cons (as_vI (ah_t1 (ah_okV (n := 1) C (mX12_mayBits hW f) dX12_mayTwos_15 (ci := 12) rfl wt_520 wt_522 wt_521 wt_446 wt_523 ⟨by decide, by decide, by decide, by decide⟩ ⟨by decide, by decide⟩) ah_t0)) ?_
  refine ah_cons (as_sI C (mX12_ones hW f) dX12_mayTwos_18 wt_633 wt_634 wt_446 wt_635 ⟨by decide, by decide, by decide⟩ ⟨by decide, by decide⟩) ?_
  refine ah_cons (as_iadd C dX12_mayTwos_21) ?_
  refine ah_cons (as_istore_n C dX12_mayTwos_22 rfl (by decide)) ?_
  refine ah_cons (as_iinc C dX12_mayTwos_23 (by decide) (by decide)) ?_
  refine ah_cons (as_lim (as_goto C dX12_mayTwos_26 (by decide))) ?_
  refine ah_cons (as_iload_n C dX12_mayTwos_29 rfl) ?_
  refine ah_cons (as_iconst C dX12_mayTwos_30 (by decide)) ?_
  refine ah_cons (as_idiv C dX12_mayTwos_31) ?_
  refine ah_cons (as_iret C rfl dX12_mayTwos_32) ?_
  exact ah_nil
def kX12_aloneOf (f : Nat) : List (Nat × ah_S) := [
  (4, ah_ild 3 5),
  (0, ah_push (.int (0)) 1),
  (1, ah_ist 2 2),
  (2, ah_push (.int (0)) 3),
  (3, ah_lim 4 [0, 1, 2, 3] (ah_ist 3 4)),
  (5, ah_ald 0 6),
  (6, ah_gfi [12] 2 9),
  (9, ah_clt 12 50),
  (12, ah_ild 2 13),
  (13, ah_ald 0 14),
  (14, ah_gfr [12] 11 17),
  (17, ah_ild 3 18),
  (18, ah_iald 0 19),
  (19, ah_push (.int (-1)) 20),
  (20, ah_ceq 23 41),
  (23, ah_ald 0 24),
  (24, ah_gfr [12] 8 27),
  (27, ah_push (.int (2)) 28),
  (28, ah_ild 3 29),
  (29, ah_bin (fun x y => x * y) 30),
  (30, ah_push (.int (1)) 31),
  (31, ah_bin (fun x y => x + y) 32),
  (32, ah_iald 0 33),
  (33, ah_ild 1 34),
  (34, ah_ceq 37 41),
  (37, ah_push (.int (1)) 38),
  (38, ah_goto 42),
  (41, ah_push (.int (0)) 42),
  (42, ah_bin (fun x y => x + y) 43),
  (43, ah_ist 2 44),
  (44, ah_inc 3 (1) 47),
  (47, ah_lim 4 [0, 1, 2, 3] (ah_goto 4)),
  (50, ah_ild 2 51),
  (51, ah_iret)]
def aX12_aloneOf (f : Nat) : ah_F := ah_fun (kX12_aloneOf f) 4 f
set_option maxRecDepth 100000 in
set_option maxHeartbeats 4000000 in
theorem mX12_aloneOf {l : Launch} {s0 : State} {D : va_G} {tc : Nat → ClassId} {ad : Nat → Nat} {A : Nat → Prop} (hW : ah_W0 s0 ad A) (f : Nat) : ah_Met l s0 D tc ad A yX12_aloneOf cX12_aloneOf 4 (some .int) 0 0 (aX12_aloneOf f) := by
  refine ah_met hW.1 (by decide) (fun p e s m args below meth c res C => ?_)
  refine ah_cons (as_iload_n C dX12_aloneOf_4 rfl) ?_
  refine ah_cons (as_iconst C dX12_aloneOf_0 (by decide)) ?_
  refine ah_cons (as_istore_n C dX12_aloneOf_1 rfl (by decide)) ?_
  refine ah_cons (as_iconst C dX12_aloneOf_2 (by decide)) ?_
  refine ah_cons (as_lim (as_istore_n C dX12_aloneOf_3 rfl (by decide))) ?_
  refine ah_cons (as_aload_n C dX12_aloneOf_5 rfl) ?_
  refine ah_cons (as_gfi C dX12_aloneOf_6 fgX12_85) ?_
  refine ah_cons (as_icmp_ge C dX12_aloneOf_9 (by decide)) ?_
  refine ah_cons (as_iload_n C dX12_aloneOf_12 rfl) ?_
  refine ah_cons (as_aload_n C dX12_aloneOf_13 rfl) ?_
  refine ah_cons (as_gfr C dX12_aloneOf_14 fgX12_22) ?_
  refine ah_cons (as_iload_n C dX12_aloneOf_17 rfl) ?_
  refine ah_cons (as_iald C dX12_aloneOf_18) ?_
  refine ah_cons (as_iconst C dX12_aloneOf_19 (by decide)) ?_
  refine ah_cons (as_icmp_ne C dX12_aloneOf_20 (by decide)) ?_
  refine ah_cons (as_aload_n C dX12_aloneOf_23 rfl) ?_
  refine ah_cons (as_gfr C dX12_aloneOf_24 fgX12_13) ?_
  refine ah_cons (as_iconst C dX12_aloneOf_27 (by decide)) ?_
  refine ah_cons (as_iload_n C dX12_aloneOf_28 rfl) ?_
  refine ah_cons (as_imul C dX12_aloneOf_29) ?_
  refine ah_cons (as_iconst C dX12_aloneOf_30 (by decide)) ?_
  refine ah_cons (as_iadd C dX12_aloneOf_31) ?_
  refine ah_cons (as_iald C dX12_aloneOf_32) ?_
  refine ah_cons (as_iload_n C dX12_aloneOf_33 rfl) ?_
  refine ah_cons (as_icmp_ne C dX12_aloneOf_34 (by decide)) ?_
  refine ah_cons (as_iconst C dX12_aloneOf_37 (by decide)) ?_
  refine ah_cons (as_goto C dX12_aloneOf_38 (by decide)) ?_
  refine ah_cons (as_iconst C dX12_aloneOf_41 (by decide)) ?_
  refine ah_cons (as_iadd C dX12_aloneOf_42) ?_
  refine ah_cons (as_istore_n C dX12_aloneOf_43 rfl (by decide)) ?_
  refine ah_cons (as_iinc C dX12_aloneOf_44 (by decide) (by decide)) ?_
  refine ah_cons (as_lim (as_goto C dX12_aloneOf_47 (by decide))) ?_
  refine ah_cons (as_iload_n C dX12_aloneOf_50 rfl) ?_
  refine ah_cons (as_iret C rfl dX12_aloneOf_51) ?_
  exact ah_nil
def kX12_countOf (f : Nat) : List (Nat × ah_S) := [
  (0, ah_ild 1 1),
  (1, ah_sw [(0, 68), (1, 73), (2, 82), (3, 87), (4, 92), (5, 92), (6, 100), (7, 105), (8, 110), (9, 115), (10, 120), (11, 125), (12, 130)] 135),
  (68, ah_ald 0 69),
  (69, ah_gfi [12] 2 72),
  (72, ah_iret),
  (73, ah_ald 0 74),
  (74, ah_ald 0 75),
  (75, ah_gfr [12] 11 78),
  (78, ah_vI [(12, aX12_pairsOf f)] 2 81),
  (81, ah_iret),
  (82, ah_ald 0 83),
  (83, ah_vI [(12, aX12_likenessNow f)] 1 86),
  (86, ah_iret),
  (87, ah_ald 0 88),
  (88, ah_vI [(12, aX12_mayTwos f)] 1 91),
  (91, ah_iret),
  (92, ah_ald 0 93),
  (93, ah_ild 1 94),
  (94, ah_push (.int (4)) 95),
  (95, ah_bin (fun x y => x - y) 96),
  (96, ah_vI [(12, aX12_aloneOf f)] 2 99),
  (99, ah_iret),
  (100, ah_ald 0 101),
  (101, ah_gfi [12] 3 104),
  (104, ah_iret),
  (105, ah_ald 0 106),
  (106, ah_gfi [12] 4 109),
  (109, ah_iret),
  (110, ah_ald 0 111),
  (111, ah_gfi [12] 5 114),
  (114, ah_iret),
  (115, ah_ald 0 116),
  (116, ah_gfi [12] 6 119),
  (119, ah_iret),
  (120, ah_ald 0 121),
  (121, ah_gfi [12] 15 124),
  (124, ah_iret),
  (125, ah_ald 0 126),
  (126, ah_gfi [12] 1 129),
  (129, ah_iret),
  (130, ah_ald 0 131),
  (131, ah_gfi [12] 7 134),
  (134, ah_iret),
  (135, ah_push (.int (-102)) 137),
  (137, ah_iret)]
def aX12_countOf (f : Nat) : ah_F := ah_fun (kX12_countOf f) 2 f
set_option maxRecDepth 100000 in
set_option maxHeartbeats 4000000 in
theorem mX12_countOf {l : Launch} {s0 : State} {D : va_G} {tc : Nat → ClassId} {ad : Nat → Nat} {A : Nat → Prop} (hW : ah_W0 s0 ad A) (f : Nat) : ah_Met l s0 D tc ad A yX12_countOf cX12_countOf 2 (some .int) 5 111 (aX12_countOf f) := by
  refine ah_met hW.1 (by decide) (fun p e s m args below meth c res C => ?_)
  refine ah_cons (as_iload_n C dX12_countOf_0 rfl) ?_
  refine ah_cons (as_tsw C dX12_countOf_1 (by decide) (by decide) (by decide)) ?_
  refine ah_cons (as_aload_n C dX12_countOf_68 rfl) ?_
  refine ah_cons (as_gfi C dX12_countOf_69 fgX12_85) ?_
  refine ah_cons (as_iret C rfl dX12_countOf_72) ?_
  refine ah_cons (as_aload_n C dX12_countOf_73 rfl) ?_
  refine ah_cons (as_aload_n C dX12_countOf_74 rfl) ?_
  refine ah_cons (as_gfr C dX12_countOf_75 fgX12_22) ?_
  refine ah_cons (as_vI (ah_t1 (ah_okV (n := 1) C (mX12_pairsOf hW f) dX12_countOf_78 (ci := 12) rfl wt_555 wt_557 wt_556 wt_446 wt_558 ⟨by decide, by decide, by decide, by decide⟩ ⟨by decide, by decide⟩) ah_t0)) ?_
  refine ah_cons (as_iret C rfl dX12_countOf_81) ?_
  refine ah_cons (as_aload_n C dX12_countOf_82 rfl) ?_
  refine ah_cons (as_vI (ah_t1 (ah_okV (n := 0) C (mX12_likenessNow hW f) dX12_countOf_83 (ci := 12) rfl wt_636 wt_638 wt_637 wt_446 wt_639 ⟨by decide, by decide, by decide, by decide⟩ ⟨by decide, by decide⟩) ah_t0)) ?_
  refine ah_cons (as_iret C rfl dX12_countOf_86) ?_
  refine ah_cons (as_aload_n C dX12_countOf_87 rfl) ?_
  refine ah_cons (as_vI (ah_t1 (ah_okV (n := 0) C (mX12_mayTwos hW f) dX12_countOf_88 (ci := 12) rfl wt_640 wt_642 wt_641 wt_446 wt_643 ⟨by decide, by decide, by decide, by decide⟩ ⟨by decide, by decide⟩) ah_t0)) ?_
  refine ah_cons (as_iret C rfl dX12_countOf_91) ?_
  refine ah_cons (as_aload_n C dX12_countOf_92 rfl) ?_
  refine ah_cons (as_iload_n C dX12_countOf_93 rfl) ?_
  refine ah_cons (as_iconst C dX12_countOf_94 (by decide)) ?_
  refine ah_cons (as_isub C dX12_countOf_95) ?_
  refine ah_cons (as_vI (ah_t1 (ah_okV (n := 1) C (mX12_aloneOf hW f) dX12_countOf_96 (ci := 12) rfl wt_644 wt_646 wt_645 wt_446 wt_647 ⟨by decide, by decide, by decide, by decide⟩ ⟨by decide, by decide⟩) ah_t0)) ?_
  refine ah_cons (as_iret C rfl dX12_countOf_99) ?_
  refine ah_cons (as_aload_n C dX12_countOf_100 rfl) ?_
  refine ah_cons (as_gfi C dX12_countOf_101 fgX12_88) ?_
  refine ah_cons (as_iret C rfl dX12_countOf_104) ?_
  refine ah_cons (as_aload_n C dX12_countOf_105 rfl) ?_
  refine ah_cons (as_gfi C dX12_countOf_106 fgX12_91) ?_
  refine ah_cons (as_iret C rfl dX12_countOf_109) ?_
  refine ah_cons (as_aload_n C dX12_countOf_110 rfl) ?_
  refine ah_cons (as_gfi C dX12_countOf_111 fgX12_94) ?_
  refine ah_cons (as_iret C rfl dX12_countOf_114) ?_
  refine ah_cons (as_aload_n C dX12_countOf_115 rfl) ?_
  refine ah_cons (as_gfi C dX12_countOf_116 fgX12_97) ?_
  refine ah_cons (as_iret C rfl dX12_countOf_119) ?_
  refine ah_cons (as_aload_n C dX12_countOf_120 rfl) ?_
  refine ah_cons (as_gfi C dX12_countOf_121 fgX12_100) ?_
  refine ah_cons (as_iret C rfl dX12_countOf_124) ?_
  refine ah_cons (as_aload_n C dX12_countOf_125 rfl) ?_
  refine ah_cons (as_gfi C dX12_countOf_126 fgX12_62) ?_
  refine ah_cons (as_iret C rfl dX12_countOf_129) ?_
  refine ah_cons (as_aload_n C dX12_countOf_130 rfl) ?_
  refine ah_cons (as_gfi C dX12_countOf_131 fgX12_103) ?_
  refine ah_cons (as_iret C rfl dX12_countOf_134) ?_
  refine ah_cons (as_bipush C dX12_countOf_135 (by decide)) ?_
  refine ah_cons (as_iret C rfl dX12_countOf_137) ?_
  exact ah_nil
def kX12_count (f : Nat) : List (Nat × ah_S) := [
  (0, ah_ald 0 1),
  (1, ah_ild 1 2),
  (2, ah_vI [(12, aX12_countOf f)] 2 5),
  (5, ah_iret)]
def aX12_count (f : Nat) : ah_F := ah_fun (kX12_count f) 2 f
set_option maxRecDepth 100000 in
set_option maxHeartbeats 4000000 in
theorem mX12_count {l : Launch} {s0 : State} {D : va_G} {tc : Nat → ClassId} {ad : Nat → Nat} {A : Nat → Prop} (hW : ah_W0 s0 ad A) (f : Nat) : ah_Met l s0 D tc ad A yX12_count cX12_count 2 (some .int) 6 132 (aX12_count f) := by
  refine ah_met hW.1 (by decide) (fun p e s m args below meth c res C => ?_)
  refine ah_cons (as_aload_n C dX12_count_0 rfl) ?_
  refine ah_cons (as_iload_n C dX12_count_1 rfl) ?_
  refine ah_cons (as_vI (ah_t1 (ah_okV (n := 1) C (mX12_countOf hW f) dX12_count_2 (ci := 12) rfl wt_648 wt_650 wt_649 wt_446 wt_651 ⟨by decide, by decide, by decide, by decide⟩ ⟨by decide, by decide⟩) ah_t0)) ?_
  refine ah_cons (as_iret C rfl dX12_count_5) ?_
  exact ah_nil
def kX12_say (f : Nat) : List (Nat × ah_S) := [
  (0, ah_ald 0 1),
  (1, ah_push (.long (31)) 4),
  (4, ah_ald 0 5),
  (5, ah_gfl [12] 29 8),
  (8, ah_lbin (fun x y => x * y) 9),
  (9, ah_lld 1 10),
  (10, ah_lbin (fun x y => x + y) 11),
  (11, ah_pfl [12] 29 14),
  (14, ah_vret)]
def aX12_say (f : Nat) : ah_F := ah_fun (kX12_say f) 3 f
set_option maxRecDepth 100000 in
set_option maxHeartbeats 4000000 in
theorem mX12_say {l : Launch} {s0 : State} {D : va_G} {tc : Nat → ClassId} {ad : Nat → Nat} {A : Nat → Prop} (hW : ah_W0 s0 ad A) (f : Nat) : ah_Met l s0 D tc ad A yX12_say cX12_say 3 none 0 0 (aX12_say f) := by
  refine ah_met hW.1 (by decide) (fun p e s m args below meth c res C => ?_)
  refine ah_cons (as_aload_n C dX12_say_0 rfl) ?_
  refine ah_cons (as_ldc2 C dX12_say_1 wt_652) ?_
  refine ah_cons (as_aload_n C dX12_say_4 rfl) ?_
  refine ah_cons (as_gfl C dX12_say_5 fgX12_274) ?_
  refine ah_cons (as_lmul C dX12_say_8) ?_
  refine ah_cons (as_lload_n C dX12_say_9 rfl) ?_
  refine ah_cons (as_ladd C dX12_say_10) ?_
  refine ah_cons (as_pfl C dX12_say_11 fpX12_274) ?_
  refine ah_cons (as_vret C rfl dX12_say_14) ?_
  exact ah_nil
def kX12_sayDrawer (f : Nat) : List (Nat × ah_S) := [
  (23, ah_ild 1 24),
  (89, ah_ild 1 90),
  (0, ah_ald 0 1),
  (1, ah_ald 0 2),
  (2, ah_push (.int (0)) 3),
  (3, ah_vI [(12, aX12_mostOf f)] 2 6),
  (6, ah_i2l 7),
  (7, ah_vV [(12, aX12_say f)] 2 10),
  (10, ah_ald 0 11),
  (11, ah_ald 0 12),
  (12, ah_push (.int (1)) 13),
  (13, ah_vI [(12, aX12_mostOf f)] 2 16),
  (16, ah_i2l 17),
  (17, ah_vV [(12, aX12_say f)] 2 20),
  (20, ah_push (.int (10)) 22),
  (22, ah_lim 23 [0, 1] (ah_ist 1 23)),
  (24, ah_push (.int (17)) 26),
  (26, ah_clt 29 45),
  (29, ah_ald 0 30),
  (30, ah_ald 0 31),
  (31, ah_ild 1 32),
  (32, ah_vI [(12, aX12_mostOf f)] 2 35),
  (35, ah_i2l 36),
  (36, ah_vV [(12, aX12_say f)] 2 39),
  (39, ah_inc 1 (1) 42),
  (42, ah_lim 23 [0, 1] (ah_goto 23)),
  (45, ah_ald 0 46),
  (46, ah_ald 0 47),
  (47, ah_push (.int (4)) 48),
  (48, ah_push (.int (0)) 49),
  (49, ah_vI [(12, aX12_bestOf f)] 3 52),
  (52, ah_i2l 53),
  (53, ah_vV [(12, aX12_say f)] 2 56),
  (56, ah_ald 0 57),
  (57, ah_ald 0 58),
  (58, ah_push (.int (4)) 59),
  (59, ah_push (.int (1)) 60),
  (60, ah_vI [(12, aX12_bestOf f)] 3 63),
  (63, ah_i2l 64),
  (64, ah_vV [(12, aX12_say f)] 2 67),
  (67, ah_ald 0 68),
  (68, ah_ald 0 69),
  (69, ah_push (.int (0)) 70),
  (70, ah_vI [(12, aX12_stableOf f)] 2 73),
  (73, ah_i2l 74),
  (74, ah_vV [(12, aX12_say f)] 2 77),
  (77, ah_ald 0 78),
  (78, ah_ald 0 79),
  (79, ah_push (.int (1)) 80),
  (80, ah_vI [(12, aX12_stableOf f)] 2 83),
  (83, ah_i2l 84),
  (84, ah_vV [(12, aX12_say f)] 2 87),
  (87, ah_push (.int (0)) 88),
  (88, ah_lim 89 [0, 1] (ah_ist 1 89)),
  (90, ah_push (.int (6)) 92),
  (92, ah_clt 95 111),
  (95, ah_ald 0 96),
  (96, ah_ald 0 97),
  (97, ah_ild 1 98),
  (98, ah_vI [(12, aX12_roundOf f)] 2 101),
  (101, ah_i2l 102),
  (102, ah_vV [(12, aX12_say f)] 2 105),
  (105, ah_inc 1 (1) 108),
  (108, ah_lim 89 [0, 1] (ah_goto 89)),
  (111, ah_ald 0 112),
  (112, ah_ald 0 113),
  (113, ah_push (.int (0)) 114),
  (114, ah_vI [(12, aX12_oddsOf f)] 2 117),
  (117, ah_i2l 118),
  (118, ah_vV [(12, aX12_say f)] 2 121),
  (121, ah_ald 0 122),
  (122, ah_ald 0 123),
  (123, ah_push (.int (1)) 124),
  (124, ah_vI [(12, aX12_oddsOf f)] 2 127),
  (127, ah_i2l 128),
  (128, ah_vV [(12, aX12_say f)] 2 131),
  (131, ah_vret)]
def aX12_sayDrawer (f : Nat) : ah_F := ah_fun (kX12_sayDrawer f) 2 f
set_option maxRecDepth 100000 in
set_option maxHeartbeats 4000000 in
theorem mX12_sayDrawer {l : Launch} {s0 : State} {D : va_G} {tc : Nat → ClassId} {ad : Nat → Nat} {A : Nat → Prop} (hW : ah_W0 s0 ad A) (f : Nat) : ah_Met l s0 D tc ad A yX12_sayDrawer cX12_sayDrawer 2 none 7 162 (aX12_sayDrawer f) := by
  refine ah_met hW.1 (by decide) (fun p e s m args below meth c res C => ?_)
  refine ah_cons (as_iload_n C dX12_sayDrawer_23 rfl) ?_
  refine ah_cons (as_iload_n C dX12_sayDrawer_89 rfl) ?_
  refine ah_cons (as_aload_n C dX12_sayDrawer_0 rfl) ?_
  refine ah_cons (as_aload_n C dX12_sayDrawer_1 rfl) ?_
  refine ah_cons (as_iconst C dX12_sayDrawer_2 (by decide)) ?_
  refine ah_cons (as_vI (ah_t1 (ah_okV (n := 1) C (mX12_mostOf hW f) dX12_sayDrawer_3 (ci := 12) rfl wt_578 wt_580 wt_579 wt_446 wt_581 ⟨by decide, by decide, by decide, by decide⟩ ⟨by decide, by decide⟩) ah_t0)) ?_
  refine ah_cons (as_i2l C dX12_sayDrawer_6) ?_
  refine ah_cons (as_vV (ah_t1 (ah_okV (n := 1) C (mX12_say hW f) dX12_sayDrawer_7 (ci := 12) rfl wt_654 wt_656 wt_655 wt_446 wt_657 ⟨by decide, by decide, by decide, by decide⟩ ⟨by decide, by decide⟩) ah_t0)) ?_
  refine ah_cons (as_aload_n C dX12_sayDrawer_10 rfl) ?_
  refine ah_cons (as_aload_n C dX12_sayDrawer_11 rfl) ?_
  refine ah_cons (as_iconst C dX12_sayDrawer_12 (by decide)) ?_
  refine ah_cons (as_vI (ah_t1 (ah_okV (n := 1) C (mX12_mostOf hW f) dX12_sayDrawer_13 (ci := 12) rfl wt_578 wt_580 wt_579 wt_446 wt_581 ⟨by decide, by decide, by decide, by decide⟩ ⟨by decide, by decide⟩) ah_t0)) ?_
  refine ah_cons (as_i2l C dX12_sayDrawer_16) ?_
  refine ah_cons (as_vV (ah_t1 (ah_okV (n := 1) C (mX12_say hW f) dX12_sayDrawer_17 (ci := 12) rfl wt_654 wt_656 wt_655 wt_446 wt_657 ⟨by decide, by decide, by decide, by decide⟩ ⟨by decide, by decide⟩) ah_t0)) ?_
  refine ah_cons (as_bipush C dX12_sayDrawer_20 (by decide)) ?_
  refine ah_cons (as_lim (as_istore_n C dX12_sayDrawer_22 rfl (by decide))) ?_
  refine ah_cons (as_bipush C dX12_sayDrawer_24 (by decide)) ?_
  refine ah_cons (as_icmp_ge C dX12_sayDrawer_26 (by decide)) ?_
  refine ah_cons (as_aload_n C dX12_sayDrawer_29 rfl) ?_
  refine ah_cons (as_aload_n C dX12_sayDrawer_30 rfl) ?_
  refine ah_cons (as_iload_n C dX12_sayDrawer_31 rfl) ?_
  refine ah_cons (as_vI (ah_t1 (ah_okV (n := 1) C (mX12_mostOf hW f) dX12_sayDrawer_32 (ci := 12) rfl wt_578 wt_580 wt_579 wt_446 wt_581 ⟨by decide, by decide, by decide, by decide⟩ ⟨by decide, by decide⟩) ah_t0)) ?_
  refine ah_cons (as_i2l C dX12_sayDrawer_35) ?_
  refine ah_cons (as_vV (ah_t1 (ah_okV (n := 1) C (mX12_say hW f) dX12_sayDrawer_36 (ci := 12) rfl wt_654 wt_656 wt_655 wt_446 wt_657 ⟨by decide, by decide, by decide, by decide⟩ ⟨by decide, by decide⟩) ah_t0)) ?_
  refine ah_cons (as_iinc C dX12_sayDrawer_39 (by decide) (by decide)) ?_
  refine ah_cons (as_lim (as_goto C dX12_sayDrawer_42 (by decide))) ?_
  refine ah_cons (as_aload_n C dX12_sayDrawer_45 rfl) ?_
  refine ah_cons (as_aload_n C dX12_sayDrawer_46 rfl) ?_
  refine ah_cons (as_iconst C dX12_sayDrawer_47 (by decide)) ?_
  refine ah_cons (as_iconst C dX12_sayDrawer_48 (by decide)) ?_
  refine ah_cons (as_vI (ah_t1 (ah_okV (n := 2) C (mX12_bestOf hW f) dX12_sayDrawer_49 (ci := 12) rfl wt_587 wt_589 wt_588 wt_446 wt_590 ⟨by decide, by decide, by decide, by decide⟩ ⟨by decide, by decide⟩) ah_t0)) ?_
  refine ah_cons (as_i2l C dX12_sayDrawer_52) ?_
  refine ah_cons (as_vV (ah_t1 (ah_okV (n := 1) C (mX12_say hW f) dX12_sayDrawer_53 (ci := 12) rfl wt_654 wt_656 wt_655 wt_446 wt_657 ⟨by decide, by decide, by decide, by decide⟩ ⟨by decide, by decide⟩) ah_t0)) ?_
  refine ah_cons (as_aload_n C dX12_sayDrawer_56 rfl) ?_
  refine ah_cons (as_aload_n C dX12_sayDrawer_57 rfl) ?_
  refine ah_cons (as_iconst C dX12_sayDrawer_58 (by decide)) ?_
  refine ah_cons (as_iconst C dX12_sayDrawer_59 (by decide)) ?_
  refine ah_cons (as_vI (ah_t1 (ah_okV (n := 2) C (mX12_bestOf hW f) dX12_sayDrawer_60 (ci := 12) rfl wt_587 wt_589 wt_588 wt_446 wt_590 ⟨by decide, by decide, by decide, by decide⟩ ⟨by decide, by decide⟩) ah_t0)) ?_
  refine ah_cons (as_i2l C dX12_sayDrawer_63) ?_
  refine ah_cons (as_vV (ah_t1 (ah_okV (n := 1) C (mX12_say hW f) dX12_sayDrawer_64 (ci := 12) rfl wt_654 wt_656 wt_655 wt_446 wt_657 ⟨by decide, by decide, by decide, by decide⟩ ⟨by decide, by decide⟩) ah_t0)) ?_
  refine ah_cons (as_aload_n C dX12_sayDrawer_67 rfl) ?_
  refine ah_cons (as_aload_n C dX12_sayDrawer_68 rfl) ?_
  refine ah_cons (as_iconst C dX12_sayDrawer_69 (by decide)) ?_
  refine ah_cons (as_vI (ah_t1 (ah_okV (n := 1) C (mX12_stableOf hW f) dX12_sayDrawer_70 (ci := 12) rfl wt_595 wt_597 wt_596 wt_446 wt_598 ⟨by decide, by decide, by decide, by decide⟩ ⟨by decide, by decide⟩) ah_t0)) ?_
  refine ah_cons (as_i2l C dX12_sayDrawer_73) ?_
  refine ah_cons (as_vV (ah_t1 (ah_okV (n := 1) C (mX12_say hW f) dX12_sayDrawer_74 (ci := 12) rfl wt_654 wt_656 wt_655 wt_446 wt_657 ⟨by decide, by decide, by decide, by decide⟩ ⟨by decide, by decide⟩) ah_t0)) ?_
  refine ah_cons (as_aload_n C dX12_sayDrawer_77 rfl) ?_
  refine ah_cons (as_aload_n C dX12_sayDrawer_78 rfl) ?_
  refine ah_cons (as_iconst C dX12_sayDrawer_79 (by decide)) ?_
  refine ah_cons (as_vI (ah_t1 (ah_okV (n := 1) C (mX12_stableOf hW f) dX12_sayDrawer_80 (ci := 12) rfl wt_595 wt_597 wt_596 wt_446 wt_598 ⟨by decide, by decide, by decide, by decide⟩ ⟨by decide, by decide⟩) ah_t0)) ?_
  refine ah_cons (as_i2l C dX12_sayDrawer_83) ?_
  refine ah_cons (as_vV (ah_t1 (ah_okV (n := 1) C (mX12_say hW f) dX12_sayDrawer_84 (ci := 12) rfl wt_654 wt_656 wt_655 wt_446 wt_657 ⟨by decide, by decide, by decide, by decide⟩ ⟨by decide, by decide⟩) ah_t0)) ?_
  refine ah_cons (as_iconst C dX12_sayDrawer_87 (by decide)) ?_
  refine ah_cons (as_lim (as_istore_n C dX12_sayDrawer_88 rfl (by decide))) ?_
  refine ah_cons (as_bipush C dX12_sayDrawer_90 (by decide)) ?_
  refine ah_cons (as_icmp_ge C dX12_sayDrawer_92 (by decide)) ?_
  refine ah_cons (as_aload_n C dX12_sayDrawer_95 rfl) ?_
  refine ah_cons (as_aload_n C dX12_sayDrawer_96 rfl) ?_
  refine ah_cons (as_iload_n C dX12_sayDrawer_97 rfl) ?_
  refine ah_cons (as_vI (ah_t1 (ah_okV (n := 1) C (mX12_roundOf hW f) dX12_sayDrawer_98 (ci := 12) rfl wt_599 wt_601 wt_600 wt_446 wt_602 ⟨by decide, by decide, by decide, by decide⟩ ⟨by decide, by decide⟩) ah_t0)) ?_
  refine ah_cons (as_i2l C dX12_sayDrawer_101) ?_
  refine ah_cons (as_vV (ah_t1 (ah_okV (n := 1) C (mX12_say hW f) dX12_sayDrawer_102 (ci := 12) rfl wt_654 wt_656 wt_655 wt_446 wt_657 ⟨by decide, by decide, by decide, by decide⟩ ⟨by decide, by decide⟩) ah_t0)) ?_
  refine ah_cons (as_iinc C dX12_sayDrawer_105 (by decide) (by decide)) ?_
  refine ah_cons (as_lim (as_goto C dX12_sayDrawer_108 (by decide))) ?_
  refine ah_cons (as_aload_n C dX12_sayDrawer_111 rfl) ?_
  refine ah_cons (as_aload_n C dX12_sayDrawer_112 rfl) ?_
  refine ah_cons (as_iconst C dX12_sayDrawer_113 (by decide)) ?_
  refine ah_cons (as_vI (ah_t1 (ah_okV (n := 1) C (mX12_oddsOf hW f) dX12_sayDrawer_114 (ci := 12) rfl wt_606 wt_608 wt_607 wt_446 wt_609 ⟨by decide, by decide, by decide, by decide⟩ ⟨by decide, by decide⟩) ah_t0)) ?_
  refine ah_cons (as_i2l C dX12_sayDrawer_117) ?_
  refine ah_cons (as_vV (ah_t1 (ah_okV (n := 1) C (mX12_say hW f) dX12_sayDrawer_118 (ci := 12) rfl wt_654 wt_656 wt_655 wt_446 wt_657 ⟨by decide, by decide, by decide, by decide⟩ ⟨by decide, by decide⟩) ah_t0)) ?_
  refine ah_cons (as_aload_n C dX12_sayDrawer_121 rfl) ?_
  refine ah_cons (as_aload_n C dX12_sayDrawer_122 rfl) ?_
  refine ah_cons (as_iconst C dX12_sayDrawer_123 (by decide)) ?_
  refine ah_cons (as_vI (ah_t1 (ah_okV (n := 1) C (mX12_oddsOf hW f) dX12_sayDrawer_124 (ci := 12) rfl wt_606 wt_608 wt_607 wt_446 wt_609 ⟨by decide, by decide, by decide, by decide⟩ ⟨by decide, by decide⟩) ah_t0)) ?_
  refine ah_cons (as_i2l C dX12_sayDrawer_127) ?_
  refine ah_cons (as_vV (ah_t1 (ah_okV (n := 1) C (mX12_say hW f) dX12_sayDrawer_128 (ci := 12) rfl wt_654 wt_656 wt_655 wt_446 wt_657 ⟨by decide, by decide, by decide, by decide⟩ ⟨by decide, by decide⟩) ah_t0)) ?_
  refine ah_cons (as_vret C rfl dX12_sayDrawer_131) ?_
  exact ah_nil
def kX12_digest (f : Nat) : List (Nat × ah_S) := [
  (9, ah_ild 1 10),
  (19, ah_ild 2 20),
  (44, ah_ild 2 45),
  (93, ah_ild 1 94),
  (120, ah_ild 1 121),
  (0, ah_ald 0 1),
  (1, ah_push (.long (1129)) 4),
  (4, ah_pfl [12] 29 7),
  (7, ah_push (.int (0)) 8),
  (8, ah_lim 9 [0, 1] (ah_ist 1 9)),
  (10, ah_ald 0 11),
  (11, ah_gfi [12] 2 14),
  (14, ah_clt 17 80),
  (17, ah_push (.int (0)) 18),
  (18, ah_lim 19 [0, 1, 2] (ah_ist 2 19)),
  (20, ah_push (.int (11)) 22),
  (22, ah_clt 25 42),
  (25, ah_ald 0 26),
  (26, ah_ald 0 27),
  (27, ah_ild 1 28),
  (28, ah_ild 2 29),
  (29, ah_vI [(12, aX12_tellSingle f)] 3 32),
  (32, ah_i2l 33),
  (33, ah_vV [(12, aX12_say f)] 2 36),
  (36, ah_inc 2 (1) 39),
  (39, ah_lim 19 [0, 1, 2] (ah_goto 19)),
  (42, ah_push (.int (0)) 43),
  (43, ah_lim 44 [0, 1, 2] (ah_ist 2 44)),
  (45, ah_ald 0 46),
  (46, ah_gfi [12] 2 49),
  (49, ah_clt 52 74),
  (52, ah_ild 2 53),
  (53, ah_ild 1 54),
  (54, ah_ceq 68 57),
  (57, ah_ald 0 58),
  (58, ah_ald 0 59),
  (59, ah_ild 1 60),
  (60, ah_ild 2 61),
  (61, ah_vI [(12, aX12_likenessOf f)] 3 64),
  (64, ah_i2l 65),
  (65, ah_vV [(12, aX12_say f)] 2 68),
  (68, ah_inc 2 (1) 71),
  (71, ah_lim 44 [0, 1, 2] (ah_goto 44)),
  (74, ah_inc 1 (1) 77),
  (77, ah_lim 9 [0, 1] (ah_goto 9)),
  (80, ah_ald 0 81),
  (81, ah_vI [(12, aX12_lacks f)] 1 84),
  (84, ah_zeq 87 91),
  (87, ah_ald 0 88),
  (88, ah_vV [(12, aX12_sayDrawer f)] 1 91),
  (91, ah_push (.int (0)) 92),
  (92, ah_lim 93 [0, 1] (ah_ist 1 93)),
  (94, ah_ald 0 95),
  (95, ah_gfi [12] 1 98),
  (98, ah_clt 101 118),
  (101, ah_ald 0 102),
  (102, ah_ald 0 103),
  (103, ah_gfr [12] 0 106),
  (106, ah_ild 1 107),
  (107, ah_iald 0 108),
  (108, ah_i2l 109),
  (109, ah_vV [(12, aX12_say f)] 2 112),
  (112, ah_inc 1 (1) 115),
  (115, ah_lim 93 [0, 1] (ah_goto 93)),
  (118, ah_push (.int (0)) 119),
  (119, ah_lim 120 [0, 1] (ah_ist 1 120)),
  (121, ah_push (.int (13)) 123),
  (123, ah_clt 126 142),
  (126, ah_ald 0 127),
  (127, ah_ald 0 128),
  (128, ah_ild 1 129),
  (129, ah_vI [(12, aX12_countOf f)] 2 132),
  (132, ah_i2l 133),
  (133, ah_vV [(12, aX12_say f)] 2 136),
  (136, ah_inc 1 (1) 139),
  (139, ah_lim 120 [0, 1] (ah_goto 120)),
  (142, ah_ald 0 143),
  (143, ah_gfl [12] 29 146),
  (146, ah_lret)]
def aX12_digest (f : Nat) : ah_F := ah_fun (kX12_digest f) 3 f
set_option maxRecDepth 100000 in
set_option maxHeartbeats 4000000 in
theorem mX12_digest {l : Launch} {s0 : State} {D : va_G} {tc : Nat → ClassId} {ad : Nat → Nat} {A : Nat → Prop} (hW : ah_W0 s0 ad A) (f : Nat) : ah_Met l s0 D tc ad A yX12_digest cX12_digest 3 (some .long) 8 188 (aX12_digest f) := by
  refine ah_met hW.1 (by decide) (fun p e s m args below meth c res C => ?_)
  refine ah_cons (as_iload_n C dX12_digest_9 rfl) ?_
  refine ah_cons (as_iload_n C dX12_digest_19 rfl) ?_
  refine ah_cons (as_iload_n C dX12_digest_44 rfl) ?_
  refine ah_cons (as_iload_n C dX12_digest_93 rfl) ?_
  refine ah_cons (as_iload_n C dX12_digest_120 rfl) ?_
  refine ah_cons (as_aload_n C dX12_digest_0 rfl) ?_
  refine ah_cons (as_ldc2 C dX12_digest_1 wt_658) ?_
  refine ah_cons (as_pfl C dX12_digest_4 fpX12_274) ?_
  refine ah_cons (as_iconst C dX12_digest_7 (by decide)) ?_
  refine ah_cons (as_lim (as_istore_n C dX12_digest_8 rfl (by decide))) ?_
  refine ah_cons (as_aload_n C dX12_digest_10 rfl) ?_
  refine ah_cons (as_gfi C dX12_digest_11 fgX12_85) ?_
  refine ah_cons (as_icmp_ge C dX12_digest_14 (by decide)) ?_
  refine ah_cons (as_iconst C dX12_digest_17 (by decide)) ?_
  refine ah_cons (as_lim (as_istore_n C dX12_digest_18 rfl (by decide))) ?_
  refine ah_cons (as_bipush C dX12_digest_20 (by decide)) ?_
  refine ah_cons (as_icmp_ge C dX12_digest_22 (by decide)) ?_
  refine ah_cons (as_aload_n C dX12_digest_25 rfl) ?_
  refine ah_cons (as_aload_n C dX12_digest_26 rfl) ?_
  refine ah_cons (as_iload_n C dX12_digest_27 rfl) ?_
  refine ah_cons (as_iload_n C dX12_digest_28 rfl) ?_
  refine ah_cons (as_vI (ah_t1 (ah_okV (n := 2) C (mX12_tellSingle hW f) dX12_digest_29 (ci := 12) rfl wt_536 wt_538 wt_537 wt_446 wt_539 ⟨by decide, by decide, by decide, by decide⟩ ⟨by decide, by decide⟩) ah_t0)) ?_
  refine ah_cons (as_i2l C dX12_digest_32) ?_
  refine ah_cons (as_vV (ah_t1 (ah_okV (n := 1) C (mX12_say hW f) dX12_digest_33 (ci := 12) rfl wt_654 wt_656 wt_655 wt_446 wt_657 ⟨by decide, by decide, by decide, by decide⟩ ⟨by decide, by decide⟩) ah_t0)) ?_
  refine ah_cons (as_iinc C dX12_digest_36 (by decide) (by decide)) ?_
  refine ah_cons (as_lim (as_goto C dX12_digest_39 (by decide))) ?_
  refine ah_cons (as_iconst C dX12_digest_42 (by decide)) ?_
  refine ah_cons (as_lim (as_istore_n C dX12_digest_43 rfl (by decide))) ?_
  refine ah_cons (as_aload_n C dX12_digest_45 rfl) ?_
  refine ah_cons (as_gfi C dX12_digest_46 fgX12_85) ?_
  refine ah_cons (as_icmp_ge C dX12_digest_49 (by decide)) ?_
  refine ah_cons (as_iload_n C dX12_digest_52 rfl) ?_
  refine ah_cons (as_iload_n C dX12_digest_53 rfl) ?_
  refine ah_cons (as_icmp_eq C dX12_digest_54 (by decide)) ?_
  refine ah_cons (as_aload_n C dX12_digest_57 rfl) ?_
  refine ah_cons (as_aload_n C dX12_digest_58 rfl) ?_
  refine ah_cons (as_iload_n C dX12_digest_59 rfl) ?_
  refine ah_cons (as_iload_n C dX12_digest_60 rfl) ?_
  refine ah_cons (as_vI (ah_t1 (ah_okV (n := 2) C (mX12_likenessOf hW f) dX12_digest_61 (ci := 12) rfl wt_498 wt_500 wt_499 wt_446 wt_501 ⟨by decide, by decide, by decide, by decide⟩ ⟨by decide, by decide⟩) ah_t0)) ?_
  refine ah_cons (as_i2l C dX12_digest_64) ?_
  refine ah_cons (as_vV (ah_t1 (ah_okV (n := 1) C (mX12_say hW f) dX12_digest_65 (ci := 12) rfl wt_654 wt_656 wt_655 wt_446 wt_657 ⟨by decide, by decide, by decide, by decide⟩ ⟨by decide, by decide⟩) ah_t0)) ?_
  refine ah_cons (as_iinc C dX12_digest_68 (by decide) (by decide)) ?_
  refine ah_cons (as_lim (as_goto C dX12_digest_71 (by decide))) ?_
  refine ah_cons (as_iinc C dX12_digest_74 (by decide) (by decide)) ?_
  refine ah_cons (as_lim (as_goto C dX12_digest_77 (by decide))) ?_
  refine ah_cons (as_aload_n C dX12_digest_80 rfl) ?_
  refine ah_cons (as_vI (ah_t1 (ah_okV (n := 0) C (mX12_lacks hW f) dX12_digest_81 (ci := 12) rfl wt_547 wt_549 wt_548 wt_446 wt_550 ⟨by decide, by decide, by decide, by decide⟩ ⟨by decide, by decide⟩) ah_t0)) ?_
  refine ah_cons (as_if_ne C dX12_digest_84 (by decide)) ?_
  refine ah_cons (as_aload_n C dX12_digest_87 rfl) ?_
  refine ah_cons (as_vV (ah_t1 (ah_okV (n := 0) C (mX12_sayDrawer hW f) dX12_digest_88 (ci := 12) rfl wt_659 wt_661 wt_660 wt_446 wt_662 ⟨by decide, by decide, by decide, by decide⟩ ⟨by decide, by decide⟩) ah_t0)) ?_
  refine ah_cons (as_iconst C dX12_digest_91 (by decide)) ?_
  refine ah_cons (as_lim (as_istore_n C dX12_digest_92 rfl (by decide))) ?_
  refine ah_cons (as_aload_n C dX12_digest_94 rfl) ?_
  refine ah_cons (as_gfi C dX12_digest_95 fgX12_62) ?_
  refine ah_cons (as_icmp_ge C dX12_digest_98 (by decide)) ?_
  refine ah_cons (as_aload_n C dX12_digest_101 rfl) ?_
  refine ah_cons (as_aload_n C dX12_digest_102 rfl) ?_
  refine ah_cons (as_gfr C dX12_digest_103 fgX12_7) ?_
  refine ah_cons (as_iload_n C dX12_digest_106 rfl) ?_
  refine ah_cons (as_iald C dX12_digest_107) ?_
  refine ah_cons (as_i2l C dX12_digest_108) ?_
  refine ah_cons (as_vV (ah_t1 (ah_okV (n := 1) C (mX12_say hW f) dX12_digest_109 (ci := 12) rfl wt_654 wt_656 wt_655 wt_446 wt_657 ⟨by decide, by decide, by decide, by decide⟩ ⟨by decide, by decide⟩) ah_t0)) ?_
  refine ah_cons (as_iinc C dX12_digest_112 (by decide) (by decide)) ?_
  refine ah_cons (as_lim (as_goto C dX12_digest_115 (by decide))) ?_
  refine ah_cons (as_iconst C dX12_digest_118 (by decide)) ?_
  refine ah_cons (as_lim (as_istore_n C dX12_digest_119 rfl (by decide))) ?_
  refine ah_cons (as_bipush C dX12_digest_121 (by decide)) ?_
  refine ah_cons (as_icmp_ge C dX12_digest_123 (by decide)) ?_
  refine ah_cons (as_aload_n C dX12_digest_126 rfl) ?_
  refine ah_cons (as_aload_n C dX12_digest_127 rfl) ?_
  refine ah_cons (as_iload_n C dX12_digest_128 rfl) ?_
  refine ah_cons (as_vI (ah_t1 (ah_okV (n := 1) C (mX12_countOf hW f) dX12_digest_129 (ci := 12) rfl wt_648 wt_650 wt_649 wt_446 wt_651 ⟨by decide, by decide, by decide, by decide⟩ ⟨by decide, by decide⟩) ah_t0)) ?_
  refine ah_cons (as_i2l C dX12_digest_132) ?_
  refine ah_cons (as_vV (ah_t1 (ah_okV (n := 1) C (mX12_say hW f) dX12_digest_133 (ci := 12) rfl wt_654 wt_656 wt_655 wt_446 wt_657 ⟨by decide, by decide, by decide, by decide⟩ ⟨by decide, by decide⟩) ah_t0)) ?_
  refine ah_cons (as_iinc C dX12_digest_136 (by decide) (by decide)) ?_
  refine ah_cons (as_lim (as_goto C dX12_digest_139 (by decide))) ?_
  refine ah_cons (as_aload_n C dX12_digest_142 rfl) ?_
  refine ah_cons (as_gfl C dX12_digest_143 fgX12_274) ?_
  refine ah_cons (as_lret C rfl dX12_digest_146) ?_
  exact ah_nil
