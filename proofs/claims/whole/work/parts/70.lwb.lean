/-! the law: its cases -/
section LWC
variable {p : Program} {l : Launch} {e : Env} {s : State} {m : MethodId} {below : List Frame} {meth : Method} {c : Code} {b L : Nat} {xs : Nat → Int32} {D : va_G} {tc : Nat → ClassId} {q1 zz : Nat} {ad2 : Nat → Nat} {k : Nat} {H : Heap} {locs : List Loc} {ls : Array Slot} {Q : State → Prop} {g : Nat}
theorem lw_c13 (hg : 6000 ≤ g) (C0 : lw_At p s m meth c b L xs) (Fx : lw_Fx s D tc zz ad2) (hL : L ≤ 256) (hk : 4 * k + 4 ≤ L) (hl : lv_has ls 4 [(0, .ref b), (1, .ref q1), (2, .ref (ad2 0)), (3, .int (nI (4 * k)))]) (hS : lw_St s D tc q1 zz ad2 k H locs) (fin : lw_Fin p l e s m below meth c b D tc q1 zz ad2 k ls Q) : W p l e room_1 s m #[Value.ref b] below meth c H locs (60 + 7 * k) (40 * (60 + 7 * k)) Q (F0 m 481 ls []) := by
  refine lv_aload_n C0.1 C0.2.1 dL_law_481 rfl (lv_at hl 1 rfl) ?_
  refine lw_arg (pc := 482) (J := 1) C0 hl hS.S (lw_in1 hk hL) (by decide) dL_law_482 dL_law_483 dL_law_484 dL_law_485 dL_law_486 ?_
  refine lw_two (mk := Value.int) (X := aX11_most g) (M := aX12_most g) (As := [.int (xs (nI (4 * k) + 1).toNatClampNeg)]) (n := 1) (pcx := 487) (pcm := 496) (fun _ _ => rfl) (fun _ => Nat.le_of_ble_eq_true rfl) C0 Fx (by omega) (lw_of (gp_most (g := g) (by omega) _)) (fun _ => rfl) rfl (fun ad hW => mX11_most hW g) dL_law_487 wl_106 wl_107 wl_108 wl_3 wl_109 ⟨by decide, by decide, by decide, by decide⟩ ⟨by decide, by decide⟩ (fun hW => mX12_most hW g) dL_law_496 wl_110 wl_111 wl_112 wl_8 wl_113 ⟨by decide, by decide, by decide, by decide⟩ ⟨by decide, by decide⟩ hS hl.1 (fun H1 locs1 r hS1 kk => ?_) (fun H1 locs1 r hS1 => ?_)
  · refine lv_aload_n C0.1 C0.2.1 dL_law_490 rfl (lv_at hl 2 rfl) ?_
    refine lw_arg (pc := 491) (J := 1) C0 hl hS1 (lw_in1 hk hL) (by decide) dL_law_491 dL_law_492 dL_law_493 dL_law_494 dL_law_495 ?_
    exact kk
  · exact lw_eq C0 (by omega) fin dL_law_499 (by decide) hS1
theorem lw_c14 (hg : 6000 ≤ g) (C0 : lw_At p s m meth c b L xs) (Fx : lw_Fx s D tc zz ad2) (hL : L ≤ 256) (hk : 4 * k + 4 ≤ L) (hl : lv_has ls 4 [(0, .ref b), (1, .ref q1), (2, .ref (ad2 0)), (3, .int (nI (4 * k)))]) (hS : lw_St s D tc q1 zz ad2 k H locs) (fin : lw_Fin p l e s m below meth c b D tc q1 zz ad2 k ls Q) : W p l e room_1 s m #[Value.ref b] below meth c H locs (60 + 7 * k) (40 * (60 + 7 * k)) Q (F0 m 504 ls []) := by
  refine lv_aload_n C0.1 C0.2.1 dL_law_504 rfl (lv_at hl 1 rfl) ?_
  refine lw_arg (pc := 505) (J := 1) C0 hl hS.S (lw_in1 hk hL) (by decide) dL_law_505 dL_law_506 dL_law_507 dL_law_508 dL_law_509 ?_
  refine lw_arg (pc := 510) (J := 2) C0 hl hS.S (lw_in2 hk hL) (by decide) dL_law_510 dL_law_511 dL_law_512 dL_law_513 dL_law_514 ?_
  refine lw_two (mk := Value.int) (X := aX11_best g) (M := aX12_best g) (As := [.int (xs (nI (4 * k) + 1).toNatClampNeg), .int (xs (nI (4 * k) + 2).toNatClampNeg)]) (n := 2) (pcx := 515) (pcm := 529) (fun _ _ => rfl) (fun _ => Nat.le_of_ble_eq_true rfl) C0 Fx (by omega) (lw_of (gp_best (g := g) (by omega) _ _)) (fun _ => rfl) rfl (fun ad hW => mX11_best hW g) dL_law_515 wl_114 wl_115 wl_116 wl_3 wl_117 ⟨by decide, by decide, by decide, by decide⟩ ⟨by decide, by decide⟩ (fun hW => mX12_best hW g) dL_law_529 wl_118 wl_119 wl_120 wl_8 wl_121 ⟨by decide, by decide, by decide, by decide⟩ ⟨by decide, by decide⟩ hS hl.1 (fun H1 locs1 r hS1 kk => ?_) (fun H1 locs1 r hS1 => ?_)
  · refine lv_aload_n C0.1 C0.2.1 dL_law_518 rfl (lv_at hl 2 rfl) ?_
    refine lw_arg (pc := 519) (J := 1) C0 hl hS1 (lw_in1 hk hL) (by decide) dL_law_519 dL_law_520 dL_law_521 dL_law_522 dL_law_523 ?_
    refine lw_arg (pc := 524) (J := 2) C0 hl hS1 (lw_in2 hk hL) (by decide) dL_law_524 dL_law_525 dL_law_526 dL_law_527 dL_law_528 ?_
    exact kk
  · exact lw_eq C0 (by omega) fin dL_law_532 (by decide) hS1
theorem lw_c15 (hg : 6000 ≤ g) (C0 : lw_At p s m meth c b L xs) (Fx : lw_Fx s D tc zz ad2) (hL : L ≤ 256) (hk : 4 * k + 4 ≤ L) (hl : lv_has ls 4 [(0, .ref b), (1, .ref q1), (2, .ref (ad2 0)), (3, .int (nI (4 * k)))]) (hS : lw_St s D tc q1 zz ad2 k H locs) (fin : lw_Fin p l e s m below meth c b D tc q1 zz ad2 k ls Q) : W p l e room_1 s m #[Value.ref b] below meth c H locs (60 + 7 * k) (40 * (60 + 7 * k)) Q (F0 m 537 ls []) := by
  refine lv_aload_n C0.1 C0.2.1 dL_law_537 rfl (lv_at hl 1 rfl) ?_
  refine lw_arg (pc := 538) (J := 1) C0 hl hS.S (lw_in1 hk hL) (by decide) dL_law_538 dL_law_539 dL_law_540 dL_law_541 dL_law_542 ?_
  refine lw_two (mk := Value.int) (X := aX11_stable g) (M := aX12_stable g) (As := [.int (xs (nI (4 * k) + 1).toNatClampNeg)]) (n := 1) (pcx := 543) (pcm := 552) (fun _ _ => rfl) (fun _ => Nat.le_of_ble_eq_true rfl) C0 Fx (by omega) (lw_of (gp_stable (g := g) (by omega) _)) (fun _ => rfl) rfl (fun ad hW => mX11_stable hW g) dL_law_543 wl_122 wl_123 wl_124 wl_3 wl_125 ⟨by decide, by decide, by decide, by decide⟩ ⟨by decide, by decide⟩ (fun hW => mX12_stable hW g) dL_law_552 wl_126 wl_127 wl_128 wl_8 wl_129 ⟨by decide, by decide, by decide, by decide⟩ ⟨by decide, by decide⟩ hS hl.1 (fun H1 locs1 r hS1 kk => ?_) (fun H1 locs1 r hS1 => ?_)
  · refine lv_aload_n C0.1 C0.2.1 dL_law_546 rfl (lv_at hl 2 rfl) ?_
    refine lw_arg (pc := 547) (J := 1) C0 hl hS1 (lw_in1 hk hL) (by decide) dL_law_547 dL_law_548 dL_law_549 dL_law_550 dL_law_551 ?_
    exact kk
  · exact lw_eq C0 (by omega) fin dL_law_555 (by decide) hS1
theorem lw_c16 (hg : 6000 ≤ g) (C0 : lw_At p s m meth c b L xs) (Fx : lw_Fx s D tc zz ad2) (hL : L ≤ 256) (hk : 4 * k + 4 ≤ L) (hl : lv_has ls 4 [(0, .ref b), (1, .ref q1), (2, .ref (ad2 0)), (3, .int (nI (4 * k)))]) (hS : lw_St s D tc q1 zz ad2 k H locs) (fin : lw_Fin p l e s m below meth c b D tc q1 zz ad2 k ls Q) : W p l e room_1 s m #[Value.ref b] below meth c H locs (60 + 7 * k) (40 * (60 + 7 * k)) Q (F0 m 560 ls []) := by
  refine lv_aload_n C0.1 C0.2.1 dL_law_560 rfl (lv_at hl 1 rfl) ?_
  refine lw_arg (pc := 561) (J := 1) C0 hl hS.S (lw_in1 hk hL) (by decide) dL_law_561 dL_law_562 dL_law_563 dL_law_564 dL_law_565 ?_
  refine lw_two (mk := Value.int) (X := aX11_happy g) (M := aX12_happy g) (As := [.int (xs (nI (4 * k) + 1).toNatClampNeg)]) (n := 1) (pcx := 566) (pcm := 575) (fun _ _ => rfl) (fun _ => Nat.le_of_ble_eq_true rfl) C0 Fx (by omega) (lw_of (gp_happy (g := g) (by omega) _)) (fun _ => rfl) rfl (fun ad hW => mX11_happy hW g) dL_law_566 wl_130 wl_131 wl_132 wl_3 wl_133 ⟨by decide, by decide, by decide, by decide⟩ ⟨by decide, by decide⟩ (fun hW => mX12_happy hW g) dL_law_575 wl_134 wl_135 wl_136 wl_8 wl_137 ⟨by decide, by decide, by decide, by decide⟩ ⟨by decide, by decide⟩ hS hl.1 (fun H1 locs1 r hS1 kk => ?_) (fun H1 locs1 r hS1 => ?_)
  · refine lv_aload_n C0.1 C0.2.1 dL_law_569 rfl (lv_at hl 2 rfl) ?_
    refine lw_arg (pc := 570) (J := 1) C0 hl hS1 (lw_in1 hk hL) (by decide) dL_law_570 dL_law_571 dL_law_572 dL_law_573 dL_law_574 ?_
    exact kk
  · exact lw_eq C0 (by omega) fin dL_law_578 (by decide) hS1
theorem lw_c17 (hg : 6000 ≤ g) (C0 : lw_At p s m meth c b L xs) (Fx : lw_Fx s D tc zz ad2) (hL : L ≤ 256) (hk : 4 * k + 4 ≤ L) (hl : lv_has ls 4 [(0, .ref b), (1, .ref q1), (2, .ref (ad2 0)), (3, .int (nI (4 * k)))]) (hS : lw_St s D tc q1 zz ad2 k H locs) (fin : lw_Fin p l e s m below meth c b D tc q1 zz ad2 k ls Q) : W p l e room_1 s m #[Value.ref b] below meth c H locs (60 + 7 * k) (40 * (60 + 7 * k)) Q (F0 m 583 ls []) := by
  refine lv_aload_n C0.1 C0.2.1 dL_law_583 rfl (lv_at hl 1 rfl) ?_
  refine lw_arg (pc := 584) (J := 1) C0 hl hS.S (lw_in1 hk hL) (by decide) dL_law_584 dL_law_585 dL_law_586 dL_law_587 dL_law_588 ?_
  refine lw_two (mk := Value.int) (X := aX11_round g) (M := aX12_round g) (As := [.int (xs (nI (4 * k) + 1).toNatClampNeg)]) (n := 1) (pcx := 589) (pcm := 598) (fun _ _ => rfl) (fun _ => Nat.le_of_ble_eq_true rfl) C0 Fx (by omega) (lw_of (gp_round (g := g) (by omega) _)) (fun _ => rfl) rfl (fun ad hW => mX11_round hW g) dL_law_589 wl_138 wl_139 wl_140 wl_3 wl_141 ⟨by decide, by decide, by decide, by decide⟩ ⟨by decide, by decide⟩ (fun hW => mX12_round hW g) dL_law_598 wl_142 wl_143 wl_144 wl_8 wl_145 ⟨by decide, by decide, by decide, by decide⟩ ⟨by decide, by decide⟩ hS hl.1 (fun H1 locs1 r hS1 kk => ?_) (fun H1 locs1 r hS1 => ?_)
  · refine lv_aload_n C0.1 C0.2.1 dL_law_592 rfl (lv_at hl 2 rfl) ?_
    refine lw_arg (pc := 593) (J := 1) C0 hl hS1 (lw_in1 hk hL) (by decide) dL_law_593 dL_law_594 dL_law_595 dL_law_596 dL_law_597 ?_
    exact kk
  · exact lw_eq C0 (by omega) fin dL_law_601 (by decide) hS1
theorem lw_c18 (hg : 6000 ≤ g) (C0 : lw_At p s m meth c b L xs) (Fx : lw_Fx s D tc zz ad2) (hL : L ≤ 256) (hk : 4 * k + 4 ≤ L) (hl : lv_has ls 4 [(0, .ref b), (1, .ref q1), (2, .ref (ad2 0)), (3, .int (nI (4 * k)))]) (hS : lw_St s D tc q1 zz ad2 k H locs) (fin : lw_Fin p l e s m below meth c b D tc q1 zz ad2 k ls Q) : W p l e room_1 s m #[Value.ref b] below meth c H locs (60 + 7 * k) (40 * (60 + 7 * k)) Q (F0 m 606 ls []) := by
  refine lv_aload_n C0.1 C0.2.1 dL_law_606 rfl (lv_at hl 1 rfl) ?_
  refine lw_arg (pc := 607) (J := 1) C0 hl hS.S (lw_in1 hk hL) (by decide) dL_law_607 dL_law_608 dL_law_609 dL_law_610 dL_law_611 ?_
  refine lw_two (mk := Value.int) (X := aX11_odds g) (M := aX12_odds g) (As := [.int (xs (nI (4 * k) + 1).toNatClampNeg)]) (n := 1) (pcx := 612) (pcm := 621) (fun _ _ => rfl) (fun _ => Nat.le_of_ble_eq_true rfl) C0 Fx (by omega) (lw_of (gp_odds (g := g) (by omega) _)) (fun _ => rfl) rfl (fun ad hW => mX11_odds hW g) dL_law_612 wl_146 wl_147 wl_148 wl_3 wl_149 ⟨by decide, by decide, by decide, by decide⟩ ⟨by decide, by decide⟩ (fun hW => mX12_odds hW g) dL_law_621 wl_150 wl_151 wl_152 wl_8 wl_153 ⟨by decide, by decide, by decide, by decide⟩ ⟨by decide, by decide⟩ hS hl.1 (fun H1 locs1 r hS1 kk => ?_) (fun H1 locs1 r hS1 => ?_)
  · refine lv_aload_n C0.1 C0.2.1 dL_law_615 rfl (lv_at hl 2 rfl) ?_
    refine lw_arg (pc := 616) (J := 1) C0 hl hS1 (lw_in1 hk hL) (by decide) dL_law_616 dL_law_617 dL_law_618 dL_law_619 dL_law_620 ?_
    exact kk
  · exact lw_eq C0 (by omega) fin dL_law_624 (by decide) hS1
theorem lw_c19 (hg : 6000 ≤ g) (C0 : lw_At p s m meth c b L xs) (Fx : lw_Fx s D tc zz ad2) (hL : L ≤ 256) (hk : 4 * k + 4 ≤ L) (hl : lv_has ls 4 [(0, .ref b), (1, .ref q1), (2, .ref (ad2 0)), (3, .int (nI (4 * k)))]) (hS : lw_St s D tc q1 zz ad2 k H locs) (fin : lw_Fin p l e s m below meth c b D tc q1 zz ad2 k ls Q) : W p l e room_1 s m #[Value.ref b] below meth c H locs (60 + 7 * k) (40 * (60 + 7 * k)) Q (F0 m 629 ls []) := by
  refine lv_aload_n C0.1 C0.2.1 dL_law_629 rfl (lv_at hl 1 rfl) ?_
  refine lw_arg (pc := 630) (J := 1) C0 hl hS.S (lw_in1 hk hL) (by decide) dL_law_630 dL_law_631 dL_law_632 dL_law_633 dL_law_634 ?_
  refine lw_arg (pc := 635) (J := 2) C0 hl hS.S (lw_in2 hk hL) (by decide) dL_law_635 dL_law_636 dL_law_637 dL_law_638 dL_law_639 ?_
  refine lw_arg (pc := 640) (J := 3) C0 hl hS.S (lw_in3 hk hL) (by decide) dL_law_640 dL_law_641 dL_law_642 dL_law_643 dL_law_644 ?_
  refine lw_two (mk := Value.int) (X := aX11_see g) (M := aX12_see g) (As := [.int (xs (nI (4 * k) + 1).toNatClampNeg), .int (xs (nI (4 * k) + 2).toNatClampNeg), .int (xs (nI (4 * k) + 3).toNatClampNeg)]) (n := 3) (pcx := 645) (pcm := 664) (fun _ _ => rfl) (fun _ => Nat.le_of_ble_eq_true rfl) C0 Fx (by omega) (lw_of (gp_see (g := g) (by omega) _ _ _)) (fun _ => rfl) rfl (fun ad hW => mX11_see hW g) dL_law_645 wl_154 wl_155 wl_156 wl_3 wl_157 ⟨by decide, by decide, by decide, by decide⟩ ⟨by decide, by decide⟩ (fun hW => mX12_see hW g) dL_law_664 wl_158 wl_159 wl_160 wl_8 wl_161 ⟨by decide, by decide, by decide, by decide⟩ ⟨by decide, by decide⟩ hS hl.1 (fun H1 locs1 r hS1 kk => ?_) (fun H1 locs1 r hS1 => ?_)
  · refine lv_aload_n C0.1 C0.2.1 dL_law_648 rfl (lv_at hl 2 rfl) ?_
    refine lw_arg (pc := 649) (J := 1) C0 hl hS1 (lw_in1 hk hL) (by decide) dL_law_649 dL_law_650 dL_law_651 dL_law_652 dL_law_653 ?_
    refine lw_arg (pc := 654) (J := 2) C0 hl hS1 (lw_in2 hk hL) (by decide) dL_law_654 dL_law_655 dL_law_656 dL_law_657 dL_law_658 ?_
    refine lw_arg (pc := 659) (J := 3) C0 hl hS1 (lw_in3 hk hL) (by decide) dL_law_659 dL_law_660 dL_law_661 dL_law_662 dL_law_663 ?_
    exact kk
  · exact lw_eq C0 (by omega) fin dL_law_667 (by decide) hS1
theorem lw_c20 (hg : 6000 ≤ g) (C0 : lw_At p s m meth c b L xs) (Fx : lw_Fx s D tc zz ad2) (hL : L ≤ 256) (hk : 4 * k + 4 ≤ L) (hl : lv_has ls 4 [(0, .ref b), (1, .ref q1), (2, .ref (ad2 0)), (3, .int (nI (4 * k)))]) (hS : lw_St s D tc q1 zz ad2 k H locs) (fin : lw_Fin p l e s m below meth c b D tc q1 zz ad2 k ls Q) : W p l e room_1 s m #[Value.ref b] below meth c H locs (60 + 7 * k) (40 * (60 + 7 * k)) Q (F0 m 672 ls []) := by
  refine lv_aload_n C0.1 C0.2.1 dL_law_672 rfl (lv_at hl 1 rfl) ?_
  refine lw_two (mk := Value.int) (X := aX11_forget g) (M := aX12_forget g) (As := []) (n := 0) (pcx := 673) (pcm := 677) (fun _ _ => rfl) (fun _ => Nat.le_of_ble_eq_true rfl) C0 Fx (by omega) (lw_of (gp_forget (g := g) (by omega))) (fun _ => rfl) rfl (fun ad hW => mX11_forget hW g) dL_law_673 wl_162 wl_163 wl_164 wl_3 wl_165 ⟨by decide, by decide, by decide, by decide⟩ ⟨by decide, by decide⟩ (fun hW => mX12_forget hW g) dL_law_677 wl_166 wl_167 wl_168 wl_8 wl_169 ⟨by decide, by decide, by decide, by decide⟩ ⟨by decide, by decide⟩ hS hl.1 (fun H1 locs1 r hS1 kk => ?_) (fun H1 locs1 r hS1 => ?_)
  · refine lv_aload_n C0.1 C0.2.1 dL_law_676 rfl (lv_at hl 2 rfl) ?_
    exact kk
  · exact lw_eq C0 (by omega) fin dL_law_680 (by decide) hS1
theorem lw_c21 (hg : 6000 ≤ g) (C0 : lw_At p s m meth c b L xs) (Fx : lw_Fx s D tc zz ad2) (hL : L ≤ 256) (hk : 4 * k + 4 ≤ L) (hl : lv_has ls 4 [(0, .ref b), (1, .ref q1), (2, .ref (ad2 0)), (3, .int (nI (4 * k)))]) (hS : lw_St s D tc q1 zz ad2 k H locs) (fin : lw_Fin p l e s m below meth c b D tc q1 zz ad2 k ls Q) : W p l e room_1 s m #[Value.ref b] below meth c H locs (60 + 7 * k) (40 * (60 + 7 * k)) Q (F0 m 685 ls []) := by
  refine lv_aload_n C0.1 C0.2.1 dL_law_685 rfl (lv_at hl 1 rfl) ?_
  refine lw_arg (pc := 686) (J := 1) C0 hl hS.S (lw_in1 hk hL) (by decide) dL_law_686 dL_law_687 dL_law_688 dL_law_689 dL_law_690 ?_
  refine lw_arg (pc := 691) (J := 2) C0 hl hS.S (lw_in2 hk hL) (by decide) dL_law_691 dL_law_692 dL_law_693 dL_law_694 dL_law_695 ?_
  refine lw_arg (pc := 696) (J := 3) C0 hl hS.S (lw_in3 hk hL) (by decide) dL_law_696 dL_law_697 dL_law_698 dL_law_699 dL_law_700 ?_
  refine lw_two (mk := Value.int) (X := aX11_winters g) (M := aX12_winters g) (As := [.int (xs (nI (4 * k) + 1).toNatClampNeg), .int (xs (nI (4 * k) + 2).toNatClampNeg), .int (xs (nI (4 * k) + 3).toNatClampNeg)]) (n := 3) (pcx := 701) (pcm := 720) (fun _ _ => rfl) (fun _ => Nat.le_of_ble_eq_true rfl) C0 Fx (by omega) (lw_of (gp_winters (g := g) (by omega) _ _ _)) (fun _ => rfl) rfl (fun ad hW => mX11_winters hW g) dL_law_701 wl_170 wl_171 wl_172 wl_3 wl_173 ⟨by decide, by decide, by decide, by decide⟩ ⟨by decide, by decide⟩ (fun hW => mX12_winters hW g) dL_law_720 wl_174 wl_175 wl_176 wl_8 wl_177 ⟨by decide, by decide, by decide, by decide⟩ ⟨by decide, by decide⟩ hS hl.1 (fun H1 locs1 r hS1 kk => ?_) (fun H1 locs1 r hS1 => ?_)
  · refine lv_aload_n C0.1 C0.2.1 dL_law_704 rfl (lv_at hl 2 rfl) ?_
    refine lw_arg (pc := 705) (J := 1) C0 hl hS1 (lw_in1 hk hL) (by decide) dL_law_705 dL_law_706 dL_law_707 dL_law_708 dL_law_709 ?_
    refine lw_arg (pc := 710) (J := 2) C0 hl hS1 (lw_in2 hk hL) (by decide) dL_law_710 dL_law_711 dL_law_712 dL_law_713 dL_law_714 ?_
    refine lw_arg (pc := 715) (J := 3) C0 hl hS1 (lw_in3 hk hL) (by decide) dL_law_715 dL_law_716 dL_law_717 dL_law_718 dL_law_719 ?_
    exact kk
  · exact lw_eq C0 (by omega) fin dL_law_723 (by decide) hS1
theorem lw_c22 (hg : 6000 ≤ g) (C0 : lw_At p s m meth c b L xs) (Fx : lw_Fx s D tc zz ad2) (hL : L ≤ 256) (hk : 4 * k + 4 ≤ L) (hl : lv_has ls 4 [(0, .ref b), (1, .ref q1), (2, .ref (ad2 0)), (3, .int (nI (4 * k)))]) (hS : lw_St s D tc q1 zz ad2 k H locs) (fin : lw_Fin p l e s m below meth c b D tc q1 zz ad2 k ls Q) : W p l e room_1 s m #[Value.ref b] below meth c H locs (60 + 7 * k) (40 * (60 + 7 * k)) Q (F0 m 728 ls []) := by
  refine lv_aload_n C0.1 C0.2.1 dL_law_728 rfl (lv_at hl 1 rfl) ?_
  refine lw_two (mk := Value.int) (X := aX11_image g) (M := aX12_image g) (As := []) (n := 0) (pcx := 729) (pcm := 733) (fun _ _ => rfl) (fun _ => Nat.le_of_ble_eq_true rfl) C0 Fx (by omega) (lw_of (gp_image (g := g) (by omega))) (fun _ => rfl) rfl (fun ad hW => mX11_image hW g) dL_law_729 wl_178 wl_179 wl_180 wl_3 wl_181 ⟨by decide, by decide, by decide, by decide⟩ ⟨by decide, by decide⟩ (fun hW => mX12_image hW g) dL_law_733 wl_182 wl_183 wl_184 wl_8 wl_185 ⟨by decide, by decide, by decide, by decide⟩ ⟨by decide, by decide⟩ hS hl.1 (fun H1 locs1 r hS1 kk => ?_) (fun H1 locs1 r hS1 => ?_)
  · refine lv_aload_n C0.1 C0.2.1 dL_law_732 rfl (lv_at hl 2 rfl) ?_
    exact kk
  · exact lw_eq C0 (by omega) fin dL_law_736 (by decide) hS1
theorem lw_c23 (hg : 6000 ≤ g) (C0 : lw_At p s m meth c b L xs) (Fx : lw_Fx s D tc zz ad2) (hL : L ≤ 256) (hk : 4 * k + 4 ≤ L) (hl : lv_has ls 4 [(0, .ref b), (1, .ref q1), (2, .ref (ad2 0)), (3, .int (nI (4 * k)))]) (hS : lw_St s D tc q1 zz ad2 k H locs) (fin : lw_Fin p l e s m below meth c b D tc q1 zz ad2 k ls Q) : W p l e room_1 s m #[Value.ref b] below meth c H locs (60 + 7 * k) (40 * (60 + 7 * k)) Q (F0 m 741 ls []) := by
  refine lv_aload_n C0.1 C0.2.1 dL_law_741 rfl (lv_at hl 1 rfl) ?_
  refine lw_two (mk := Value.int) (X := aX11_restore g) (M := aX12_restore g) (As := []) (n := 0) (pcx := 742) (pcm := 746) (fun _ _ => rfl) (fun _ => Nat.le_of_ble_eq_true rfl) C0 Fx (by omega) (lw_of (gp_restore (g := g) (by omega))) (fun _ => rfl) rfl (fun ad hW => mX11_restore hW g) dL_law_742 wl_186 wl_187 wl_188 wl_3 wl_189 ⟨by decide, by decide, by decide, by decide⟩ ⟨by decide, by decide⟩ (fun hW => mX12_restore hW g) dL_law_746 wl_190 wl_191 wl_192 wl_8 wl_193 ⟨by decide, by decide, by decide, by decide⟩ ⟨by decide, by decide⟩ hS hl.1 (fun H1 locs1 r hS1 kk => ?_) (fun H1 locs1 r hS1 => ?_)
  · refine lv_aload_n C0.1 C0.2.1 dL_law_745 rfl (lv_at hl 2 rfl) ?_
    exact kk
  · exact lw_eq C0 (by omega) fin dL_law_749 (by decide) hS1
theorem lw_c24 (hg : 6000 ≤ g) (C0 : lw_At p s m meth c b L xs) (Fx : lw_Fx s D tc zz ad2) (hL : L ≤ 256) (hk : 4 * k + 4 ≤ L) (hl : lv_has ls 4 [(0, .ref b), (1, .ref q1), (2, .ref (ad2 0)), (3, .int (nI (4 * k)))]) (hS : lw_St s D tc q1 zz ad2 k H locs) (fin : lw_Fin p l e s m below meth c b D tc q1 zz ad2 k ls Q) : W p l e room_1 s m #[Value.ref b] below meth c H locs (60 + 7 * k) (40 * (60 + 7 * k)) Q (F0 m 754 ls []) := by
  refine lv_aload_n C0.1 C0.2.1 dL_law_754 rfl (lv_at hl 1 rfl) ?_
  refine lw_arg (pc := 755) (J := 1) C0 hl hS.S (lw_in1 hk hL) (by decide) dL_law_755 dL_law_756 dL_law_757 dL_law_758 dL_law_759 ?_
  refine lw_two (mk := Value.int) (X := aX11_count g) (M := aX12_count g) (As := [.int (xs (nI (4 * k) + 1).toNatClampNeg)]) (n := 1) (pcx := 760) (pcm := 769) (fun _ _ => rfl) (fun _ => Nat.le_of_ble_eq_true rfl) C0 Fx (by omega) (lw_of (gp_count (g := g) (by omega) _)) (fun _ => rfl) rfl (fun ad hW => mX11_count hW g) dL_law_760 wl_194 wl_195 wl_196 wl_3 wl_197 ⟨by decide, by decide, by decide, by decide⟩ ⟨by decide, by decide⟩ (fun hW => mX12_count hW g) dL_law_769 wl_198 wl_199 wl_200 wl_8 wl_201 ⟨by decide, by decide, by decide, by decide⟩ ⟨by decide, by decide⟩ hS hl.1 (fun H1 locs1 r hS1 kk => ?_) (fun H1 locs1 r hS1 => ?_)
  · refine lv_aload_n C0.1 C0.2.1 dL_law_763 rfl (lv_at hl 2 rfl) ?_
    refine lw_arg (pc := 764) (J := 1) C0 hl hS1 (lw_in1 hk hL) (by decide) dL_law_764 dL_law_765 dL_law_766 dL_law_767 dL_law_768 ?_
    exact kk
  · exact lw_eq C0 (by omega) fin dL_law_772 (by decide) hS1
theorem lw_c25 (hg : 6000 ≤ g) (C0 : lw_At p s m meth c b L xs) (Fx : lw_Fx s D tc zz ad2) (hL : L ≤ 256) (hk : 4 * k + 4 ≤ L) (hl : lv_has ls 4 [(0, .ref b), (1, .ref q1), (2, .ref (ad2 0)), (3, .int (nI (4 * k)))]) (hS : lw_St s D tc q1 zz ad2 k H locs) (fin : lw_Fin p l e s m below meth c b D tc q1 zz ad2 k ls Q) : W p l e room_1 s m #[Value.ref b] below meth c H locs (60 + 7 * k) (40 * (60 + 7 * k)) Q (F0 m 777 ls []) := by
  refine lv_aload_n C0.1 C0.2.1 dL_law_777 rfl (lv_at hl 1 rfl) ?_
  refine lw_two (mk := Value.long) (X := aX11_digest g) (M := aX12_digest g) (As := []) (n := 0) (pcx := 778) (pcm := 782) (fun _ _ => rfl) (fun _ => Nat.le_of_ble_eq_true rfl) C0 Fx (by omega) (lw_ofL (gp_digest (g := g) (by omega))) (fun _ => rfl) rfl (fun ad hW => mX11_digest hW g) dL_law_778 wl_202 wl_203 wl_204 wl_3 wl_205 ⟨by decide, by decide, by decide, by decide⟩ ⟨by decide, by decide⟩ (fun hW => mX12_digest hW g) dL_law_782 wl_206 wl_207 wl_208 wl_8 wl_209 ⟨by decide, by decide, by decide, by decide⟩ ⟨by decide, by decide⟩ hS hl.1 (fun H1 locs1 r hS1 kk => ?_) (fun H1 locs1 r hS1 => ?_)
  · refine lv_aload_n C0.1 C0.2.1 dL_law_781 rfl (lv_at hl 2 rfl) ?_
    exact kk
  · refine W.lcmp C0.1 C0.2.1 dL_law_785 ?_
    rw [lw_cmp]
    exact lv_if_eq (tgt := 791) C0.1 C0.2.1 dL_law_786 (by decide) (fun _ => W.widen (by omega) (by omega) (fin H1 locs1 (hS1.up (by omega)))) (fun h => absurd rfl h)
end LWC
