section
-- ===== PART A: goes FIRST, ahead of the names: the tables' words, and 'selects' of the private methods out of them =====
/-- a private method of a class that the tables say can be made, by its rows of tables_1 -/
def lw_okq (q : MethodName × Nat) : Prop := (q.1.cls ≠ "java/lang/invoke/MethodHandle" ∧ q.1.cls ≠ "java/lang/invoke/VarHandle") ∧ Cond.instantiable q.1.cls q.2 ∈ tables_1 ∧ Cond.privateMethod q.1 ∈ tables_1 ∧ Cond.instanceMethod q.1 ∈ tables_1
theorem lw_p0 : lw_okq (⟨"GloveSaint$Seen", "agrees", "(LGloveSaint$Drawer;II)Z"⟩, 5) := ⟨⟨by decide +kernel, by decide +kernel⟩, List.mem_of_getElem? (i := 56) (by decide +kernel), List.mem_of_getElem? (i := 571) (by decide +kernel), List.mem_of_getElem? (i := 572) (by decide +kernel)⟩
theorem lw_p1 : lw_okq (⟨"GloveSaint$Seen", "leftAtWorst", "(LGloveSaint$Drawer;III)I"⟩, 5) := ⟨⟨by decide +kernel, by decide +kernel⟩, List.mem_of_getElem? (i := 56) (by decide +kernel), List.mem_of_getElem? (i := 583) (by decide +kernel), List.mem_of_getElem? (i := 584) (by decide +kernel)⟩
theorem lw_p2 : lw_okq (⟨"GloveSaint$Drawer", "newMateOf", "(I)I"⟩, 8) := ⟨⟨by decide +kernel, by decide +kernel⟩, List.mem_of_getElem? (i := 48) (by decide +kernel), List.mem_of_getElem? (i := 664) (by decide +kernel), List.mem_of_getElem? (i := 665) (by decide +kernel)⟩
theorem lw_p3 : lw_okq (⟨"GloveSaint$Rows", "learn", "(LGloveSaint$Drawer;)V"⟩, 12) := ⟨⟨by decide +kernel, by decide +kernel⟩, List.mem_of_getElem? (i := 201) (by decide +kernel), List.mem_of_getElem? (i := 685) (by decide +kernel), List.mem_of_getElem? (i := 686) (by decide +kernel)⟩
theorem lw_p4 : lw_okq (⟨"GloveSaint$Rows", "place", "(IIII)V"⟩, 12) := ⟨⟨by decide +kernel, by decide +kernel⟩, List.mem_of_getElem? (i := 201) (by decide +kernel), List.mem_of_getElem? (i := 691) (by decide +kernel), List.mem_of_getElem? (i := 692) (by decide +kernel)⟩
theorem lw_p5 : lw_okq (⟨"GloveSaint$Rows", "judge", "(III)V"⟩, 12) := ⟨⟨by decide +kernel, by decide +kernel⟩, List.mem_of_getElem? (i := 201) (by decide +kernel), List.mem_of_getElem? (i := 695) (by decide +kernel), List.mem_of_getElem? (i := 696) (by decide +kernel)⟩
theorem lw_p6 : lw_okq (⟨"GloveSaint$Rows", "isBlocked", "()Z"⟩, 12) := ⟨⟨by decide +kernel, by decide +kernel⟩, List.mem_of_getElem? (i := 201) (by decide +kernel), List.mem_of_getElem? (i := 699) (by decide +kernel), List.mem_of_getElem? (i := 700) (by decide +kernel)⟩
theorem lw_p7 : lw_okq (⟨"GloveSaint$Rows", "wouldLeaveFor", "(II)Z"⟩, 12) := ⟨⟨by decide +kernel, by decide +kernel⟩, List.mem_of_getElem? (i := 201) (by decide +kernel), List.mem_of_getElem? (i := 703) (by decide +kernel), List.mem_of_getElem? (i := 704) (by decide +kernel)⟩
theorem lw_p8 : lw_okq (⟨"GloveSaint$Rows", "rankOf", "(III)I"⟩, 12) := ⟨⟨by decide +kernel, by decide +kernel⟩, List.mem_of_getElem? (i := 201) (by decide +kernel), List.mem_of_getElem? (i := 707) (by decide +kernel), List.mem_of_getElem? (i := 708) (by decide +kernel)⟩
theorem lw_p9 : lw_okq (⟨"GloveSaint", "mostTold", "(I)I"⟩, 6) := ⟨⟨by decide +kernel, by decide +kernel⟩, List.mem_of_getElem? (i := 24) (by decide +kernel), List.mem_of_getElem? (i := 715) (by decide +kernel), List.mem_of_getElem? (i := 716) (by decide +kernel)⟩
theorem lw_p10 : lw_okq (⟨"GloveSaint", "bestTold", "(I)I"⟩, 6) := ⟨⟨by decide +kernel, by decide +kernel⟩, List.mem_of_getElem? (i := 24) (by decide +kernel), List.mem_of_getElem? (i := 727) (by decide +kernel), List.mem_of_getElem? (i := 728) (by decide +kernel)⟩
theorem lw_p11 : lw_okq (⟨"GloveSaint", "stableTold", "(I)I"⟩, 6) := ⟨⟨by decide +kernel, by decide +kernel⟩, List.mem_of_getElem? (i := 24) (by decide +kernel), List.mem_of_getElem? (i := 735) (by decide +kernel), List.mem_of_getElem? (i := 736) (by decide +kernel)⟩
theorem lw_p12 : lw_okq (⟨"GloveSaint$Winters", "draw", "(I)I"⟩, 4) := ⟨⟨by decide +kernel, by decide +kernel⟩, List.mem_of_getElem? (i := 250) (by decide +kernel), List.mem_of_getElem? (i := 793) (by decide +kernel), List.mem_of_getElem? (i := 794) (by decide +kernel)⟩
theorem lw_p13 : lw_okq (⟨"GloveSaint$Winters", "meet", "(LGloveSaint$Drawer;II)V"⟩, 4) := ⟨⟨by decide +kernel, by decide +kernel⟩, List.mem_of_getElem? (i := 250) (by decide +kernel), List.mem_of_getElem? (i := 801) (by decide +kernel), List.mem_of_getElem? (i := 802) (by decide +kernel)⟩
theorem lw_p14 : lw_okq (⟨"GloveSaint", "withRows", "(J)J"⟩, 6) := ⟨⟨by decide +kernel, by decide +kernel⟩, List.mem_of_getElem? (i := 24) (by decide +kernel), List.mem_of_getElem? (i := 857) (by decide +kernel), List.mem_of_getElem? (i := 858) (by decide +kernel)⟩
theorem lw_p15 : lw_okq (⟨"GloveSaintModel", "faultOf", "()I"⟩, 30) := ⟨⟨by decide +kernel, by decide +kernel⟩, List.mem_of_getElem? (i := 863) (by decide +kernel), List.mem_of_getElem? (i := 976) (by decide +kernel), List.mem_of_getElem? (i := 977) (by decide +kernel)⟩
def lw_privs_1 : List (MethodName × Nat) := [(⟨"GloveSaint$Seen", "agrees", "(LGloveSaint$Drawer;II)Z"⟩, 5), (⟨"GloveSaint$Seen", "leftAtWorst", "(LGloveSaint$Drawer;III)I"⟩, 5), (⟨"GloveSaint$Drawer", "newMateOf", "(I)I"⟩, 8), (⟨"GloveSaint$Rows", "learn", "(LGloveSaint$Drawer;)V"⟩, 12), (⟨"GloveSaint$Rows", "place", "(IIII)V"⟩, 12), (⟨"GloveSaint$Rows", "judge", "(III)V"⟩, 12), (⟨"GloveSaint$Rows", "isBlocked", "()Z"⟩, 12), (⟨"GloveSaint$Rows", "wouldLeaveFor", "(II)Z"⟩, 12), (⟨"GloveSaint$Rows", "rankOf", "(III)I"⟩, 12), (⟨"GloveSaint", "mostTold", "(I)I"⟩, 6), (⟨"GloveSaint", "bestTold", "(I)I"⟩, 6), (⟨"GloveSaint", "stableTold", "(I)I"⟩, 6), (⟨"GloveSaint$Winters", "draw", "(I)I"⟩, 4), (⟨"GloveSaint$Winters", "meet", "(LGloveSaint$Drawer;II)V"⟩, 4), (⟨"GloveSaint", "withRows", "(J)J"⟩, 6), (⟨"GloveSaintModel", "faultOf", "()I"⟩, 30)]
theorem lw_r1 : ∀ q ∈ lw_privs_1, lw_okq q := List.forall_mem_cons.mpr ⟨lw_p0, List.forall_mem_cons.mpr ⟨lw_p1, List.forall_mem_cons.mpr ⟨lw_p2, List.forall_mem_cons.mpr ⟨lw_p3, List.forall_mem_cons.mpr ⟨lw_p4, List.forall_mem_cons.mpr ⟨lw_p5, List.forall_mem_cons.mpr ⟨lw_p6, List.forall_mem_cons.mpr ⟨lw_p7, List.forall_mem_cons.mpr ⟨lw_p8, List.forall_mem_cons.mpr ⟨lw_p9, List.forall_mem_cons.mpr ⟨lw_p10, List.forall_mem_cons.mpr ⟨lw_p11, List.forall_mem_cons.mpr ⟨lw_p12, List.forall_mem_cons.mpr ⟨lw_p13, List.forall_mem_cons.mpr ⟨lw_p14, List.forall_mem_cons.mpr ⟨lw_p15, fun _ h => absurd h List.not_mem_nil⟩⟩⟩⟩⟩⟩⟩⟩⟩⟩⟩⟩⟩⟩⟩⟩
theorem lw_p16 : lw_okq (⟨"GloveSaintModel", "isSingle", "(I)Z"⟩, 30) := ⟨⟨by decide +kernel, by decide +kernel⟩, List.mem_of_getElem? (i := 863) (by decide +kernel), List.mem_of_getElem? (i := 998) (by decide +kernel), List.mem_of_getElem? (i := 999) (by decide +kernel)⟩
theorem lw_p17 : lw_okq (⟨"GloveSaintModel", "tellSingle", "(II)I"⟩, 30) := ⟨⟨by decide +kernel, by decide +kernel⟩, List.mem_of_getElem? (i := 863) (by decide +kernel), List.mem_of_getElem? (i := 1002) (by decide +kernel), List.mem_of_getElem? (i := 1003) (by decide +kernel)⟩
theorem lw_p18 : lw_okq (⟨"GloveSaintModel", "mayBits", "(I)I"⟩, 30) := ⟨⟨by decide +kernel, by decide +kernel⟩, List.mem_of_getElem? (i := 863) (by decide +kernel), List.mem_of_getElem? (i := 1006) (by decide +kernel), List.mem_of_getElem? (i := 1007) (by decide +kernel)⟩
theorem lw_p19 : lw_okq (⟨"GloveSaintModel", "mayBe", "(II)Z"⟩, 30) := ⟨⟨by decide +kernel, by decide +kernel⟩, List.mem_of_getElem? (i := 863) (by decide +kernel), List.mem_of_getElem? (i := 1010) (by decide +kernel), List.mem_of_getElem? (i := 1011) (by decide +kernel)⟩
theorem lw_p20 : lw_okq (⟨"GloveSaintModel", "takes", "(II)Z"⟩, 30) := ⟨⟨by decide +kernel, by decide +kernel⟩, List.mem_of_getElem? (i := 863) (by decide +kernel), List.mem_of_getElem? (i := 1014) (by decide +kernel), List.mem_of_getElem? (i := 1015) (by decide +kernel)⟩
theorem lw_p21 : lw_okq (⟨"GloveSaintModel", "isGlove", "(I)Z"⟩, 30) := ⟨⟨by decide +kernel, by decide +kernel⟩, List.mem_of_getElem? (i := 863) (by decide +kernel), List.mem_of_getElem? (i := 1018) (by decide +kernel), List.mem_of_getElem? (i := 1019) (by decide +kernel)⟩
theorem lw_p22 : lw_okq (⟨"GloveSaintModel", "preferredOf", "(I)I"⟩, 30) := ⟨⟨by decide +kernel, by decide +kernel⟩, List.mem_of_getElem? (i := 863) (by decide +kernel), List.mem_of_getElem? (i := 1022) (by decide +kernel), List.mem_of_getElem? (i := 1023) (by decide +kernel)⟩
theorem lw_p23 : lw_okq (⟨"GloveSaintModel", "prefers", "(III)Z"⟩, 30) := ⟨⟨by decide +kernel, by decide +kernel⟩, List.mem_of_getElem? (i := 863) (by decide +kernel), List.mem_of_getElem? (i := 1026) (by decide +kernel), List.mem_of_getElem? (i := 1027) (by decide +kernel)⟩
theorem lw_p24 : lw_okq (⟨"GloveSaintModel", "likenessOf", "(II)I"⟩, 30) := ⟨⟨by decide +kernel, by decide +kernel⟩, List.mem_of_getElem? (i := 863) (by decide +kernel), List.mem_of_getElem? (i := 1030) (by decide +kernel), List.mem_of_getElem? (i := 1031) (by decide +kernel)⟩
theorem lw_p25 : lw_okq (⟨"GloveSaintModel", "apartOf", "(II)I"⟩, 30) := ⟨⟨by decide +kernel, by decide +kernel⟩, List.mem_of_getElem? (i := 863) (by decide +kernel), List.mem_of_getElem? (i := 1034) (by decide +kernel), List.mem_of_getElem? (i := 1035) (by decide +kernel)⟩
theorem lw_p26 : lw_okq (⟨"GloveSaintModel", "spikeOf", "(II)I"⟩, 30) := ⟨⟨by decide +kernel, by decide +kernel⟩, List.mem_of_getElem? (i := 863) (by decide +kernel), List.mem_of_getElem? (i := 1041) (by decide +kernel), List.mem_of_getElem? (i := 1042) (by decide +kernel)⟩
theorem lw_p27 : lw_okq (⟨"GloveSaintModel", "seenFrom", "(II)I"⟩, 30) := ⟨⟨by decide +kernel, by decide +kernel⟩, List.mem_of_getElem? (i := 863) (by decide +kernel), List.mem_of_getElem? (i := 1045) (by decide +kernel), List.mem_of_getElem? (i := 1046) (by decide +kernel)⟩
theorem lw_p28 : lw_okq (⟨"GloveSaintModel", "sizesOf", "(I)I"⟩, 30) := ⟨⟨by decide +kernel, by decide +kernel⟩, List.mem_of_getElem? (i := 863) (by decide +kernel), List.mem_of_getElem? (i := 1049) (by decide +kernel), List.mem_of_getElem? (i := 1050) (by decide +kernel)⟩
theorem lw_p29 : lw_okq (⟨"GloveSaintModel", "likenessAs", "(III)I"⟩, 30) := ⟨⟨by decide +kernel, by decide +kernel⟩, List.mem_of_getElem? (i := 863) (by decide +kernel), List.mem_of_getElem? (i := 1053) (by decide +kernel), List.mem_of_getElem? (i := 1054) (by decide +kernel)⟩
theorem lw_p30 : lw_okq (⟨"GloveSaintModel", "lookOf", "(I)I"⟩, 30) := ⟨⟨by decide +kernel, by decide +kernel⟩, List.mem_of_getElem? (i := 863) (by decide +kernel), List.mem_of_getElem? (i := 1057) (by decide +kernel), List.mem_of_getElem? (i := 1058) (by decide +kernel)⟩
theorem lw_p31 : lw_okq (⟨"GloveSaintModel", "areTwo", "(II)Z"⟩, 30) := ⟨⟨by decide +kernel, by decide +kernel⟩, List.mem_of_getElem? (i := 863) (by decide +kernel), List.mem_of_getElem? (i := 1070) (by decide +kernel), List.mem_of_getElem? (i := 1071) (by decide +kernel)⟩
def lw_privs_2 : List (MethodName × Nat) := [(⟨"GloveSaintModel", "isSingle", "(I)Z"⟩, 30), (⟨"GloveSaintModel", "tellSingle", "(II)I"⟩, 30), (⟨"GloveSaintModel", "mayBits", "(I)I"⟩, 30), (⟨"GloveSaintModel", "mayBe", "(II)Z"⟩, 30), (⟨"GloveSaintModel", "takes", "(II)Z"⟩, 30), (⟨"GloveSaintModel", "isGlove", "(I)Z"⟩, 30), (⟨"GloveSaintModel", "preferredOf", "(I)I"⟩, 30), (⟨"GloveSaintModel", "prefers", "(III)Z"⟩, 30), (⟨"GloveSaintModel", "likenessOf", "(II)I"⟩, 30), (⟨"GloveSaintModel", "apartOf", "(II)I"⟩, 30), (⟨"GloveSaintModel", "spikeOf", "(II)I"⟩, 30), (⟨"GloveSaintModel", "seenFrom", "(II)I"⟩, 30), (⟨"GloveSaintModel", "sizesOf", "(I)I"⟩, 30), (⟨"GloveSaintModel", "likenessAs", "(III)I"⟩, 30), (⟨"GloveSaintModel", "lookOf", "(I)I"⟩, 30), (⟨"GloveSaintModel", "areTwo", "(II)Z"⟩, 30)]
theorem lw_r2 : ∀ q ∈ lw_privs_2, lw_okq q := List.forall_mem_cons.mpr ⟨lw_p16, List.forall_mem_cons.mpr ⟨lw_p17, List.forall_mem_cons.mpr ⟨lw_p18, List.forall_mem_cons.mpr ⟨lw_p19, List.forall_mem_cons.mpr ⟨lw_p20, List.forall_mem_cons.mpr ⟨lw_p21, List.forall_mem_cons.mpr ⟨lw_p22, List.forall_mem_cons.mpr ⟨lw_p23, List.forall_mem_cons.mpr ⟨lw_p24, List.forall_mem_cons.mpr ⟨lw_p25, List.forall_mem_cons.mpr ⟨lw_p26, List.forall_mem_cons.mpr ⟨lw_p27, List.forall_mem_cons.mpr ⟨lw_p28, List.forall_mem_cons.mpr ⟨lw_p29, List.forall_mem_cons.mpr ⟨lw_p30, List.forall_mem_cons.mpr ⟨lw_p31, fun _ h => absurd h List.not_mem_nil⟩⟩⟩⟩⟩⟩⟩⟩⟩⟩⟩⟩⟩⟩⟩⟩
theorem lw_p32 : lw_okq (⟨"GloveSaintModel", "lacks", "()Z"⟩, 30) := ⟨⟨by decide +kernel, by decide +kernel⟩, List.mem_of_getElem? (i := 863) (by decide +kernel), List.mem_of_getElem? (i := 1100) (by decide +kernel), List.mem_of_getElem? (i := 1101) (by decide +kernel)⟩
theorem lw_p33 : lw_okq (⟨"GloveSaintModel", "pairsOf", "([I)I"⟩, 30) := ⟨⟨by decide +kernel, by decide +kernel⟩, List.mem_of_getElem? (i := 863) (by decide +kernel), List.mem_of_getElem? (i := 1107) (by decide +kernel), List.mem_of_getElem? (i := 1108) (by decide +kernel)⟩
theorem lw_p34 : lw_okq (⟨"GloveSaintModel", "mostOf", "(I)I"⟩, 30) := ⟨⟨by decide +kernel, by decide +kernel⟩, List.mem_of_getElem? (i := 863) (by decide +kernel), List.mem_of_getElem? (i := 1120) (by decide +kernel), List.mem_of_getElem? (i := 1121) (by decide +kernel)⟩
theorem lw_p35 : lw_okq (⟨"GloveSaintModel", "firstRow", "()V"⟩, 30) := ⟨⟨by decide +kernel, by decide +kernel⟩, List.mem_of_getElem? (i := 863) (by decide +kernel), List.mem_of_getElem? (i := 1124) (by decide +kernel), List.mem_of_getElem? (i := 1125) (by decide +kernel)⟩
theorem lw_p36 : lw_okq (⟨"GloveSaintModel", "nextRow", "()Z"⟩, 30) := ⟨⟨by decide +kernel, by decide +kernel⟩, List.mem_of_getElem? (i := 863) (by decide +kernel), List.mem_of_getElem? (i := 1128) (by decide +kernel), List.mem_of_getElem? (i := 1129) (by decide +kernel)⟩
theorem lw_p37 : lw_okq (⟨"GloveSaintModel", "likenessRow", "()I"⟩, 30) := ⟨⟨by decide +kernel, by decide +kernel⟩, List.mem_of_getElem? (i := 863) (by decide +kernel), List.mem_of_getElem? (i := 1132) (by decide +kernel), List.mem_of_getElem? (i := 1133) (by decide +kernel)⟩
theorem lw_p38 : lw_okq (⟨"GloveSaintModel", "bestOf", "(II)I"⟩, 30) := ⟨⟨by decide +kernel, by decide +kernel⟩, List.mem_of_getElem? (i := 863) (by decide +kernel), List.mem_of_getElem? (i := 1141) (by decide +kernel), List.mem_of_getElem? (i := 1142) (by decide +kernel)⟩
theorem lw_p39 : lw_okq (⟨"GloveSaintModel", "milesRow", "()I"⟩, 30) := ⟨⟨by decide +kernel, by decide +kernel⟩, List.mem_of_getElem? (i := 863) (by decide +kernel), List.mem_of_getElem? (i := 1145) (by decide +kernel), List.mem_of_getElem? (i := 1146) (by decide +kernel)⟩
theorem lw_p40 : lw_okq (⟨"GloveSaintModel", "stableOf", "(I)I"⟩, 30) := ⟨⟨by decide +kernel, by decide +kernel⟩, List.mem_of_getElem? (i := 863) (by decide +kernel), List.mem_of_getElem? (i := 1153) (by decide +kernel), List.mem_of_getElem? (i := 1154) (by decide +kernel)⟩
theorem lw_p41 : lw_okq (⟨"GloveSaintModel", "isStable", "()Z"⟩, 30) := ⟨⟨by decide +kernel, by decide +kernel⟩, List.mem_of_getElem? (i := 863) (by decide +kernel), List.mem_of_getElem? (i := 1157) (by decide +kernel), List.mem_of_getElem? (i := 1158) (by decide +kernel)⟩
theorem lw_p42 : lw_okq (⟨"GloveSaintModel", "roundOf", "(I)I"⟩, 30) := ⟨⟨by decide +kernel, by decide +kernel⟩, List.mem_of_getElem? (i := 863) (by decide +kernel), List.mem_of_getElem? (i := 1169) (by decide +kernel), List.mem_of_getElem? (i := 1170) (by decide +kernel)⟩
theorem lw_p43 : lw_okq (⟨"GloveSaintModel", "oddsOf", "(I)I"⟩, 30) := ⟨⟨by decide +kernel, by decide +kernel⟩, List.mem_of_getElem? (i := 863) (by decide +kernel), List.mem_of_getElem? (i := 1177) (by decide +kernel), List.mem_of_getElem? (i := 1178) (by decide +kernel)⟩
theorem lw_p44 : lw_okq (⟨"GloveSaintModel", "draw", "(I)I"⟩, 30) := ⟨⟨by decide +kernel, by decide +kernel⟩, List.mem_of_getElem? (i := 863) (by decide +kernel), List.mem_of_getElem? (i := 1200) (by decide +kernel), List.mem_of_getElem? (i := 1201) (by decide +kernel)⟩
theorem lw_p45 : lw_okq (⟨"GloveSaintModel", "countOf", "(I)I"⟩, 30) := ⟨⟨by decide +kernel, by decide +kernel⟩, List.mem_of_getElem? (i := 863) (by decide +kernel), List.mem_of_getElem? (i := 1220) (by decide +kernel), List.mem_of_getElem? (i := 1221) (by decide +kernel)⟩
theorem lw_p46 : lw_okq (⟨"GloveSaintModel", "likenessNow", "()I"⟩, 30) := ⟨⟨by decide +kernel, by decide +kernel⟩, List.mem_of_getElem? (i := 863) (by decide +kernel), List.mem_of_getElem? (i := 1224) (by decide +kernel), List.mem_of_getElem? (i := 1225) (by decide +kernel)⟩
theorem lw_p47 : lw_okq (⟨"GloveSaintModel", "mayTwos", "()I"⟩, 30) := ⟨⟨by decide +kernel, by decide +kernel⟩, List.mem_of_getElem? (i := 863) (by decide +kernel), List.mem_of_getElem? (i := 1228) (by decide +kernel), List.mem_of_getElem? (i := 1229) (by decide +kernel)⟩
def lw_privs_3 : List (MethodName × Nat) := [(⟨"GloveSaintModel", "lacks", "()Z"⟩, 30), (⟨"GloveSaintModel", "pairsOf", "([I)I"⟩, 30), (⟨"GloveSaintModel", "mostOf", "(I)I"⟩, 30), (⟨"GloveSaintModel", "firstRow", "()V"⟩, 30), (⟨"GloveSaintModel", "nextRow", "()Z"⟩, 30), (⟨"GloveSaintModel", "likenessRow", "()I"⟩, 30), (⟨"GloveSaintModel", "bestOf", "(II)I"⟩, 30), (⟨"GloveSaintModel", "milesRow", "()I"⟩, 30), (⟨"GloveSaintModel", "stableOf", "(I)I"⟩, 30), (⟨"GloveSaintModel", "isStable", "()Z"⟩, 30), (⟨"GloveSaintModel", "roundOf", "(I)I"⟩, 30), (⟨"GloveSaintModel", "oddsOf", "(I)I"⟩, 30), (⟨"GloveSaintModel", "draw", "(I)I"⟩, 30), (⟨"GloveSaintModel", "countOf", "(I)I"⟩, 30), (⟨"GloveSaintModel", "likenessNow", "()I"⟩, 30), (⟨"GloveSaintModel", "mayTwos", "()I"⟩, 30)]
theorem lw_r3 : ∀ q ∈ lw_privs_3, lw_okq q := List.forall_mem_cons.mpr ⟨lw_p32, List.forall_mem_cons.mpr ⟨lw_p33, List.forall_mem_cons.mpr ⟨lw_p34, List.forall_mem_cons.mpr ⟨lw_p35, List.forall_mem_cons.mpr ⟨lw_p36, List.forall_mem_cons.mpr ⟨lw_p37, List.forall_mem_cons.mpr ⟨lw_p38, List.forall_mem_cons.mpr ⟨lw_p39, List.forall_mem_cons.mpr ⟨lw_p40, List.forall_mem_cons.mpr ⟨lw_p41, List.forall_mem_cons.mpr ⟨lw_p42, List.forall_mem_cons.mpr ⟨lw_p43, List.forall_mem_cons.mpr ⟨lw_p44, List.forall_mem_cons.mpr ⟨lw_p45, List.forall_mem_cons.mpr ⟨lw_p46, List.forall_mem_cons.mpr ⟨lw_p47, fun _ h => absurd h List.not_mem_nil⟩⟩⟩⟩⟩⟩⟩⟩⟩⟩⟩⟩⟩⟩⟩⟩
theorem lw_p48 : lw_okq (⟨"GloveSaintModel", "aloneOf", "(I)I"⟩, 30) := ⟨⟨by decide +kernel, by decide +kernel⟩, List.mem_of_getElem? (i := 863) (by decide +kernel), List.mem_of_getElem? (i := 1235) (by decide +kernel), List.mem_of_getElem? (i := 1236) (by decide +kernel)⟩
theorem lw_p49 : lw_okq (⟨"GloveSaintModel", "say", "(J)V"⟩, 30) := ⟨⟨by decide +kernel, by decide +kernel⟩, List.mem_of_getElem? (i := 863) (by decide +kernel), List.mem_of_getElem? (i := 1244) (by decide +kernel), List.mem_of_getElem? (i := 1245) (by decide +kernel)⟩
theorem lw_p50 : lw_okq (⟨"GloveSaintModel", "sayDrawer", "()V"⟩, 30) := ⟨⟨by decide +kernel, by decide +kernel⟩, List.mem_of_getElem? (i := 863) (by decide +kernel), List.mem_of_getElem? (i := 1249) (by decide +kernel), List.mem_of_getElem? (i := 1250) (by decide +kernel)⟩
def lw_privs_4 : List (MethodName × Nat) := [(⟨"GloveSaintModel", "aloneOf", "(I)I"⟩, 30), (⟨"GloveSaintModel", "say", "(J)V"⟩, 30), (⟨"GloveSaintModel", "sayDrawer", "()V"⟩, 30)]
theorem lw_r4 : ∀ q ∈ lw_privs_4, lw_okq q := List.forall_mem_cons.mpr ⟨lw_p48, List.forall_mem_cons.mpr ⟨lw_p49, List.forall_mem_cons.mpr ⟨lw_p50, fun _ h => absurd h List.not_mem_nil⟩⟩⟩
def lw_privs : List (MethodName × Nat) := lw_privs_1 ++ (lw_privs_2 ++ (lw_privs_3 ++ (lw_privs_4)))
def lw_tbl : List Cond := k2_sels lw_privs ++ tables_1
theorem lw_privs_ok : ∀ q ∈ lw_privs, lw_okq q := by
  show ∀ q ∈ lw_privs_1 ++ (lw_privs_2 ++ (lw_privs_3 ++ (lw_privs_4))), lw_okq q
  exact List.forall_mem_append.mpr ⟨lw_r1, List.forall_mem_append.mpr ⟨lw_r2, List.forall_mem_append.mpr ⟨lw_r3, lw_r4⟩⟩⟩
-- ===== end of PART A; then your names; then what follows =====
end
section
def RX0 : String := "GloveSaint$Drawer"
def TX0 : u_T := fun k => match k with
  | 0 => ("GloveSaint$Drawer", "singles", "[LGloveSaint$Single;", true)
  | 1 => ("GloveSaint$Drawer", "seen", "LGloveSaint$Seen;", true)
  | 2 => ("GloveSaint$Drawer", "size", "I", false)
  | 3 => ("GloveSaint$Drawer", "miles", "I", false)
  | 4 => ("GloveSaint$Drawer", "timesBrought", "I", false)
  | 5 => ("GloveSaint$Drawer", "timesParted", "I", false)
  | 6 => ("GloveSaint$Drawer", "timesMay", "I", false)
  | _ => ("GloveSaint$Drawer", "formerMates", "[I", true)
def tyX0 : Nat → FieldType := fun k => match k with
  | 0 => .array (.object "GloveSaint$Single")
  | 1 => .object "GloveSaint$Seen"
  | 2 => .int
  | 3 => .int
  | 4 => .int
  | 5 => .int
  | 6 => .int
  | _ => .array .int
theorem nmX0 : ∀ a, a < 8 → ∀ b, b < 8 → a ≠ b → (TX0 a).2.1 ≠ (TX0 b).2.1 := by decide +kernel
theorem tyX0_ok : ∀ k, k < 8 → parseFieldDescriptor (TX0 k).2.2.1 = some (tyX0 k) := by decide +kernel
abbrev cX0_init : ByteArray := prog_2_method_1_code
def yX0_init : MethodName := ⟨RX0, "<init>", "()V"⟩
abbrev cX0_fillFrom : ByteArray := prog_2_method_2_code
def yX0_fillFrom : MethodName := ⟨RX0, "fillFrom", "(LGloveSaint$Page;)V"⟩
abbrev cX0_isMissing : ByteArray := prog_2_method_3_code
def yX0_isMissing : MethodName := ⟨RX0, "isMissing", "()Z"⟩
abbrev cX0_has : ByteArray := prog_2_method_4_code
def yX0_has : MethodName := ⟨RX0, "has", "(I)Z"⟩
abbrev cX0_hasTwo : ByteArray := prog_2_method_5_code
def yX0_hasTwo : MethodName := ⟨RX0, "hasTwo", "(II)Z"⟩
abbrev cX0_isPaired : ByteArray := prog_2_method_6_code
def yX0_isPaired : MethodName := ⟨RX0, "isPaired", "(I)Z"⟩
abbrev cX0_mayPair : ByteArray := prog_2_method_7_code
def yX0_mayPair : MethodName := ⟨RX0, "mayPair", "(II)Z"⟩
abbrev cX0_likenessOf : ByteArray := prog_2_method_8_code
def yX0_likenessOf : MethodName := ⟨RX0, "likenessOf", "(II)I"⟩
abbrev cX0_likenessAt : ByteArray := prog_2_method_9_code
def yX0_likenessAt : MethodName := ⟨RX0, "likenessAt", "(III)I"⟩
abbrev cX0_matchesOf : ByteArray := prog_2_method_10_code
def yX0_matchesOf : MethodName := ⟨RX0, "matchesOf", "(I)I"⟩
abbrev cX0_favouriteOf : ByteArray := prog_2_method_11_code
def yX0_favouriteOf : MethodName := ⟨RX0, "favouriteOf", "(I)I"⟩
abbrev cX0_seersAt : ByteArray := prog_2_method_12_code
def yX0_seersAt : MethodName := ⟨RX0, "seersAt", "(II)I"⟩
abbrev cX0_spikeOf : ByteArray := prog_2_method_13_code
def yX0_spikeOf : MethodName := ⟨RX0, "spikeOf", "(I)I"⟩
abbrev cX0_carryTo : ByteArray := prog_2_method_14_code
def yX0_carryTo : MethodName := ⟨RX0, "carryTo", "(II)I"⟩
abbrev cX0_canMeet : ByteArray := prog_2_method_15_code
def yX0_canMeet : MethodName := ⟨RX0, "canMeet", "(II)Z"⟩
abbrev cX0_pairUp : ByteArray := prog_2_method_16_code
def yX0_pairUp : MethodName := ⟨RX0, "pairUp", "(II)V"⟩
abbrev cX0_separate : ByteArray := prog_2_method_17_code
def yX0_separate : MethodName := ⟨RX0, "separate", "(I)V"⟩
abbrev cX0_swapMates : ByteArray := prog_2_method_18_code
def yX0_swapMates : MethodName := ⟨RX0, "swapMates", "()V"⟩
abbrev cX0_newMateOf : ByteArray := prog_2_method_19_code
def yX0_newMateOf : MethodName := ⟨RX0, "newMateOf", "(I)I"⟩
abbrev cX0_roundFrom : ByteArray := prog_2_method_20_code
def yX0_roundFrom : MethodName := ⟨RX0, "roundFrom", "(I)I"⟩
abbrev cX0_pairs : ByteArray := prog_2_method_21_code
def yX0_pairs : MethodName := ⟨RX0, "pairs", "()I"⟩
abbrev cX0_likenessOfPairs : ByteArray := prog_2_method_22_code
def yX0_likenessOfPairs : MethodName := ⟨RX0, "likenessOfPairs", "()I"⟩
abbrev cX0_matches : ByteArray := prog_2_method_23_code
def yX0_matches : MethodName := ⟨RX0, "matches", "()I"⟩
abbrev cX0_matchesAlone : ByteArray := prog_2_method_24_code
def yX0_matchesAlone : MethodName := ⟨RX0, "matchesAlone", "()I"⟩
abbrev cX0_twosAlone : ByteArray := prog_2_method_25_code
def yX0_twosAlone : MethodName := ⟨RX0, "twosAlone", "()I"⟩
abbrev cX0_alone : ByteArray := prog_2_method_26_code
def yX0_alone : MethodName := ⟨RX0, "alone", "(I)I"⟩
def RX1 : String := "GloveSaint$Glove"
def TX1 : u_T := fun k => match k with
  | 0 => ("GloveSaint$Single", "hand", "I", true)
  | 1 => ("GloveSaint$Single", "size", "I", false)
  | 2 => ("GloveSaint$Single", "station", "I", false)
  | _ => ("GloveSaint$Single", "mate", "I", false)
def tyX1 : Nat → FieldType := fun k => match k with
  | 0 => .int
  | 1 => .int
  | 2 => .int
  | _ => .int
theorem nmX1 : ∀ a, a < 4 → ∀ b, b < 4 → a ≠ b → (TX1 a).2.1 ≠ (TX1 b).2.1 := by decide +kernel
theorem tyX1_ok : ∀ k, k < 4 → parseFieldDescriptor (TX1 k).2.2.1 = some (tyX1 k) := by decide +kernel
abbrev cX1_init : ByteArray := prog_3_method_1_code
def yX1_init : MethodName := ⟨RX1, "<init>", "(III)V"⟩
abbrev cX1_kindNumber : ByteArray := prog_3_method_2_code
def yX1_kindNumber : MethodName := ⟨RX1, "kindNumber", "()I"⟩
abbrev cX1_takes : ByteArray := prog_3_method_3_code
def yX1_takes : MethodName := ⟨RX1, "takes", "(LGloveSaint$Single;)Z"⟩
def RX2 : String := "GloveSaint$Image"
def TX2 : u_T := fun k => match k with
  | 0 => ("GloveSaint$Image", "isThere", "Z", false)
  | 1 => ("GloveSaint$Image", "sizes", "[I", true)
  | 2 => ("GloveSaint$Image", "stations", "[I", true)
  | 3 => ("GloveSaint$Image", "mates", "[I", true)
  | 4 => ("GloveSaint$Image", "seen", "LGloveSaint$Seen;", true)
  | 5 => ("GloveSaint$Image", "miles", "I", false)
  | 6 => ("GloveSaint$Image", "timesBrought", "I", false)
  | 7 => ("GloveSaint$Image", "timesParted", "I", false)
  | _ => ("GloveSaint$Image", "timesMay", "I", false)
def tyX2 : Nat → FieldType := fun k => match k with
  | 0 => .boolean
  | 1 => .array .int
  | 2 => .array .int
  | 3 => .array .int
  | 4 => .object "GloveSaint$Seen"
  | 5 => .int
  | 6 => .int
  | 7 => .int
  | _ => .int
theorem nmX2 : ∀ a, a < 9 → ∀ b, b < 9 → a ≠ b → (TX2 a).2.1 ≠ (TX2 b).2.1 := by decide +kernel
theorem tyX2_ok : ∀ k, k < 9 → parseFieldDescriptor (TX2 k).2.2.1 = some (tyX2 k) := by decide +kernel
abbrev cX2_init : ByteArray := prog_4_method_1_code
def yX2_init : MethodName := ⟨RX2, "<init>", "()V"⟩
abbrev cX2_keep : ByteArray := prog_4_method_2_code
def yX2_keep : MethodName := ⟨RX2, "keep", "(LGloveSaint$Drawer;)V"⟩
abbrev cX2_giveBack : ByteArray := prog_4_method_3_code
def yX2_giveBack : MethodName := ⟨RX2, "giveBack", "(LGloveSaint$Drawer;)V"⟩
def RX3 : String := "GloveSaint$Mitten"
def TX3 : u_T := fun k => match k with
  | 0 => ("GloveSaint$Single", "hand", "I", true)
  | 1 => ("GloveSaint$Single", "size", "I", false)
  | 2 => ("GloveSaint$Single", "station", "I", false)
  | _ => ("GloveSaint$Single", "mate", "I", false)
def tyX3 : Nat → FieldType := fun k => match k with
  | 0 => .int
  | 1 => .int
  | 2 => .int
  | _ => .int
theorem nmX3 : ∀ a, a < 4 → ∀ b, b < 4 → a ≠ b → (TX3 a).2.1 ≠ (TX3 b).2.1 := by decide +kernel
theorem tyX3_ok : ∀ k, k < 4 → parseFieldDescriptor (TX3 k).2.2.1 = some (tyX3 k) := by decide +kernel
abbrev cX3_init : ByteArray := prog_5_method_1_code
def yX3_init : MethodName := ⟨RX3, "<init>", "(III)V"⟩
abbrev cX3_kindNumber : ByteArray := prog_5_method_2_code
def yX3_kindNumber : MethodName := ⟨RX3, "kindNumber", "()I"⟩
abbrev cX3_distanceTo : ByteArray := prog_5_method_3_code
def yX3_distanceTo : MethodName := ⟨RX3, "distanceTo", "(LGloveSaint$Single;)I"⟩
def RX4 : String := "GloveSaint$Page"
def TX4 : u_T := fun k => match k with
  | 0 => ("GloveSaint$Page", "codes", "[I", true)
  | _ => ("GloveSaint$Page", "length", "I", false)
def tyX4 : Nat → FieldType := fun k => match k with
  | 0 => .array .int
  | _ => .int
theorem nmX4 : ∀ a, a < 2 → ∀ b, b < 2 → a ≠ b → (TX4 a).2.1 ≠ (TX4 b).2.1 := by decide +kernel
theorem tyX4_ok : ∀ k, k < 2 → parseFieldDescriptor (TX4 k).2.2.1 = some (tyX4 k) := by decide +kernel
abbrev cX4_init : ByteArray := prog_6_method_1_code
def yX4_init : MethodName := ⟨RX4, "<init>", "()V"⟩
abbrev cX4_write : ByteArray := prog_6_method_2_code
def yX4_write : MethodName := ⟨RX4, "write", "(I)Z"⟩
abbrev cX4_clear : ByteArray := prog_6_method_3_code
def yX4_clear : MethodName := ⟨RX4, "clear", "()V"⟩
abbrev cX4_firstFault : ByteArray := prog_6_method_4_code
def yX4_firstFault : MethodName := ⟨RX4, "firstFault", "()I"⟩
abbrev cX4_isDrawer : ByteArray := prog_6_method_5_code
def yX4_isDrawer : MethodName := ⟨RX4, "isDrawer", "()Z"⟩
abbrev cX4_singles : ByteArray := prog_6_method_6_code
def yX4_singles : MethodName := ⟨RX4, "singles", "()I"⟩
abbrev cX4_singleAt : ByteArray := prog_6_method_7_code
def yX4_singleAt : MethodName := ⟨RX4, "singleAt", "(I)LGloveSaint$Single;"⟩
abbrev cX4_mayStandAt : ByteArray := prog_6_method_8_code
def yX4_mayStandAt : MethodName := ⟨RX4, "mayStandAt", "(II)Z"⟩
def RX5 : String := "GloveSaint$Ring"
def TX5 : u_T := fun k => match k with
  | 0 => ("GloveSaint$Single", "hand", "I", true)
  | 1 => ("GloveSaint$Single", "size", "I", false)
  | 2 => ("GloveSaint$Single", "station", "I", false)
  | _ => ("GloveSaint$Single", "mate", "I", false)
def tyX5 : Nat → FieldType := fun k => match k with
  | 0 => .int
  | 1 => .int
  | 2 => .int
  | _ => .int
theorem nmX5 : ∀ a, a < 4 → ∀ b, b < 4 → a ≠ b → (TX5 a).2.1 ≠ (TX5 b).2.1 := by decide +kernel
theorem tyX5_ok : ∀ k, k < 4 → parseFieldDescriptor (TX5 k).2.2.1 = some (tyX5 k) := by decide +kernel
abbrev cX5_init : ByteArray := prog_7_method_1_code
def yX5_init : MethodName := ⟨RX5, "<init>", "(III)V"⟩
abbrev cX5_kindNumber : ByteArray := prog_7_method_2_code
def yX5_kindNumber : MethodName := ⟨RX5, "kindNumber", "()I"⟩
abbrev cX5_takes : ByteArray := prog_7_method_3_code
def yX5_takes : MethodName := ⟨RX5, "takes", "(LGloveSaint$Single;)Z"⟩
def RX6 : String := "GloveSaint$Rows"
def TX6 : u_T := fun k => match k with
  | 0 => ("GloveSaint$Rows", "howMany", "I", false)
  | 1 => ("GloveSaint$Rows", "pairs", "I", false)
  | 2 => ("GloveSaint$Rows", "likenessSum", "I", false)
  | 3 => ("GloveSaint$Rows", "miles", "I", false)
  | 4 => ("GloveSaint$Rows", "found", "[I", true)
  | 5 => ("GloveSaint$Rows", "row", "[I", true)
  | 6 => ("GloveSaint$Rows", "like", "[[I", true)
  | 7 => ("GloveSaint$Rows", "stations", "[I", true)
  | 8 => ("GloveSaint$Rows", "size", "I", false)
  | 9 => ("GloveSaint$Rows", "goal", "I", false)
  | 10 => ("GloveSaint$Rows", "milesAllowed", "I", false)
  | _ => ("GloveSaint$Rows", "foundRank", "I", false)
def tyX6 : Nat → FieldType := fun k => match k with
  | 0 => .int
  | 1 => .int
  | 2 => .int
  | 3 => .int
  | 4 => .array .int
  | 5 => .array .int
  | 6 => .array (.array .int)
  | 7 => .array .int
  | 8 => .int
  | 9 => .int
  | 10 => .int
  | _ => .int
theorem nmX6 : ∀ a, a < 12 → ∀ b, b < 12 → a ≠ b → (TX6 a).2.1 ≠ (TX6 b).2.1 := by decide +kernel
theorem tyX6_ok : ∀ k, k < 12 → parseFieldDescriptor (TX6 k).2.2.1 = some (tyX6 k) := by decide +kernel
abbrev cX6_init : ByteArray := prog_8_method_1_code
def yX6_init : MethodName := ⟨RX6, "<init>", "()V"⟩
abbrev cX6_mateOf : ByteArray := prog_8_method_2_code
def yX6_mateOf : MethodName := ⟨RX6, "mateOf", "(I)I"⟩
abbrev cX6_seek : ByteArray := prog_8_method_3_code
def yX6_seek : MethodName := ⟨RX6, "seek", "(LGloveSaint$Drawer;II)V"⟩
abbrev cX6_learn : ByteArray := prog_8_method_4_code
def yX6_learn : MethodName := ⟨RX6, "learn", "(LGloveSaint$Drawer;)V"⟩
abbrev cX6_place : ByteArray := prog_8_method_5_code
def yX6_place : MethodName := ⟨RX6, "place", "(IIII)V"⟩
abbrev cX6_judge : ByteArray := prog_8_method_6_code
def yX6_judge : MethodName := ⟨RX6, "judge", "(III)V"⟩
abbrev cX6_rankOf : ByteArray := prog_8_method_7_code
def yX6_rankOf : MethodName := ⟨RX6, "rankOf", "(III)I"⟩
abbrev cX6_isBlocked : ByteArray := prog_8_method_8_code
def yX6_isBlocked : MethodName := ⟨RX6, "isBlocked", "()Z"⟩
abbrev cX6_wouldLeaveFor : ByteArray := prog_8_method_9_code
def yX6_wouldLeaveFor : MethodName := ⟨RX6, "wouldLeaveFor", "(II)Z"⟩
def RX7 : String := "GloveSaint$Seen"
def TX7 : u_T := fun k => match k with
  | 0 => ("GloveSaint$Seen", "size", "I", false)
  | 1 => ("GloveSaint$Seen", "ones", "[I", true)
  | 2 => ("GloveSaint$Seen", "others", "[I", true)
  | 3 => ("GloveSaint$Seen", "likenesses", "[I", true)
  | _ => ("GloveSaint$Seen", "left", "[I", true)
def tyX7 : Nat → FieldType := fun k => match k with
  | 0 => .int
  | 1 => .array .int
  | 2 => .array .int
  | 3 => .array .int
  | _ => .array .int
theorem nmX7 : ∀ a, a < 5 → ∀ b, b < 5 → a ≠ b → (TX7 a).2.1 ≠ (TX7 b).2.1 := by decide +kernel
theorem tyX7_ok : ∀ k, k < 5 → parseFieldDescriptor (TX7 k).2.2.1 = some (tyX7 k) := by decide +kernel
abbrev cX7_init : ByteArray := prog_9_method_1_code
def yX7_init : MethodName := ⟨RX7, "<init>", "()V"⟩
abbrev cX7_note : ByteArray := prog_9_method_2_code
def yX7_note : MethodName := ⟨RX7, "note", "(III)Z"⟩
abbrev cX7_clear : ByteArray := prog_9_method_3_code
def yX7_clear : MethodName := ⟨RX7, "clear", "()V"⟩
abbrev cX7_copyFrom : ByteArray := prog_9_method_4_code
def yX7_copyFrom : MethodName := ⟨RX7, "copyFrom", "(LGloveSaint$Seen;)V"⟩
abbrev cX7_sizesOf : ByteArray := prog_9_method_5_code
def yX7_sizesOf : MethodName := ⟨RX7, "sizesOf", "(LGloveSaint$Drawer;I)I"⟩
abbrev cX7_agrees : ByteArray := prog_9_method_6_code
def yX7_agrees : MethodName := ⟨RX7, "agrees", "(LGloveSaint$Drawer;II)Z"⟩
abbrev cX7_lookOf : ByteArray := prog_9_method_7_code
def yX7_lookOf : MethodName := ⟨RX7, "lookOf", "(LGloveSaint$Drawer;II)I"⟩
abbrev cX7_leftAtWorst : ByteArray := prog_9_method_8_code
def yX7_leftAtWorst : MethodName := ⟨RX7, "leftAtWorst", "(LGloveSaint$Drawer;III)I"⟩
def RX8 : String := "GloveSaint$Single"
def TX8 : u_T := fun k => match k with
  | 0 => ("GloveSaint$Single", "hand", "I", true)
  | 1 => ("GloveSaint$Single", "size", "I", false)
  | 2 => ("GloveSaint$Single", "station", "I", false)
  | _ => ("GloveSaint$Single", "mate", "I", false)
def tyX8 : Nat → FieldType := fun k => match k with
  | 0 => .int
  | 1 => .int
  | 2 => .int
  | _ => .int
theorem nmX8 : ∀ a, a < 4 → ∀ b, b < 4 → a ≠ b → (TX8 a).2.1 ≠ (TX8 b).2.1 := by decide +kernel
theorem tyX8_ok : ∀ k, k < 4 → parseFieldDescriptor (TX8 k).2.2.1 = some (tyX8 k) := by decide +kernel
abbrev cX8_init : ByteArray := prog_10_method_1_code
def yX8_init : MethodName := ⟨RX8, "<init>", "(III)V"⟩
abbrev cX8_kindNumber : ByteArray := prog_10_method_2_code
def yX8_kindNumber : MethodName := ⟨RX8, "kindNumber", "()I"⟩
abbrev cX8_takes : ByteArray := prog_10_method_3_code
def yX8_takes : MethodName := ⟨RX8, "takes", "(LGloveSaint$Single;)Z"⟩
abbrev cX8_distanceTo : ByteArray := prog_10_method_4_code
def yX8_distanceTo : MethodName := ⟨RX8, "distanceTo", "(LGloveSaint$Single;)I"⟩
def RX9 : String := "GloveSaint$Sock"
def TX9 : u_T := fun k => match k with
  | 0 => ("GloveSaint$Single", "hand", "I", true)
  | 1 => ("GloveSaint$Single", "size", "I", false)
  | 2 => ("GloveSaint$Single", "station", "I", false)
  | _ => ("GloveSaint$Single", "mate", "I", false)
def tyX9 : Nat → FieldType := fun k => match k with
  | 0 => .int
  | 1 => .int
  | 2 => .int
  | _ => .int
theorem nmX9 : ∀ a, a < 4 → ∀ b, b < 4 → a ≠ b → (TX9 a).2.1 ≠ (TX9 b).2.1 := by decide +kernel
theorem tyX9_ok : ∀ k, k < 4 → parseFieldDescriptor (TX9 k).2.2.1 = some (tyX9 k) := by decide +kernel
abbrev cX9_init : ByteArray := prog_11_method_1_code
def yX9_init : MethodName := ⟨RX9, "<init>", "(III)V"⟩
abbrev cX9_kindNumber : ByteArray := prog_11_method_2_code
def yX9_kindNumber : MethodName := ⟨RX9, "kindNumber", "()I"⟩
abbrev cX9_takes : ByteArray := prog_11_method_3_code
def yX9_takes : MethodName := ⟨RX9, "takes", "(LGloveSaint$Single;)Z"⟩
def RX10 : String := "GloveSaint$Winters"
def TX10 : u_T := fun k => match k with
  | 0 => ("GloveSaint$Winters", "pairs", "I", false)
  | 1 => ("GloveSaint$Winters", "likenessSum", "I", false)
  | 2 => ("GloveSaint$Winters", "seed", "J", false)
  | _ => ("GloveSaint$Winters", "taken", "[Z", true)
def tyX10 : Nat → FieldType := fun k => match k with
  | 0 => .int
  | 1 => .int
  | 2 => .long
  | _ => .array .boolean
theorem nmX10 : ∀ a, a < 4 → ∀ b, b < 4 → a ≠ b → (TX10 a).2.1 ≠ (TX10 b).2.1 := by decide +kernel
theorem tyX10_ok : ∀ k, k < 4 → parseFieldDescriptor (TX10 k).2.2.1 = some (tyX10 k) := by decide +kernel
abbrev cX10_init : ByteArray := prog_12_method_1_code
def yX10_init : MethodName := ⟨RX10, "<init>", "()V"⟩
abbrev cX10_pass : ByteArray := prog_12_method_2_code
def yX10_pass : MethodName := ⟨RX10, "pass", "(LGloveSaint$Drawer;II)V"⟩
abbrev cX10_meet : ByteArray := prog_12_method_3_code
def yX10_meet : MethodName := ⟨RX10, "meet", "(LGloveSaint$Drawer;II)V"⟩
abbrev cX10_draw : ByteArray := prog_12_method_4_code
def yX10_draw : MethodName := ⟨RX10, "draw", "(I)I"⟩
def RX11 : String := "GloveSaint"
def TX11 : u_T := fun k => match k with
  | 0 => ("GloveSaint", "page", "LGloveSaint$Page;", true)
  | 1 => ("GloveSaint", "shown", "LGloveSaint$Drawer;", true)
  | 2 => ("GloveSaint", "kept", "LGloveSaint$Image;", true)
  | 3 => ("GloveSaint", "rows", "LGloveSaint$Rows;", true)
  | 4 => ("GloveSaint", "cold", "LGloveSaint$Winters;", true)
  | _ => ("GloveSaint", "drawersRead", "I", false)
def tyX11 : Nat → FieldType := fun k => match k with
  | 0 => .object "GloveSaint$Page"
  | 1 => .object "GloveSaint$Drawer"
  | 2 => .object "GloveSaint$Image"
  | 3 => .object "GloveSaint$Rows"
  | 4 => .object "GloveSaint$Winters"
  | _ => .int
theorem nmX11 : ∀ a, a < 6 → ∀ b, b < 6 → a ≠ b → (TX11 a).2.1 ≠ (TX11 b).2.1 := by decide +kernel
theorem tyX11_ok : ∀ k, k < 6 → parseFieldDescriptor (TX11 k).2.2.1 = some (tyX11 k) := by decide +kernel
abbrev cX11_init : ByteArray := prog_1_method_1_code
def yX11_init : MethodName := ⟨RX11, "<init>", "()V"⟩
abbrev cX11_letter : ByteArray := prog_1_method_2_code
def yX11_letter : MethodName := ⟨RX11, "letter", "(I)I"⟩
abbrev cX11_blank : ByteArray := prog_1_method_3_code
def yX11_blank : MethodName := ⟨RX11, "blank", "()I"⟩
abbrev cX11_fault : ByteArray := prog_1_method_4_code
def yX11_fault : MethodName := ⟨RX11, "fault", "()I"⟩
abbrev cX11_drawer : ByteArray := prog_1_method_5_code
def yX11_drawer : MethodName := ⟨RX11, "drawer", "()I"⟩
abbrev cX11_single : ByteArray := prog_1_method_6_code
def yX11_single : MethodName := ⟨RX11, "single", "(II)I"⟩
abbrev cX11_as : ByteArray := prog_1_method_7_code
def yX11_as : MethodName := ⟨RX11, "as", "(II)I"⟩
abbrev cX11_likeness : ByteArray := prog_1_method_8_code
def yX11_likeness : MethodName := ⟨RX11, "likeness", "(II)I"⟩
abbrev cX11_apart : ByteArray := prog_1_method_9_code
def yX11_apart : MethodName := ⟨RX11, "apart", "(II)I"⟩
abbrev cX11_carry : ByteArray := prog_1_method_10_code
def yX11_carry : MethodName := ⟨RX11, "carry", "(II)I"⟩
abbrev cX11_bring : ByteArray := prog_1_method_11_code
def yX11_bring : MethodName := ⟨RX11, "bring", "(II)I"⟩
abbrev cX11_part : ByteArray := prog_1_method_12_code
def yX11_part : MethodName := ⟨RX11, "part", "(I)I"⟩
abbrev cX11_shrink : ByteArray := prog_1_method_13_code
def yX11_shrink : MethodName := ⟨RX11, "shrink", "(II)I"⟩
abbrev cX11_may : ByteArray := prog_1_method_14_code
def yX11_may : MethodName := ⟨RX11, "may", "()I"⟩
abbrev cX11_most : ByteArray := prog_1_method_15_code
def yX11_most : MethodName := ⟨RX11, "most", "(I)I"⟩
abbrev cX11_best : ByteArray := prog_1_method_16_code
def yX11_best : MethodName := ⟨RX11, "best", "(II)I"⟩
abbrev cX11_stable : ByteArray := prog_1_method_17_code
def yX11_stable : MethodName := ⟨RX11, "stable", "(I)I"⟩
abbrev cX11_happy : ByteArray := prog_1_method_18_code
def yX11_happy : MethodName := ⟨RX11, "happy", "(I)I"⟩
abbrev cX11_round : ByteArray := prog_1_method_19_code
def yX11_round : MethodName := ⟨RX11, "round", "(I)I"⟩
abbrev cX11_odds : ByteArray := prog_1_method_20_code
def yX11_odds : MethodName := ⟨RX11, "odds", "(I)I"⟩
abbrev cX11_see : ByteArray := prog_1_method_21_code
def yX11_see : MethodName := ⟨RX11, "see", "(III)I"⟩
abbrev cX11_forget : ByteArray := prog_1_method_22_code
def yX11_forget : MethodName := ⟨RX11, "forget", "()I"⟩
abbrev cX11_winters : ByteArray := prog_1_method_23_code
def yX11_winters : MethodName := ⟨RX11, "winters", "(III)I"⟩
abbrev cX11_image : ByteArray := prog_1_method_24_code
def yX11_image : MethodName := ⟨RX11, "image", "()I"⟩
abbrev cX11_restore : ByteArray := prog_1_method_25_code
def yX11_restore : MethodName := ⟨RX11, "restore", "()I"⟩
abbrev cX11_count : ByteArray := prog_1_method_26_code
def yX11_count : MethodName := ⟨RX11, "count", "(I)I"⟩
abbrev cX11_digest : ByteArray := prog_1_method_27_code
def yX11_digest : MethodName := ⟨RX11, "digest", "()J"⟩
abbrev cX11_withRows : ByteArray := prog_1_method_28_code
def yX11_withRows : MethodName := ⟨RX11, "withRows", "(J)J"⟩
abbrev cX11_with : ByteArray := prog_1_method_29_code
def yX11_with : MethodName := ⟨RX11, "with", "(JJ)J"⟩
abbrev cX11_mostTold : ByteArray := prog_1_method_30_code
def yX11_mostTold : MethodName := ⟨RX11, "mostTold", "(I)I"⟩
abbrev cX11_bestTold : ByteArray := prog_1_method_31_code
def yX11_bestTold : MethodName := ⟨RX11, "bestTold", "(I)I"⟩
abbrev cX11_stableTold : ByteArray := prog_1_method_32_code
def yX11_stableTold : MethodName := ⟨RX11, "stableTold", "(I)I"⟩
abbrev cX11_isRowQuestion : ByteArray := prog_1_method_33_code
def yX11_isRowQuestion : MethodName := ⟨RX11, "isRowQuestion", "(I)Z"⟩
abbrev cX11_isStation : ByteArray := prog_1_method_34_code
def yX11_isStation : MethodName := ⟨RX11, "isStation", "(I)Z"⟩
abbrev cX11_isOfKind : ByteArray := prog_1_method_35_code
def yX11_isOfKind : MethodName := ⟨RX11, "isOfKind", "(LGloveSaint$Single;I)Z"⟩
abbrev cX11_commonDivisor : ByteArray := prog_1_method_36_code
def yX11_commonDivisor : MethodName := ⟨RX11, "commonDivisor", "(II)I"⟩
def RX12 : String := "GloveSaintModel"
def TX12 : u_T := fun k => match k with
  | 0 => ("GloveSaintModel", "page", "[I", true)
  | 1 => ("GloveSaintModel", "pageMany", "I", false)
  | 2 => ("GloveSaintModel", "singles", "I", false)
  | 3 => ("GloveSaintModel", "miles", "I", false)
  | 4 => ("GloveSaintModel", "brought", "I", false)
  | 5 => ("GloveSaintModel", "parted", "I", false)
  | 6 => ("GloveSaintModel", "mays", "I", false)
  | 7 => ("GloveSaintModel", "drawersRead", "I", false)
  | 8 => ("GloveSaintModel", "rows", "[I", true)
  | 9 => ("GloveSaintModel", "sizes", "[I", true)
  | 10 => ("GloveSaintModel", "stations", "[I", true)
  | 11 => ("GloveSaintModel", "mates", "[I", true)
  | 12 => ("GloveSaintModel", "before", "[I", true)
  | 13 => ("GloveSaintModel", "row", "[I", true)
  | 14 => ("GloveSaintModel", "bestRow", "[I", true)
  | 15 => ("GloveSaintModel", "seenMany", "I", false)
  | 16 => ("GloveSaintModel", "sights", "[I", true)
  | 17 => ("GloveSaintModel", "parts", "[I", true)
  | 18 => ("GloveSaintModel", "seedNow", "I", false)
  | 19 => ("GloveSaintModel", "keptDrawer", "I", false)
  | 20 => ("GloveSaintModel", "keptMiles", "I", false)
  | 21 => ("GloveSaintModel", "keptBrought", "I", false)
  | 22 => ("GloveSaintModel", "keptParted", "I", false)
  | 23 => ("GloveSaintModel", "keptMays", "I", false)
  | 24 => ("GloveSaintModel", "keptSeen", "I", false)
  | 25 => ("GloveSaintModel", "keptSizes", "[I", true)
  | 26 => ("GloveSaintModel", "keptStations", "[I", true)
  | 27 => ("GloveSaintModel", "keptMates", "[I", true)
  | 28 => ("GloveSaintModel", "keptSights", "[I", true)
  | _ => ("GloveSaintModel", "hash", "J", false)
def tyX12 : Nat → FieldType := fun k => match k with
  | 0 => .array .int
  | 1 => .int
  | 2 => .int
  | 3 => .int
  | 4 => .int
  | 5 => .int
  | 6 => .int
  | 7 => .int
  | 8 => .array .int
  | 9 => .array .int
  | 10 => .array .int
  | 11 => .array .int
  | 12 => .array .int
  | 13 => .array .int
  | 14 => .array .int
  | 15 => .int
  | 16 => .array .int
  | 17 => .array .int
  | 18 => .int
  | 19 => .int
  | 20 => .int
  | 21 => .int
  | 22 => .int
  | 23 => .int
  | 24 => .int
  | 25 => .array .int
  | 26 => .array .int
  | 27 => .array .int
  | 28 => .array .int
  | _ => .long
theorem nmX12 : ∀ a, a < 30 → ∀ b, b < 30 → a ≠ b → (TX12 a).2.1 ≠ (TX12 b).2.1 := by decide +kernel
theorem tyX12_ok : ∀ k, k < 30 → parseFieldDescriptor (TX12 k).2.2.1 = some (tyX12 k) := by decide +kernel
abbrev cX12_init : ByteArray := prog_14_method_1_code
def yX12_init : MethodName := ⟨RX12, "<init>", "()V"⟩
abbrev cX12_in : ByteArray := prog_14_method_2_code
def yX12_in : MethodName := ⟨RX12, "in", "(JJJ)Z"⟩
abbrev cX12_copy : ByteArray := prog_14_method_3_code
def yX12_copy : MethodName := ⟨RX12, "copy", "([I[I)V"⟩
abbrev cX12_far : ByteArray := prog_14_method_4_code
def yX12_far : MethodName := ⟨RX12, "far", "(II)I"⟩
abbrev cX12_ones : ByteArray := prog_14_method_5_code
def yX12_ones : MethodName := ⟨RX12, "ones", "(I)I"⟩
abbrev cX12_common : ByteArray := prog_14_method_6_code
def yX12_common : MethodName := ⟨RX12, "common", "(II)I"⟩
abbrev cX12_letter : ByteArray := prog_14_method_7_code
def yX12_letter : MethodName := ⟨RX12, "letter", "(I)I"⟩
abbrev cX12_blank : ByteArray := prog_14_method_8_code
def yX12_blank : MethodName := ⟨RX12, "blank", "()I"⟩
abbrev cX12_kindBy : ByteArray := prog_14_method_9_code
def yX12_kindBy : MethodName := ⟨RX12, "kindBy", "(I)I"⟩
abbrev cX12_isGood : ByteArray := prog_14_method_10_code
def yX12_isGood : MethodName := ⟨RX12, "isGood", "(II)Z"⟩
abbrev cX12_faultOf : ByteArray := prog_14_method_11_code
def yX12_faultOf : MethodName := ⟨RX12, "faultOf", "()I"⟩
abbrev cX12_fault : ByteArray := prog_14_method_12_code
def yX12_fault : MethodName := ⟨RX12, "fault", "()I"⟩
abbrev cX12_drawer : ByteArray := prog_14_method_13_code
def yX12_drawer : MethodName := ⟨RX12, "drawer", "()I"⟩
abbrev cX12_lacks : ByteArray := prog_14_method_14_code
def yX12_lacks : MethodName := ⟨RX12, "lacks", "()Z"⟩
abbrev cX12_isSingle : ByteArray := prog_14_method_15_code
def yX12_isSingle : MethodName := ⟨RX12, "isSingle", "(I)Z"⟩
abbrev cX12_areTwo : ByteArray := prog_14_method_16_code
def yX12_areTwo : MethodName := ⟨RX12, "areTwo", "(II)Z"⟩
abbrev cX12_isGlove : ByteArray := prog_14_method_17_code
def yX12_isGlove : MethodName := ⟨RX12, "isGlove", "(I)Z"⟩
abbrev cX12_takes : ByteArray := prog_14_method_18_code
def yX12_takes : MethodName := ⟨RX12, "takes", "(II)Z"⟩
abbrev cX12_mayBe : ByteArray := prog_14_method_19_code
def yX12_mayBe : MethodName := ⟨RX12, "mayBe", "(II)Z"⟩
abbrev cX12_apartOf : ByteArray := prog_14_method_20_code
def yX12_apartOf : MethodName := ⟨RX12, "apartOf", "(II)I"⟩
abbrev cX12_likenessOf : ByteArray := prog_14_method_21_code
def yX12_likenessOf : MethodName := ⟨RX12, "likenessOf", "(II)I"⟩
abbrev cX12_prefers : ByteArray := prog_14_method_22_code
def yX12_prefers : MethodName := ⟨RX12, "prefers", "(III)Z"⟩
abbrev cX12_mayBits : ByteArray := prog_14_method_23_code
def yX12_mayBits : MethodName := ⟨RX12, "mayBits", "(I)I"⟩
abbrev cX12_preferredOf : ByteArray := prog_14_method_24_code
def yX12_preferredOf : MethodName := ⟨RX12, "preferredOf", "(I)I"⟩
abbrev cX12_seenFrom : ByteArray := prog_14_method_25_code
def yX12_seenFrom : MethodName := ⟨RX12, "seenFrom", "(II)I"⟩
abbrev cX12_spikeOf : ByteArray := prog_14_method_26_code
def yX12_spikeOf : MethodName := ⟨RX12, "spikeOf", "(II)I"⟩
abbrev cX12_tellSingle : ByteArray := prog_14_method_27_code
def yX12_tellSingle : MethodName := ⟨RX12, "tellSingle", "(II)I"⟩
abbrev cX12_single : ByteArray := prog_14_method_28_code
def yX12_single : MethodName := ⟨RX12, "single", "(II)I"⟩
abbrev cX12_as : ByteArray := prog_14_method_29_code
def yX12_as : MethodName := ⟨RX12, "as", "(II)I"⟩
abbrev cX12_likeness : ByteArray := prog_14_method_30_code
def yX12_likeness : MethodName := ⟨RX12, "likeness", "(II)I"⟩
abbrev cX12_apart : ByteArray := prog_14_method_31_code
def yX12_apart : MethodName := ⟨RX12, "apart", "(II)I"⟩
abbrev cX12_carry : ByteArray := prog_14_method_32_code
def yX12_carry : MethodName := ⟨RX12, "carry", "(II)I"⟩
abbrev cX12_bring : ByteArray := prog_14_method_33_code
def yX12_bring : MethodName := ⟨RX12, "bring", "(II)I"⟩
abbrev cX12_part : ByteArray := prog_14_method_34_code
def yX12_part : MethodName := ⟨RX12, "part", "(I)I"⟩
abbrev cX12_shrink : ByteArray := prog_14_method_35_code
def yX12_shrink : MethodName := ⟨RX12, "shrink", "(II)I"⟩
abbrev cX12_pairsOf : ByteArray := prog_14_method_36_code
def yX12_pairsOf : MethodName := ⟨RX12, "pairsOf", "([I)I"⟩
abbrev cX12_may : ByteArray := prog_14_method_37_code
def yX12_may : MethodName := ⟨RX12, "may", "()I"⟩
abbrev cX12_firstRow : ByteArray := prog_14_method_38_code
def yX12_firstRow : MethodName := ⟨RX12, "firstRow", "()V"⟩
abbrev cX12_nextRow : ByteArray := prog_14_method_39_code
def yX12_nextRow : MethodName := ⟨RX12, "nextRow", "()Z"⟩
abbrev cX12_likenessRow : ByteArray := prog_14_method_40_code
def yX12_likenessRow : MethodName := ⟨RX12, "likenessRow", "()I"⟩
abbrev cX12_milesRow : ByteArray := prog_14_method_41_code
def yX12_milesRow : MethodName := ⟨RX12, "milesRow", "()I"⟩
abbrev cX12_mostOf : ByteArray := prog_14_method_42_code
def yX12_mostOf : MethodName := ⟨RX12, "mostOf", "(I)I"⟩
abbrev cX12_isRowWhat : ByteArray := prog_14_method_43_code
def yX12_isRowWhat : MethodName := ⟨RX12, "isRowWhat", "(I)Z"⟩
abbrev cX12_most : ByteArray := prog_14_method_44_code
def yX12_most : MethodName := ⟨RX12, "most", "(I)I"⟩
abbrev cX12_bestOf : ByteArray := prog_14_method_45_code
def yX12_bestOf : MethodName := ⟨RX12, "bestOf", "(II)I"⟩
abbrev cX12_best : ByteArray := prog_14_method_46_code
def yX12_best : MethodName := ⟨RX12, "best", "(II)I"⟩
abbrev cX12_isStable : ByteArray := prog_14_method_47_code
def yX12_isStable : MethodName := ⟨RX12, "isStable", "()Z"⟩
abbrev cX12_stableOf : ByteArray := prog_14_method_48_code
def yX12_stableOf : MethodName := ⟨RX12, "stableOf", "(I)I"⟩
abbrev cX12_stable : ByteArray := prog_14_method_49_code
def yX12_stable : MethodName := ⟨RX12, "stable", "(I)I"⟩
abbrev cX12_happy : ByteArray := prog_14_method_50_code
def yX12_happy : MethodName := ⟨RX12, "happy", "(I)I"⟩
abbrev cX12_roundOf : ByteArray := prog_14_method_51_code
def yX12_roundOf : MethodName := ⟨RX12, "roundOf", "(I)I"⟩
abbrev cX12_round : ByteArray := prog_14_method_52_code
def yX12_round : MethodName := ⟨RX12, "round", "(I)I"⟩
abbrev cX12_oddsOf : ByteArray := prog_14_method_53_code
def yX12_oddsOf : MethodName := ⟨RX12, "oddsOf", "(I)I"⟩
abbrev cX12_odds : ByteArray := prog_14_method_54_code
def yX12_odds : MethodName := ⟨RX12, "odds", "(I)I"⟩
abbrev cX12_see : ByteArray := prog_14_method_55_code
def yX12_see : MethodName := ⟨RX12, "see", "(III)I"⟩
abbrev cX12_forget : ByteArray := prog_14_method_56_code
def yX12_forget : MethodName := ⟨RX12, "forget", "()I"⟩
abbrev cX12_likenessAs : ByteArray := prog_14_method_57_code
def yX12_likenessAs : MethodName := ⟨RX12, "likenessAs", "(III)I"⟩
abbrev cX12_sizesOf : ByteArray := prog_14_method_58_code
def yX12_sizesOf : MethodName := ⟨RX12, "sizesOf", "(I)I"⟩
abbrev cX12_lookOf : ByteArray := prog_14_method_59_code
def yX12_lookOf : MethodName := ⟨RX12, "lookOf", "(I)I"⟩
abbrev cX12_draw : ByteArray := prog_14_method_60_code
def yX12_draw : MethodName := ⟨RX12, "draw", "(I)I"⟩
abbrev cX12_winters : ByteArray := prog_14_method_61_code
def yX12_winters : MethodName := ⟨RX12, "winters", "(III)I"⟩
abbrev cX12_image : ByteArray := prog_14_method_62_code
def yX12_image : MethodName := ⟨RX12, "image", "()I"⟩
abbrev cX12_restore : ByteArray := prog_14_method_63_code
def yX12_restore : MethodName := ⟨RX12, "restore", "()I"⟩
abbrev cX12_likenessNow : ByteArray := prog_14_method_64_code
def yX12_likenessNow : MethodName := ⟨RX12, "likenessNow", "()I"⟩
abbrev cX12_mayTwos : ByteArray := prog_14_method_65_code
def yX12_mayTwos : MethodName := ⟨RX12, "mayTwos", "()I"⟩
abbrev cX12_aloneOf : ByteArray := prog_14_method_66_code
def yX12_aloneOf : MethodName := ⟨RX12, "aloneOf", "(I)I"⟩
abbrev cX12_countOf : ByteArray := prog_14_method_67_code
def yX12_countOf : MethodName := ⟨RX12, "countOf", "(I)I"⟩
abbrev cX12_count : ByteArray := prog_14_method_68_code
def yX12_count : MethodName := ⟨RX12, "count", "(I)I"⟩
abbrev cX12_say : ByteArray := prog_14_method_69_code
def yX12_say : MethodName := ⟨RX12, "say", "(J)V"⟩
abbrev cX12_sayDrawer : ByteArray := prog_14_method_70_code
def yX12_sayDrawer : MethodName := ⟨RX12, "sayDrawer", "()V"⟩
abbrev cX12_digest : ByteArray := prog_14_method_71_code
def yX12_digest : MethodName := ⟨RX12, "digest", "()J"⟩
def RJx145de : String := "java/io/Serializable"
def RJx9f9b0 : String := "java/lang/CharSequence"
def RJ11 : String := "java/lang/Character"
abbrev cJ11_isValidCodePoint_9a6ad : ByteArray := prog_15_method_11_code
def yJ11_isValidCodePoint_9a6ad : MethodName := ⟨RJ11, "isValidCodePoint", "(I)Z"⟩
abbrev cJ11_highSurrogate_5068e : ByteArray := prog_15_method_28_code
def yJ11_highSurrogate_5068e : MethodName := ⟨RJ11, "highSurrogate", "(I)C"⟩
abbrev cJ11_lowSurrogate_5068e : ByteArray := prog_15_method_29_code
def yJ11_lowSurrogate_5068e : MethodName := ⟨RJ11, "lowSurrogate", "(I)C"⟩
def RJxb160c : String := "java/lang/Comparable"
def RJ6 : String := "java/lang/Integer"
abbrev cJ6_bitCount_0f7a4 : ByteArray := prog_16_method_49_code
def yJ6_bitCount_0f7a4 : MethodName := ⟨RJ6, "bitCount", "(I)I"⟩
def RJ9 : String := "java/lang/Math"
abbrev cJ9_abs_0f7a4 : ByteArray := prog_17_method_59_code
def yJ9_abs_0f7a4 : MethodName := ⟨RJ9, "abs", "(I)I"⟩
abbrev cJ9_max_7cf53 : ByteArray := prog_17_method_65_code
def yJ9_max_7cf53 : MethodName := ⟨RJ9, "max", "(II)I"⟩
abbrev cJ9_min_7cf53 : ByteArray := prog_17_method_69_code
def yJ9_min_7cf53 : MethodName := ⟨RJ9, "min", "(II)I"⟩
def RJ0 : String := "java/lang/String"
abbrev cJ0_length_8abf5 : ByteArray := prog_18_method_54_code
def yJ0_length_8abf5 : MethodName := ⟨RJ0, "length", "()I"⟩
abbrev cJ0_indexOf_0f7a4 : ByteArray := prog_18_method_79_code
def yJ0_indexOf_0f7a4 : MethodName := ⟨RJ0, "indexOf", "(I)I"⟩
abbrev cJ0_indexOf_7cf53 : ByteArray := prog_18_method_80_code
def yJ0_indexOf_7cf53 : MethodName := ⟨RJ0, "indexOf", "(II)I"⟩
abbrev cJ0_coder_7d493 : ByteArray := prog_18_method_152_code
def yJ0_coder_7d493 : MethodName := ⟨RJ0, "coder", "()B"⟩
abbrev cJ0_isLatin1_aae02 : ByteArray := prog_18_method_154_code
def yJ0_isLatin1_aae02 : MethodName := ⟨RJ0, "isLatin1", "()Z"⟩
abbrev cJ0_checkBoundsBeginEnd_23922 : ByteArray := prog_18_method_158_code
def yJ0_checkBoundsBeginEnd_23922 : MethodName := ⟨RJ0, "checkBoundsBeginEnd", "(III)V"⟩
def RJ1 : String := "java/lang/StringLatin1"
abbrev cJ1_canEncode_9a6ad : ByteArray := prog_19_method_4_code
def yJ1_canEncode_9a6ad : MethodName := ⟨RJ1, "canEncode", "(I)Z"⟩
abbrev cJ1_indexOf_4cfef : ByteArray := prog_19_method_22_code
def yJ1_indexOf_4cfef : MethodName := ⟨RJ1, "indexOf", "([BIII)I"⟩
abbrev cJ1_indexOfChar_4cfef : ByteArray := prog_19_method_23_code
def yJ1_indexOfChar_4cfef : MethodName := ⟨RJ1, "indexOfChar", "([BIII)I"⟩
def RJ2 : String := "java/lang/StringUTF16"
abbrev cJ2_getChar_3b067 : ByteArray := prog_20_method_5_code
def yJ2_getChar_3b067 : MethodName := ⟨RJ2, "getChar", "([BI)C"⟩
abbrev cJ2_length_9d52b : ByteArray := prog_20_method_6_code
def yJ2_length_9d52b : MethodName := ⟨RJ2, "length", "([B)I"⟩
abbrev cJ2_indexOf_4cfef : ByteArray := prog_20_method_40_code
def yJ2_indexOf_4cfef : MethodName := ⟨RJ2, "indexOf", "([BIII)I"⟩
abbrev cJ2_indexOfChar_4cfef : ByteArray := prog_20_method_47_code
def yJ2_indexOfChar_4cfef : MethodName := ⟨RJ2, "indexOfChar", "([BIII)I"⟩
abbrev cJ2_indexOfCharUnsafe_4cfef : ByteArray := prog_20_method_48_code
def yJ2_indexOfCharUnsafe_4cfef : MethodName := ⟨RJ2, "indexOfCharUnsafe", "([BIII)I"⟩
abbrev cJ2_indexOfSupplementary_4cfef : ByteArray := prog_20_method_49_code
def yJ2_indexOfSupplementary_4cfef : MethodName := ⟨RJ2, "indexOfSupplementary", "([BIII)I"⟩
abbrev cJ2_checkBoundsBeginEnd_d044e : ByteArray := prog_20_method_93_code
def yJ2_checkBoundsBeginEnd_d044e : MethodName := ⟨RJ2, "checkBoundsBeginEnd", "(II[B)V"⟩
def RJ10 : String := "java/lang/System"
def RJxfd54e : String := "java/lang/constant/Constable"
def RJx3cf43 : String := "java/lang/constant/ConstantDesc"
def RJ7 : String := "java/util/Arrays"
abbrev cJ7_fill_53178 : ByteArray := prog_22_method_103_code
def yJ7_fill_53178 : MethodName := ⟨RJ7, "fill", "([II)V"⟩
def RJ3 : String := "jdk/internal/util/Preconditions"
abbrev cJ3_checkFromToIndex_8c36e : ByteArray := prog_23_method_12_code
def yJ3_checkFromToIndex_8c36e : MethodName := ⟨RJ3, "checkFromToIndex", "(IIILjava/util/function/BiFunction;)I"⟩
def RL : String := "GloveSaintLaw"
abbrev cL_law : ByteArray := code
def yL_law : MethodName := ⟨RL, "law", "([I)Z"⟩
abbrev vwCl : List vw_C := [(RX0, TX0, 8), (RX1, TX1, 4), (RX2, TX2, 9), (RX3, TX3, 4), (RX4, TX4, 2), (RX5, TX5, 4), (RX6, TX6, 12), (RX7, TX7, 5), (RX8, TX8, 4), (RX9, TX9, 4), (RX10, TX10, 4), (RX11, TX11, 6), (RX12, TX12, 30)]
end
section
theorem dX0_init_0 : decode cX0_init 0 = .ok (.aload_n 0, 1) := by decide +kernel
theorem dX0_init_1 : decode cX0_init 1 = .ok (.invokespecial 3, 3) := by decide +kernel
theorem dX0_init_4 : decode cX0_init 4 = .ok (.aload_n 0, 1) := by decide +kernel
theorem dX0_init_5 : decode cX0_init 5 = .ok (.bipush 7, 2) := by decide +kernel
theorem dX0_init_7 : decode cX0_init 7 = .ok (.anewarray 9, 3) := by decide +kernel
theorem dX0_init_10 : decode cX0_init 10 = .ok (.putfield 11, 3) := by decide +kernel
theorem dX0_init_13 : decode cX0_init 13 = .ok (.aload_n 0, 1) := by decide +kernel
theorem dX0_init_14 : decode cX0_init 14 = .ok (.new 17, 3) := by decide +kernel
theorem dX0_init_17 : decode cX0_init 17 = .ok (.dup, 1) := by decide +kernel
theorem dX0_init_18 : decode cX0_init 18 = .ok (.invokespecial 19, 3) := by decide +kernel
theorem dX0_init_21 : decode cX0_init 21 = .ok (.putfield 20, 3) := by decide +kernel
theorem dX0_init_24 : decode cX0_init 24 = .ok (.aload_n 0, 1) := by decide +kernel
theorem dX0_init_25 : decode cX0_init 25 = .ok (.iconst 0, 1) := by decide +kernel
theorem dX0_init_26 : decode cX0_init 26 = .ok (.putfield 24, 3) := by decide +kernel
theorem dX0_init_29 : decode cX0_init 29 = .ok (.aload_n 0, 1) := by decide +kernel
theorem dX0_init_30 : decode cX0_init 30 = .ok (.iconst 0, 1) := by decide +kernel
theorem dX0_init_31 : decode cX0_init 31 = .ok (.putfield 28, 3) := by decide +kernel
theorem dX0_init_34 : decode cX0_init 34 = .ok (.aload_n 0, 1) := by decide +kernel
theorem dX0_init_35 : decode cX0_init 35 = .ok (.iconst 0, 1) := by decide +kernel
theorem dX0_init_36 : decode cX0_init 36 = .ok (.putfield 31, 3) := by decide +kernel
theorem dX0_init_39 : decode cX0_init 39 = .ok (.aload_n 0, 1) := by decide +kernel
theorem dX0_init_40 : decode cX0_init 40 = .ok (.iconst 0, 1) := by decide +kernel
theorem dX0_init_41 : decode cX0_init 41 = .ok (.putfield 34, 3) := by decide +kernel
theorem dX0_init_44 : decode cX0_init 44 = .ok (.aload_n 0, 1) := by decide +kernel
theorem dX0_init_45 : decode cX0_init 45 = .ok (.iconst 0, 1) := by decide +kernel
theorem dX0_init_46 : decode cX0_init 46 = .ok (.putfield 37, 3) := by decide +kernel
theorem dX0_init_49 : decode cX0_init 49 = .ok (.aload_n 0, 1) := by decide +kernel
theorem dX0_init_50 : decode cX0_init 50 = .ok (.bipush 7, 2) := by decide +kernel
theorem dX0_init_52 : decode cX0_init 52 = .ok (.newarray .int, 2) := by decide +kernel
theorem dX0_init_54 : decode cX0_init 54 = .ok (.putfield 40, 3) := by decide +kernel
theorem dX0_init_57 : decode cX0_init 57 = .ok (.iconst 0, 1) := by decide +kernel
theorem dX0_init_58 : decode cX0_init 58 = .ok (.istore_n 1, 1) := by decide +kernel
theorem dX0_init_59 : decode cX0_init 59 = .ok (.iload_n 1, 1) := by decide +kernel
theorem dX0_init_60 : decode cX0_init 60 = .ok (.bipush 7, 2) := by decide +kernel
theorem dX0_init_62 : decode cX0_init 62 = .ok (.if_icmp .ge 25, 3) := by decide +kernel
theorem dX0_init_65 : decode cX0_init 65 = .ok (.aload_n 0, 1) := by decide +kernel
theorem dX0_init_66 : decode cX0_init 66 = .ok (.getfield 11, 3) := by decide +kernel
theorem dX0_init_69 : decode cX0_init 69 = .ok (.iload_n 1, 1) := by decide +kernel
theorem dX0_init_70 : decode cX0_init 70 = .ok (.new 9, 3) := by decide +kernel
theorem dX0_init_73 : decode cX0_init 73 = .ok (.dup, 1) := by decide +kernel
theorem dX0_init_74 : decode cX0_init 74 = .ok (.iconst 0, 1) := by decide +kernel
theorem dX0_init_75 : decode cX0_init 75 = .ok (.iconst 0, 1) := by decide +kernel
theorem dX0_init_76 : decode cX0_init 76 = .ok (.iconst 0, 1) := by decide +kernel
theorem dX0_init_77 : decode cX0_init 77 = .ok (.invokespecial 44, 3) := by decide +kernel
theorem dX0_init_80 : decode cX0_init 80 = .ok (.aastore, 1) := by decide +kernel
theorem dX0_init_81 : decode cX0_init 81 = .ok (.iinc 1 1, 3) := by decide +kernel
theorem dX0_init_84 : decode cX0_init 84 = .ok (.goto (-25), 3) := by decide +kernel
theorem dX0_init_87 : decode cX0_init 87 = .ok (.return_, 1) := by decide +kernel
theorem dX0_fillFrom_0 : decode cX0_fillFrom 0 = .ok (.aload_n 0, 1) := by decide +kernel
theorem dX0_fillFrom_1 : decode cX0_fillFrom 1 = .ok (.aload_n 1, 1) := by decide +kernel
theorem dX0_fillFrom_2 : decode cX0_fillFrom 2 = .ok (.invokevirtual 47, 3) := by decide +kernel
theorem dX0_fillFrom_5 : decode cX0_fillFrom 5 = .ok (.bipush 7, 2) := by decide +kernel
theorem dX0_fillFrom_7 : decode cX0_fillFrom 7 = .ok (.invokestatic 52, 3) := by decide +kernel
theorem dX0_fillFrom_10 : decode cX0_fillFrom 10 = .ok (.putfield 24, 3) := by decide +kernel
theorem dX0_fillFrom_13 : decode cX0_fillFrom 13 = .ok (.iconst 0, 1) := by decide +kernel
theorem dX0_fillFrom_14 : decode cX0_fillFrom 14 = .ok (.istore_n 2, 1) := by decide +kernel
theorem dX0_fillFrom_15 : decode cX0_fillFrom 15 = .ok (.iload_n 2, 1) := by decide +kernel
theorem dX0_fillFrom_16 : decode cX0_fillFrom 16 = .ok (.aload_n 0, 1) := by decide +kernel
theorem dX0_fillFrom_17 : decode cX0_fillFrom 17 = .ok (.getfield 24, 3) := by decide +kernel
theorem dX0_fillFrom_20 : decode cX0_fillFrom 20 = .ok (.if_icmp .ge 20, 3) := by decide +kernel
theorem dX0_fillFrom_23 : decode cX0_fillFrom 23 = .ok (.aload_n 0, 1) := by decide +kernel
theorem dX0_fillFrom_24 : decode cX0_fillFrom 24 = .ok (.getfield 11, 3) := by decide +kernel
theorem dX0_fillFrom_27 : decode cX0_fillFrom 27 = .ok (.iload_n 2, 1) := by decide +kernel
theorem dX0_fillFrom_28 : decode cX0_fillFrom 28 = .ok (.aload_n 1, 1) := by decide +kernel
theorem dX0_fillFrom_29 : decode cX0_fillFrom 29 = .ok (.iload_n 2, 1) := by decide +kernel
theorem dX0_fillFrom_30 : decode cX0_fillFrom 30 = .ok (.invokevirtual 58, 3) := by decide +kernel
theorem dX0_fillFrom_33 : decode cX0_fillFrom 33 = .ok (.aastore, 1) := by decide +kernel
theorem dX0_fillFrom_34 : decode cX0_fillFrom 34 = .ok (.iinc 2 1, 3) := by decide +kernel
theorem dX0_fillFrom_37 : decode cX0_fillFrom 37 = .ok (.goto (-22), 3) := by decide +kernel
theorem dX0_fillFrom_40 : decode cX0_fillFrom 40 = .ok (.aload_n 0, 1) := by decide +kernel
theorem dX0_fillFrom_41 : decode cX0_fillFrom 41 = .ok (.iconst 0, 1) := by decide +kernel
theorem dX0_fillFrom_42 : decode cX0_fillFrom 42 = .ok (.putfield 28, 3) := by decide +kernel
theorem dX0_fillFrom_45 : decode cX0_fillFrom 45 = .ok (.aload_n 0, 1) := by decide +kernel
theorem dX0_fillFrom_46 : decode cX0_fillFrom 46 = .ok (.iconst 0, 1) := by decide +kernel
theorem dX0_fillFrom_47 : decode cX0_fillFrom 47 = .ok (.putfield 31, 3) := by decide +kernel
theorem dX0_fillFrom_50 : decode cX0_fillFrom 50 = .ok (.aload_n 0, 1) := by decide +kernel
theorem dX0_fillFrom_51 : decode cX0_fillFrom 51 = .ok (.iconst 0, 1) := by decide +kernel
theorem dX0_fillFrom_52 : decode cX0_fillFrom 52 = .ok (.putfield 34, 3) := by decide +kernel
theorem dX0_fillFrom_55 : decode cX0_fillFrom 55 = .ok (.aload_n 0, 1) := by decide +kernel
theorem dX0_fillFrom_56 : decode cX0_fillFrom 56 = .ok (.iconst 0, 1) := by decide +kernel
theorem dX0_fillFrom_57 : decode cX0_fillFrom 57 = .ok (.putfield 37, 3) := by decide +kernel
theorem dX0_fillFrom_60 : decode cX0_fillFrom 60 = .ok (.aload_n 0, 1) := by decide +kernel
theorem dX0_fillFrom_61 : decode cX0_fillFrom 61 = .ok (.getfield 20, 3) := by decide +kernel
theorem dX0_fillFrom_64 : decode cX0_fillFrom 64 = .ok (.invokevirtual 62, 3) := by decide +kernel
theorem dX0_fillFrom_67 : decode cX0_fillFrom 67 = .ok (.return_, 1) := by decide +kernel
theorem dX0_isMissing_0 : decode cX0_isMissing 0 = .ok (.aload_n 0, 1) := by decide +kernel
theorem dX0_isMissing_1 : decode cX0_isMissing 1 = .ok (.getfield 24, 3) := by decide +kernel
theorem dX0_isMissing_4 : decode cX0_isMissing 4 = .ok (.ifCond .ne 7, 3) := by decide +kernel
theorem dX0_isMissing_7 : decode cX0_isMissing 7 = .ok (.iconst 1, 1) := by decide +kernel
theorem dX0_isMissing_8 : decode cX0_isMissing 8 = .ok (.goto 4, 3) := by decide +kernel
theorem dX0_isMissing_11 : decode cX0_isMissing 11 = .ok (.iconst 0, 1) := by decide +kernel
theorem dX0_isMissing_12 : decode cX0_isMissing 12 = .ok (.ireturn, 1) := by decide +kernel
theorem dX0_has_0 : decode cX0_has 0 = .ok (.iload_n 1, 1) := by decide +kernel
theorem dX0_has_1 : decode cX0_has 1 = .ok (.ifCond .lt 15, 3) := by decide +kernel
theorem dX0_has_4 : decode cX0_has 4 = .ok (.iload_n 1, 1) := by decide +kernel
theorem dX0_has_5 : decode cX0_has 5 = .ok (.aload_n 0, 1) := by decide +kernel
theorem dX0_has_6 : decode cX0_has 6 = .ok (.getfield 24, 3) := by decide +kernel
theorem dX0_has_9 : decode cX0_has 9 = .ok (.if_icmp .ge 7, 3) := by decide +kernel
theorem dX0_has_12 : decode cX0_has 12 = .ok (.iconst 1, 1) := by decide +kernel
theorem dX0_has_13 : decode cX0_has 13 = .ok (.goto 4, 3) := by decide +kernel
theorem dX0_has_16 : decode cX0_has 16 = .ok (.iconst 0, 1) := by decide +kernel
theorem dX0_has_17 : decode cX0_has 17 = .ok (.ireturn, 1) := by decide +kernel
theorem dX0_hasTwo_0 : decode cX0_hasTwo 0 = .ok (.aload_n 0, 1) := by decide +kernel
theorem dX0_hasTwo_1 : decode cX0_hasTwo 1 = .ok (.iload_n 1, 1) := by decide +kernel
theorem dX0_hasTwo_2 : decode cX0_hasTwo 2 = .ok (.invokevirtual 65, 3) := by decide +kernel
theorem dX0_hasTwo_5 : decode cX0_hasTwo 5 = .ok (.ifCond .eq 20, 3) := by decide +kernel
theorem dX0_hasTwo_8 : decode cX0_hasTwo 8 = .ok (.aload_n 0, 1) := by decide +kernel
theorem dX0_hasTwo_9 : decode cX0_hasTwo 9 = .ok (.iload_n 2, 1) := by decide +kernel
theorem dX0_hasTwo_10 : decode cX0_hasTwo 10 = .ok (.invokevirtual 65, 3) := by decide +kernel
theorem dX0_hasTwo_13 : decode cX0_hasTwo 13 = .ok (.ifCond .eq 12, 3) := by decide +kernel
theorem dX0_hasTwo_16 : decode cX0_hasTwo 16 = .ok (.iload_n 1, 1) := by decide +kernel
theorem dX0_hasTwo_17 : decode cX0_hasTwo 17 = .ok (.iload_n 2, 1) := by decide +kernel
theorem dX0_hasTwo_18 : decode cX0_hasTwo 18 = .ok (.if_icmp .eq 7, 3) := by decide +kernel
theorem dX0_hasTwo_21 : decode cX0_hasTwo 21 = .ok (.iconst 1, 1) := by decide +kernel
theorem dX0_hasTwo_22 : decode cX0_hasTwo 22 = .ok (.goto 4, 3) := by decide +kernel
theorem dX0_hasTwo_25 : decode cX0_hasTwo 25 = .ok (.iconst 0, 1) := by decide +kernel
theorem dX0_hasTwo_26 : decode cX0_hasTwo 26 = .ok (.ireturn, 1) := by decide +kernel
theorem dX0_isPaired_0 : decode cX0_isPaired 0 = .ok (.aload_n 0, 1) := by decide +kernel
theorem dX0_isPaired_1 : decode cX0_isPaired 1 = .ok (.aload_n 0, 1) := by decide +kernel
theorem dX0_isPaired_2 : decode cX0_isPaired 2 = .ok (.getfield 11, 3) := by decide +kernel
theorem dX0_isPaired_5 : decode cX0_isPaired 5 = .ok (.iload_n 1, 1) := by decide +kernel
theorem dX0_isPaired_6 : decode cX0_isPaired 6 = .ok (.aaload, 1) := by decide +kernel
theorem dX0_isPaired_7 : decode cX0_isPaired 7 = .ok (.getfield 69, 3) := by decide +kernel
theorem dX0_isPaired_10 : decode cX0_isPaired 10 = .ok (.invokevirtual 65, 3) := by decide +kernel
theorem dX0_isPaired_13 : decode cX0_isPaired 13 = .ok (.ireturn, 1) := by decide +kernel
theorem dX0_mayPair_0 : decode cX0_mayPair 0 = .ok (.aload_n 0, 1) := by decide +kernel
theorem dX0_mayPair_1 : decode cX0_mayPair 1 = .ok (.iload_n 1, 1) := by decide +kernel
theorem dX0_mayPair_2 : decode cX0_mayPair 2 = .ok (.iload_n 2, 1) := by decide +kernel
theorem dX0_mayPair_3 : decode cX0_mayPair 3 = .ok (.invokevirtual 72, 3) := by decide +kernel
theorem dX0_mayPair_6 : decode cX0_mayPair 6 = .ok (.iconst (-1), 1) := by decide +kernel
theorem dX0_mayPair_7 : decode cX0_mayPair 7 = .ok (.if_icmp .eq 7, 3) := by decide +kernel
theorem dX0_mayPair_10 : decode cX0_mayPair 10 = .ok (.iconst 1, 1) := by decide +kernel
theorem dX0_mayPair_11 : decode cX0_mayPair 11 = .ok (.goto 4, 3) := by decide +kernel
theorem dX0_mayPair_14 : decode cX0_mayPair 14 = .ok (.iconst 0, 1) := by decide +kernel
theorem dX0_mayPair_15 : decode cX0_mayPair 15 = .ok (.ireturn, 1) := by decide +kernel
theorem dX0_likenessOf_0 : decode cX0_likenessOf 0 = .ok (.aload_n 0, 1) := by decide +kernel
theorem dX0_likenessOf_1 : decode cX0_likenessOf 1 = .ok (.getfield 11, 3) := by decide +kernel
theorem dX0_likenessOf_4 : decode cX0_likenessOf 4 = .ok (.iload_n 1, 1) := by decide +kernel
theorem dX0_likenessOf_5 : decode cX0_likenessOf 5 = .ok (.aaload, 1) := by decide +kernel
theorem dX0_likenessOf_6 : decode cX0_likenessOf 6 = .ok (.astore_n 3, 1) := by decide +kernel
theorem dX0_likenessOf_7 : decode cX0_likenessOf 7 = .ok (.aload_n 0, 1) := by decide +kernel
theorem dX0_likenessOf_8 : decode cX0_likenessOf 8 = .ok (.getfield 11, 3) := by decide +kernel
theorem dX0_likenessOf_11 : decode cX0_likenessOf 11 = .ok (.iload_n 2, 1) := by decide +kernel
theorem dX0_likenessOf_12 : decode cX0_likenessOf 12 = .ok (.aaload, 1) := by decide +kernel
theorem dX0_likenessOf_13 : decode cX0_likenessOf 13 = .ok (.astore 4, 2) := by decide +kernel
theorem dX0_likenessOf_15 : decode cX0_likenessOf 15 = .ok (.iload_n 1, 1) := by decide +kernel
theorem dX0_likenessOf_16 : decode cX0_likenessOf 16 = .ok (.iload_n 2, 1) := by decide +kernel
theorem dX0_likenessOf_17 : decode cX0_likenessOf 17 = .ok (.if_icmp .eq 21, 3) := by decide +kernel
theorem dX0_likenessOf_20 : decode cX0_likenessOf 20 = .ok (.aload_n 3, 1) := by decide +kernel
theorem dX0_likenessOf_21 : decode cX0_likenessOf 21 = .ok (.aload 4, 2) := by decide +kernel
theorem dX0_likenessOf_23 : decode cX0_likenessOf 23 = .ok (.invokevirtual 75, 3) := by decide +kernel
theorem dX0_likenessOf_26 : decode cX0_likenessOf 26 = .ok (.ifCond .eq 12, 3) := by decide +kernel
theorem dX0_likenessOf_29 : decode cX0_likenessOf 29 = .ok (.aload 4, 2) := by decide +kernel
theorem dX0_likenessOf_31 : decode cX0_likenessOf 31 = .ok (.aload_n 3, 1) := by decide +kernel
theorem dX0_likenessOf_32 : decode cX0_likenessOf 32 = .ok (.invokevirtual 75, 3) := by decide +kernel
theorem dX0_likenessOf_35 : decode cX0_likenessOf 35 = .ok (.ifCond .ne 5, 3) := by decide +kernel
theorem dX0_likenessOf_38 : decode cX0_likenessOf 38 = .ok (.iconst (-1), 1) := by decide +kernel
theorem dX0_likenessOf_39 : decode cX0_likenessOf 39 = .ok (.ireturn, 1) := by decide +kernel
theorem dX0_likenessOf_40 : decode cX0_likenessOf 40 = .ok (.bipush 18, 2) := by decide +kernel
theorem dX0_likenessOf_42 : decode cX0_likenessOf 42 = .ok (.aload_n 3, 1) := by decide +kernel
theorem dX0_likenessOf_43 : decode cX0_likenessOf 43 = .ok (.aload 4, 2) := by decide +kernel
theorem dX0_likenessOf_45 : decode cX0_likenessOf 45 = .ok (.invokevirtual 79, 3) := by decide +kernel
theorem dX0_likenessOf_48 : decode cX0_likenessOf 48 = .ok (.isub, 1) := by decide +kernel
theorem dX0_likenessOf_49 : decode cX0_likenessOf 49 = .ok (.aload 4, 2) := by decide +kernel
theorem dX0_likenessOf_51 : decode cX0_likenessOf 51 = .ok (.aload_n 3, 1) := by decide +kernel
theorem dX0_likenessOf_52 : decode cX0_likenessOf 52 = .ok (.invokevirtual 79, 3) := by decide +kernel
theorem dX0_likenessOf_55 : decode cX0_likenessOf 55 = .ok (.isub, 1) := by decide +kernel
theorem dX0_likenessOf_56 : decode cX0_likenessOf 56 = .ok (.ireturn, 1) := by decide +kernel
theorem dX0_likenessAt_0 : decode cX0_likenessAt 0 = .ok (.aload_n 0, 1) := by decide +kernel
theorem dX0_likenessAt_1 : decode cX0_likenessAt 1 = .ok (.getfield 11, 3) := by decide +kernel
theorem dX0_likenessAt_4 : decode cX0_likenessAt 4 = .ok (.iload_n 1, 1) := by decide +kernel
theorem dX0_likenessAt_5 : decode cX0_likenessAt 5 = .ok (.aaload, 1) := by decide +kernel
theorem dX0_likenessAt_6 : decode cX0_likenessAt 6 = .ok (.getfield 83, 3) := by decide +kernel
theorem dX0_likenessAt_9 : decode cX0_likenessAt 9 = .ok (.istore 4, 2) := by decide +kernel
theorem dX0_likenessAt_11 : decode cX0_likenessAt 11 = .ok (.aload_n 0, 1) := by decide +kernel
theorem dX0_likenessAt_12 : decode cX0_likenessAt 12 = .ok (.getfield 11, 3) := by decide +kernel
theorem dX0_likenessAt_15 : decode cX0_likenessAt 15 = .ok (.iload_n 1, 1) := by decide +kernel
theorem dX0_likenessAt_16 : decode cX0_likenessAt 16 = .ok (.aaload, 1) := by decide +kernel
theorem dX0_likenessAt_17 : decode cX0_likenessAt 17 = .ok (.iload_n 2, 1) := by decide +kernel
theorem dX0_likenessAt_18 : decode cX0_likenessAt 18 = .ok (.putfield 83, 3) := by decide +kernel
theorem dX0_likenessAt_21 : decode cX0_likenessAt 21 = .ok (.aload_n 0, 1) := by decide +kernel
theorem dX0_likenessAt_22 : decode cX0_likenessAt 22 = .ok (.iload_n 1, 1) := by decide +kernel
theorem dX0_likenessAt_23 : decode cX0_likenessAt 23 = .ok (.iload_n 3, 1) := by decide +kernel
theorem dX0_likenessAt_24 : decode cX0_likenessAt 24 = .ok (.invokevirtual 72, 3) := by decide +kernel
theorem dX0_likenessAt_27 : decode cX0_likenessAt 27 = .ok (.istore 5, 2) := by decide +kernel
theorem dX0_likenessAt_29 : decode cX0_likenessAt 29 = .ok (.aload_n 0, 1) := by decide +kernel
theorem dX0_likenessAt_30 : decode cX0_likenessAt 30 = .ok (.getfield 11, 3) := by decide +kernel
theorem dX0_likenessAt_33 : decode cX0_likenessAt 33 = .ok (.iload_n 1, 1) := by decide +kernel
theorem dX0_likenessAt_34 : decode cX0_likenessAt 34 = .ok (.aaload, 1) := by decide +kernel
theorem dX0_likenessAt_35 : decode cX0_likenessAt 35 = .ok (.iload 4, 2) := by decide +kernel
theorem dX0_likenessAt_37 : decode cX0_likenessAt 37 = .ok (.putfield 83, 3) := by decide +kernel
theorem dX0_likenessAt_40 : decode cX0_likenessAt 40 = .ok (.iload 5, 2) := by decide +kernel
theorem dX0_likenessAt_42 : decode cX0_likenessAt 42 = .ok (.ireturn, 1) := by decide +kernel
theorem dX0_matchesOf_0 : decode cX0_matchesOf 0 = .ok (.iconst 0, 1) := by decide +kernel
theorem dX0_matchesOf_1 : decode cX0_matchesOf 1 = .ok (.istore_n 2, 1) := by decide +kernel
theorem dX0_matchesOf_2 : decode cX0_matchesOf 2 = .ok (.iconst 0, 1) := by decide +kernel
theorem dX0_matchesOf_3 : decode cX0_matchesOf 3 = .ok (.istore_n 3, 1) := by decide +kernel
theorem dX0_matchesOf_4 : decode cX0_matchesOf 4 = .ok (.iload_n 3, 1) := by decide +kernel
theorem dX0_matchesOf_5 : decode cX0_matchesOf 5 = .ok (.aload_n 0, 1) := by decide +kernel
theorem dX0_matchesOf_6 : decode cX0_matchesOf 6 = .ok (.getfield 24, 3) := by decide +kernel
theorem dX0_matchesOf_9 : decode cX0_matchesOf 9 = .ok (.if_icmp .ge 24, 3) := by decide +kernel
theorem dX0_matchesOf_12 : decode cX0_matchesOf 12 = .ok (.aload_n 0, 1) := by decide +kernel
theorem dX0_matchesOf_13 : decode cX0_matchesOf 13 = .ok (.iload_n 1, 1) := by decide +kernel
theorem dX0_matchesOf_14 : decode cX0_matchesOf 14 = .ok (.iload_n 3, 1) := by decide +kernel
theorem dX0_matchesOf_15 : decode cX0_matchesOf 15 = .ok (.invokevirtual 84, 3) := by decide +kernel
theorem dX0_matchesOf_18 : decode cX0_matchesOf 18 = .ok (.ifCond .eq 9, 3) := by decide +kernel
theorem dX0_matchesOf_21 : decode cX0_matchesOf 21 = .ok (.iload_n 2, 1) := by decide +kernel
theorem dX0_matchesOf_22 : decode cX0_matchesOf 22 = .ok (.iconst 1, 1) := by decide +kernel
theorem dX0_matchesOf_23 : decode cX0_matchesOf 23 = .ok (.iload_n 3, 1) := by decide +kernel
theorem dX0_matchesOf_24 : decode cX0_matchesOf 24 = .ok (.ishl, 1) := by decide +kernel
theorem dX0_matchesOf_25 : decode cX0_matchesOf 25 = .ok (.ior, 1) := by decide +kernel
theorem dX0_matchesOf_26 : decode cX0_matchesOf 26 = .ok (.istore_n 2, 1) := by decide +kernel
theorem dX0_matchesOf_27 : decode cX0_matchesOf 27 = .ok (.iinc 3 1, 3) := by decide +kernel
theorem dX0_matchesOf_30 : decode cX0_matchesOf 30 = .ok (.goto (-26), 3) := by decide +kernel
theorem dX0_matchesOf_33 : decode cX0_matchesOf 33 = .ok (.iload_n 2, 1) := by decide +kernel
theorem dX0_matchesOf_34 : decode cX0_matchesOf 34 = .ok (.ireturn, 1) := by decide +kernel
theorem dX0_favouriteOf_0 : decode cX0_favouriteOf 0 = .ok (.iconst (-1), 1) := by decide +kernel
theorem dX0_favouriteOf_1 : decode cX0_favouriteOf 1 = .ok (.istore_n 2, 1) := by decide +kernel
theorem dX0_favouriteOf_2 : decode cX0_favouriteOf 2 = .ok (.iconst (-1), 1) := by decide +kernel
theorem dX0_favouriteOf_3 : decode cX0_favouriteOf 3 = .ok (.istore_n 3, 1) := by decide +kernel
theorem dX0_favouriteOf_4 : decode cX0_favouriteOf 4 = .ok (.iconst 0, 1) := by decide +kernel
theorem dX0_favouriteOf_5 : decode cX0_favouriteOf 5 = .ok (.istore 4, 2) := by decide +kernel
theorem dX0_favouriteOf_7 : decode cX0_favouriteOf 7 = .ok (.iload 4, 2) := by decide +kernel
theorem dX0_favouriteOf_9 : decode cX0_favouriteOf 9 = .ok (.aload_n 0, 1) := by decide +kernel
theorem dX0_favouriteOf_10 : decode cX0_favouriteOf 10 = .ok (.getfield 24, 3) := by decide +kernel
theorem dX0_favouriteOf_13 : decode cX0_favouriteOf 13 = .ok (.if_icmp .ge 30, 3) := by decide +kernel
theorem dX0_favouriteOf_16 : decode cX0_favouriteOf 16 = .ok (.aload_n 0, 1) := by decide +kernel
theorem dX0_favouriteOf_17 : decode cX0_favouriteOf 17 = .ok (.iload_n 1, 1) := by decide +kernel
theorem dX0_favouriteOf_18 : decode cX0_favouriteOf 18 = .ok (.iload 4, 2) := by decide +kernel
theorem dX0_favouriteOf_20 : decode cX0_favouriteOf 20 = .ok (.invokevirtual 72, 3) := by decide +kernel
theorem dX0_favouriteOf_23 : decode cX0_favouriteOf 23 = .ok (.istore 5, 2) := by decide +kernel
theorem dX0_favouriteOf_25 : decode cX0_favouriteOf 25 = .ok (.iload 5, 2) := by decide +kernel
theorem dX0_favouriteOf_27 : decode cX0_favouriteOf 27 = .ok (.iload_n 3, 1) := by decide +kernel
theorem dX0_favouriteOf_28 : decode cX0_favouriteOf 28 = .ok (.if_icmp .le 9, 3) := by decide +kernel
theorem dX0_favouriteOf_31 : decode cX0_favouriteOf 31 = .ok (.iload 5, 2) := by decide +kernel
theorem dX0_favouriteOf_33 : decode cX0_favouriteOf 33 = .ok (.istore_n 3, 1) := by decide +kernel
theorem dX0_favouriteOf_34 : decode cX0_favouriteOf 34 = .ok (.iload 4, 2) := by decide +kernel
theorem dX0_favouriteOf_36 : decode cX0_favouriteOf 36 = .ok (.istore_n 2, 1) := by decide +kernel
theorem dX0_favouriteOf_37 : decode cX0_favouriteOf 37 = .ok (.iinc 4 1, 3) := by decide +kernel
theorem dX0_favouriteOf_40 : decode cX0_favouriteOf 40 = .ok (.goto (-33), 3) := by decide +kernel
theorem dX0_favouriteOf_43 : decode cX0_favouriteOf 43 = .ok (.iload_n 2, 1) := by decide +kernel
theorem dX0_favouriteOf_44 : decode cX0_favouriteOf 44 = .ok (.ireturn, 1) := by decide +kernel
theorem dX0_seersAt_0 : decode cX0_seersAt 0 = .ok (.iconst 0, 1) := by decide +kernel
theorem dX0_seersAt_1 : decode cX0_seersAt 1 = .ok (.istore_n 3, 1) := by decide +kernel
theorem dX0_seersAt_2 : decode cX0_seersAt 2 = .ok (.iconst 0, 1) := by decide +kernel
theorem dX0_seersAt_3 : decode cX0_seersAt 3 = .ok (.istore 4, 2) := by decide +kernel
theorem dX0_seersAt_5 : decode cX0_seersAt 5 = .ok (.iload 4, 2) := by decide +kernel
theorem dX0_seersAt_7 : decode cX0_seersAt 7 = .ok (.aload_n 0, 1) := by decide +kernel
theorem dX0_seersAt_8 : decode cX0_seersAt 8 = .ok (.getfield 24, 3) := by decide +kernel
theorem dX0_seersAt_11 : decode cX0_seersAt 11 = .ok (.if_icmp .ge 62, 3) := by decide +kernel
theorem dX0_seersAt_14 : decode cX0_seersAt 14 = .ok (.aload_n 0, 1) := by decide +kernel
theorem dX0_seersAt_15 : decode cX0_seersAt 15 = .ok (.getfield 11, 3) := by decide +kernel
theorem dX0_seersAt_18 : decode cX0_seersAt 18 = .ok (.iload 4, 2) := by decide +kernel
theorem dX0_seersAt_20 : decode cX0_seersAt 20 = .ok (.aaload, 1) := by decide +kernel
theorem dX0_seersAt_21 : decode cX0_seersAt 21 = .ok (.getfield 88, 3) := by decide +kernel
theorem dX0_seersAt_24 : decode cX0_seersAt 24 = .ok (.iload_n 2, 1) := by decide +kernel
theorem dX0_seersAt_25 : decode cX0_seersAt 25 = .ok (.isub, 1) := by decide +kernel
theorem dX0_seersAt_26 : decode cX0_seersAt 26 = .ok (.invokestatic 91, 3) := by decide +kernel
theorem dX0_seersAt_29 : decode cX0_seersAt 29 = .ok (.iconst 1, 1) := by decide +kernel
theorem dX0_seersAt_30 : decode cX0_seersAt 30 = .ok (.if_icmp .gt 7, 3) := by decide +kernel
theorem dX0_seersAt_33 : decode cX0_seersAt 33 = .ok (.iconst 1, 1) := by decide +kernel
theorem dX0_seersAt_34 : decode cX0_seersAt 34 = .ok (.goto 4, 3) := by decide +kernel
theorem dX0_seersAt_37 : decode cX0_seersAt 37 = .ok (.iconst 0, 1) := by decide +kernel
theorem dX0_seersAt_38 : decode cX0_seersAt 38 = .ok (.istore 5, 2) := by decide +kernel
theorem dX0_seersAt_40 : decode cX0_seersAt 40 = .ok (.iload 5, 2) := by decide +kernel
theorem dX0_seersAt_42 : decode cX0_seersAt 42 = .ok (.ifCond .eq 25, 3) := by decide +kernel
theorem dX0_seersAt_45 : decode cX0_seersAt 45 = .ok (.aload_n 0, 1) := by decide +kernel
theorem dX0_seersAt_46 : decode cX0_seersAt 46 = .ok (.iload 4, 2) := by decide +kernel
theorem dX0_seersAt_48 : decode cX0_seersAt 48 = .ok (.invokevirtual 95, 3) := by decide +kernel
theorem dX0_seersAt_51 : decode cX0_seersAt 51 = .ok (.ifCond .ne 16, 3) := by decide +kernel
theorem dX0_seersAt_54 : decode cX0_seersAt 54 = .ok (.aload_n 0, 1) := by decide +kernel
theorem dX0_seersAt_55 : decode cX0_seersAt 55 = .ok (.iload_n 1, 1) := by decide +kernel
theorem dX0_seersAt_56 : decode cX0_seersAt 56 = .ok (.iload 4, 2) := by decide +kernel
theorem dX0_seersAt_58 : decode cX0_seersAt 58 = .ok (.invokevirtual 84, 3) := by decide +kernel
theorem dX0_seersAt_61 : decode cX0_seersAt 61 = .ok (.ifCond .eq 6, 3) := by decide +kernel
theorem dX0_seersAt_64 : decode cX0_seersAt 64 = .ok (.iinc 3 1, 3) := by decide +kernel
theorem dX0_seersAt_67 : decode cX0_seersAt 67 = .ok (.iinc 4 1, 3) := by decide +kernel
theorem dX0_seersAt_70 : decode cX0_seersAt 70 = .ok (.goto (-65), 3) := by decide +kernel
theorem dX0_seersAt_73 : decode cX0_seersAt 73 = .ok (.iload_n 3, 1) := by decide +kernel
theorem dX0_seersAt_74 : decode cX0_seersAt 74 = .ok (.ireturn, 1) := by decide +kernel
theorem dX0_spikeOf_0 : decode cX0_spikeOf 0 = .ok (.iconst 0, 1) := by decide +kernel
theorem dX0_spikeOf_1 : decode cX0_spikeOf 1 = .ok (.istore_n 2, 1) := by decide +kernel
theorem dX0_spikeOf_2 : decode cX0_spikeOf 2 = .ok (.iconst (-1), 1) := by decide +kernel
theorem dX0_spikeOf_3 : decode cX0_spikeOf 3 = .ok (.istore_n 3, 1) := by decide +kernel
theorem dX0_spikeOf_4 : decode cX0_spikeOf 4 = .ok (.iconst 0, 1) := by decide +kernel
theorem dX0_spikeOf_5 : decode cX0_spikeOf 5 = .ok (.istore 4, 2) := by decide +kernel
theorem dX0_spikeOf_7 : decode cX0_spikeOf 7 = .ok (.iload 4, 2) := by decide +kernel
theorem dX0_spikeOf_9 : decode cX0_spikeOf 9 = .ok (.bipush 6, 2) := by decide +kernel
theorem dX0_spikeOf_11 : decode cX0_spikeOf 11 = .ok (.if_icmp .ge 30, 3) := by decide +kernel
theorem dX0_spikeOf_14 : decode cX0_spikeOf 14 = .ok (.aload_n 0, 1) := by decide +kernel
theorem dX0_spikeOf_15 : decode cX0_spikeOf 15 = .ok (.iload_n 1, 1) := by decide +kernel
theorem dX0_spikeOf_16 : decode cX0_spikeOf 16 = .ok (.iload 4, 2) := by decide +kernel
theorem dX0_spikeOf_18 : decode cX0_spikeOf 18 = .ok (.invokevirtual 98, 3) := by decide +kernel
theorem dX0_spikeOf_21 : decode cX0_spikeOf 21 = .ok (.istore 5, 2) := by decide +kernel
theorem dX0_spikeOf_23 : decode cX0_spikeOf 23 = .ok (.iload 5, 2) := by decide +kernel
theorem dX0_spikeOf_25 : decode cX0_spikeOf 25 = .ok (.iload_n 3, 1) := by decide +kernel
theorem dX0_spikeOf_26 : decode cX0_spikeOf 26 = .ok (.if_icmp .le 9, 3) := by decide +kernel
theorem dX0_spikeOf_29 : decode cX0_spikeOf 29 = .ok (.iload 5, 2) := by decide +kernel
theorem dX0_spikeOf_31 : decode cX0_spikeOf 31 = .ok (.istore_n 3, 1) := by decide +kernel
theorem dX0_spikeOf_32 : decode cX0_spikeOf 32 = .ok (.iload 4, 2) := by decide +kernel
theorem dX0_spikeOf_34 : decode cX0_spikeOf 34 = .ok (.istore_n 2, 1) := by decide +kernel
theorem dX0_spikeOf_35 : decode cX0_spikeOf 35 = .ok (.iinc 4 1, 3) := by decide +kernel
theorem dX0_spikeOf_38 : decode cX0_spikeOf 38 = .ok (.goto (-31), 3) := by decide +kernel
theorem dX0_spikeOf_41 : decode cX0_spikeOf 41 = .ok (.iload_n 2, 1) := by decide +kernel
theorem dX0_spikeOf_42 : decode cX0_spikeOf 42 = .ok (.ireturn, 1) := by decide +kernel
theorem dX0_carryTo_0 : decode cX0_carryTo 0 = .ok (.aload_n 0, 1) := by decide +kernel
theorem dX0_carryTo_1 : decode cX0_carryTo 1 = .ok (.getfield 11, 3) := by decide +kernel
theorem dX0_carryTo_4 : decode cX0_carryTo 4 = .ok (.iload_n 1, 1) := by decide +kernel
theorem dX0_carryTo_5 : decode cX0_carryTo 5 = .ok (.aaload, 1) := by decide +kernel
theorem dX0_carryTo_6 : decode cX0_carryTo 6 = .ok (.getfield 88, 3) := by decide +kernel
theorem dX0_carryTo_9 : decode cX0_carryTo 9 = .ok (.iload_n 2, 1) := by decide +kernel
theorem dX0_carryTo_10 : decode cX0_carryTo 10 = .ok (.isub, 1) := by decide +kernel
theorem dX0_carryTo_11 : decode cX0_carryTo 11 = .ok (.invokestatic 91, 3) := by decide +kernel
theorem dX0_carryTo_14 : decode cX0_carryTo 14 = .ok (.istore_n 3, 1) := by decide +kernel
theorem dX0_carryTo_15 : decode cX0_carryTo 15 = .ok (.aload_n 0, 1) := by decide +kernel
theorem dX0_carryTo_16 : decode cX0_carryTo 16 = .ok (.getfield 11, 3) := by decide +kernel
theorem dX0_carryTo_19 : decode cX0_carryTo 19 = .ok (.iload_n 1, 1) := by decide +kernel
theorem dX0_carryTo_20 : decode cX0_carryTo 20 = .ok (.aaload, 1) := by decide +kernel
theorem dX0_carryTo_21 : decode cX0_carryTo 21 = .ok (.iload_n 2, 1) := by decide +kernel
theorem dX0_carryTo_22 : decode cX0_carryTo 22 = .ok (.putfield 88, 3) := by decide +kernel
theorem dX0_carryTo_25 : decode cX0_carryTo 25 = .ok (.aload_n 0, 1) := by decide +kernel
theorem dX0_carryTo_26 : decode cX0_carryTo 26 = .ok (.dup, 1) := by decide +kernel
theorem dX0_carryTo_27 : decode cX0_carryTo 27 = .ok (.getfield 28, 3) := by decide +kernel
theorem dX0_carryTo_30 : decode cX0_carryTo 30 = .ok (.iload_n 3, 1) := by decide +kernel
theorem dX0_carryTo_31 : decode cX0_carryTo 31 = .ok (.iadd, 1) := by decide +kernel
theorem dX0_carryTo_32 : decode cX0_carryTo 32 = .ok (.putfield 28, 3) := by decide +kernel
theorem dX0_carryTo_35 : decode cX0_carryTo 35 = .ok (.iload_n 3, 1) := by decide +kernel
theorem dX0_carryTo_36 : decode cX0_carryTo 36 = .ok (.ireturn, 1) := by decide +kernel
theorem dX0_canMeet_0 : decode cX0_canMeet 0 = .ok (.aload_n 0, 1) := by decide +kernel
theorem dX0_canMeet_1 : decode cX0_canMeet 1 = .ok (.iload_n 1, 1) := by decide +kernel
theorem dX0_canMeet_2 : decode cX0_canMeet 2 = .ok (.invokevirtual 95, 3) := by decide +kernel
theorem dX0_canMeet_5 : decode cX0_canMeet 5 = .ok (.ifCond .ne 45, 3) := by decide +kernel
theorem dX0_canMeet_8 : decode cX0_canMeet 8 = .ok (.aload_n 0, 1) := by decide +kernel
theorem dX0_canMeet_9 : decode cX0_canMeet 9 = .ok (.iload_n 2, 1) := by decide +kernel
theorem dX0_canMeet_10 : decode cX0_canMeet 10 = .ok (.invokevirtual 95, 3) := by decide +kernel
theorem dX0_canMeet_13 : decode cX0_canMeet 13 = .ok (.ifCond .ne 37, 3) := by decide +kernel
theorem dX0_canMeet_16 : decode cX0_canMeet 16 = .ok (.aload_n 0, 1) := by decide +kernel
theorem dX0_canMeet_17 : decode cX0_canMeet 17 = .ok (.iload_n 1, 1) := by decide +kernel
theorem dX0_canMeet_18 : decode cX0_canMeet 18 = .ok (.iload_n 2, 1) := by decide +kernel
theorem dX0_canMeet_19 : decode cX0_canMeet 19 = .ok (.invokevirtual 84, 3) := by decide +kernel
theorem dX0_canMeet_22 : decode cX0_canMeet 22 = .ok (.ifCond .eq 28, 3) := by decide +kernel
theorem dX0_canMeet_25 : decode cX0_canMeet 25 = .ok (.aload_n 0, 1) := by decide +kernel
theorem dX0_canMeet_26 : decode cX0_canMeet 26 = .ok (.getfield 11, 3) := by decide +kernel
theorem dX0_canMeet_29 : decode cX0_canMeet 29 = .ok (.iload_n 1, 1) := by decide +kernel
theorem dX0_canMeet_30 : decode cX0_canMeet 30 = .ok (.aaload, 1) := by decide +kernel
theorem dX0_canMeet_31 : decode cX0_canMeet 31 = .ok (.getfield 88, 3) := by decide +kernel
theorem dX0_canMeet_34 : decode cX0_canMeet 34 = .ok (.aload_n 0, 1) := by decide +kernel
theorem dX0_canMeet_35 : decode cX0_canMeet 35 = .ok (.getfield 11, 3) := by decide +kernel
theorem dX0_canMeet_38 : decode cX0_canMeet 38 = .ok (.iload_n 2, 1) := by decide +kernel
theorem dX0_canMeet_39 : decode cX0_canMeet 39 = .ok (.aaload, 1) := by decide +kernel
theorem dX0_canMeet_40 : decode cX0_canMeet 40 = .ok (.getfield 88, 3) := by decide +kernel
theorem dX0_canMeet_43 : decode cX0_canMeet 43 = .ok (.if_icmp .ne 7, 3) := by decide +kernel
theorem dX0_canMeet_46 : decode cX0_canMeet 46 = .ok (.iconst 1, 1) := by decide +kernel
theorem dX0_canMeet_47 : decode cX0_canMeet 47 = .ok (.goto 4, 3) := by decide +kernel
theorem dX0_canMeet_50 : decode cX0_canMeet 50 = .ok (.iconst 0, 1) := by decide +kernel
theorem dX0_canMeet_51 : decode cX0_canMeet 51 = .ok (.ireturn, 1) := by decide +kernel
theorem dX0_pairUp_0 : decode cX0_pairUp 0 = .ok (.aload_n 0, 1) := by decide +kernel
theorem dX0_pairUp_1 : decode cX0_pairUp 1 = .ok (.getfield 11, 3) := by decide +kernel
theorem dX0_pairUp_4 : decode cX0_pairUp 4 = .ok (.iload_n 1, 1) := by decide +kernel
theorem dX0_pairUp_5 : decode cX0_pairUp 5 = .ok (.aaload, 1) := by decide +kernel
theorem dX0_pairUp_6 : decode cX0_pairUp 6 = .ok (.iload_n 2, 1) := by decide +kernel
theorem dX0_pairUp_7 : decode cX0_pairUp 7 = .ok (.putfield 69, 3) := by decide +kernel
theorem dX0_pairUp_10 : decode cX0_pairUp 10 = .ok (.aload_n 0, 1) := by decide +kernel
theorem dX0_pairUp_11 : decode cX0_pairUp 11 = .ok (.getfield 11, 3) := by decide +kernel
theorem dX0_pairUp_14 : decode cX0_pairUp 14 = .ok (.iload_n 2, 1) := by decide +kernel
theorem dX0_pairUp_15 : decode cX0_pairUp 15 = .ok (.aaload, 1) := by decide +kernel
theorem dX0_pairUp_16 : decode cX0_pairUp 16 = .ok (.iload_n 1, 1) := by decide +kernel
theorem dX0_pairUp_17 : decode cX0_pairUp 17 = .ok (.putfield 69, 3) := by decide +kernel
theorem dX0_pairUp_20 : decode cX0_pairUp 20 = .ok (.return_, 1) := by decide +kernel
theorem dX0_separate_0 : decode cX0_separate 0 = .ok (.aload_n 0, 1) := by decide +kernel
theorem dX0_separate_1 : decode cX0_separate 1 = .ok (.getfield 11, 3) := by decide +kernel
theorem dX0_separate_4 : decode cX0_separate 4 = .ok (.iload_n 1, 1) := by decide +kernel
theorem dX0_separate_5 : decode cX0_separate 5 = .ok (.aaload, 1) := by decide +kernel
theorem dX0_separate_6 : decode cX0_separate 6 = .ok (.getfield 69, 3) := by decide +kernel
theorem dX0_separate_9 : decode cX0_separate 9 = .ok (.istore_n 2, 1) := by decide +kernel
theorem dX0_separate_10 : decode cX0_separate 10 = .ok (.aload_n 0, 1) := by decide +kernel
theorem dX0_separate_11 : decode cX0_separate 11 = .ok (.iload_n 2, 1) := by decide +kernel
theorem dX0_separate_12 : decode cX0_separate 12 = .ok (.invokevirtual 65, 3) := by decide +kernel
theorem dX0_separate_15 : decode cX0_separate 15 = .ok (.ifCond .eq 13, 3) := by decide +kernel
theorem dX0_separate_18 : decode cX0_separate 18 = .ok (.aload_n 0, 1) := by decide +kernel
theorem dX0_separate_19 : decode cX0_separate 19 = .ok (.getfield 11, 3) := by decide +kernel
theorem dX0_separate_22 : decode cX0_separate 22 = .ok (.iload_n 2, 1) := by decide +kernel
theorem dX0_separate_23 : decode cX0_separate 23 = .ok (.aaload, 1) := by decide +kernel
theorem dX0_separate_24 : decode cX0_separate 24 = .ok (.iconst (-1), 1) := by decide +kernel
theorem dX0_separate_25 : decode cX0_separate 25 = .ok (.putfield 69, 3) := by decide +kernel
theorem dX0_separate_28 : decode cX0_separate 28 = .ok (.aload_n 0, 1) := by decide +kernel
theorem dX0_separate_29 : decode cX0_separate 29 = .ok (.getfield 11, 3) := by decide +kernel
theorem dX0_separate_32 : decode cX0_separate 32 = .ok (.iload_n 1, 1) := by decide +kernel
theorem dX0_separate_33 : decode cX0_separate 33 = .ok (.aaload, 1) := by decide +kernel
theorem dX0_separate_34 : decode cX0_separate 34 = .ok (.iconst (-1), 1) := by decide +kernel
theorem dX0_separate_35 : decode cX0_separate 35 = .ok (.putfield 69, 3) := by decide +kernel
theorem dX0_separate_38 : decode cX0_separate 38 = .ok (.return_, 1) := by decide +kernel
theorem dX0_swapMates_0 : decode cX0_swapMates 0 = .ok (.iconst 0, 1) := by decide +kernel
theorem dX0_swapMates_1 : decode cX0_swapMates 1 = .ok (.istore_n 1, 1) := by decide +kernel
theorem dX0_swapMates_2 : decode cX0_swapMates 2 = .ok (.iload_n 1, 1) := by decide +kernel
theorem dX0_swapMates_3 : decode cX0_swapMates 3 = .ok (.aload_n 0, 1) := by decide +kernel
theorem dX0_swapMates_4 : decode cX0_swapMates 4 = .ok (.getfield 24, 3) := by decide +kernel
theorem dX0_swapMates_7 : decode cX0_swapMates 7 = .ok (.if_icmp .ge 34, 3) := by decide +kernel
theorem dX0_swapMates_10 : decode cX0_swapMates 10 = .ok (.aload_n 0, 1) := by decide +kernel
theorem dX0_swapMates_11 : decode cX0_swapMates 11 = .ok (.getfield 40, 3) := by decide +kernel
theorem dX0_swapMates_14 : decode cX0_swapMates 14 = .ok (.iload_n 1, 1) := by decide +kernel
theorem dX0_swapMates_15 : decode cX0_swapMates 15 = .ok (.aload_n 0, 1) := by decide +kernel
theorem dX0_swapMates_16 : decode cX0_swapMates 16 = .ok (.getfield 11, 3) := by decide +kernel
theorem dX0_swapMates_19 : decode cX0_swapMates 19 = .ok (.iload_n 1, 1) := by decide +kernel
theorem dX0_swapMates_20 : decode cX0_swapMates 20 = .ok (.aaload, 1) := by decide +kernel
theorem dX0_swapMates_21 : decode cX0_swapMates 21 = .ok (.getfield 69, 3) := by decide +kernel
theorem dX0_swapMates_24 : decode cX0_swapMates 24 = .ok (.iastore, 1) := by decide +kernel
theorem dX0_swapMates_25 : decode cX0_swapMates 25 = .ok (.aload_n 0, 1) := by decide +kernel
theorem dX0_swapMates_26 : decode cX0_swapMates 26 = .ok (.getfield 11, 3) := by decide +kernel
theorem dX0_swapMates_29 : decode cX0_swapMates 29 = .ok (.iload_n 1, 1) := by decide +kernel
theorem dX0_swapMates_30 : decode cX0_swapMates 30 = .ok (.aaload, 1) := by decide +kernel
theorem dX0_swapMates_31 : decode cX0_swapMates 31 = .ok (.iconst (-1), 1) := by decide +kernel
theorem dX0_swapMates_32 : decode cX0_swapMates 32 = .ok (.putfield 69, 3) := by decide +kernel
theorem dX0_swapMates_35 : decode cX0_swapMates 35 = .ok (.iinc 1 1, 3) := by decide +kernel
theorem dX0_swapMates_38 : decode cX0_swapMates 38 = .ok (.goto (-36), 3) := by decide +kernel
theorem dX0_swapMates_41 : decode cX0_swapMates 41 = .ok (.iconst 0, 1) := by decide +kernel
theorem dX0_swapMates_42 : decode cX0_swapMates 42 = .ok (.istore_n 1, 1) := by decide +kernel
theorem dX0_swapMates_43 : decode cX0_swapMates 43 = .ok (.iload_n 1, 1) := by decide +kernel
theorem dX0_swapMates_44 : decode cX0_swapMates 44 = .ok (.aload_n 0, 1) := by decide +kernel
theorem dX0_swapMates_45 : decode cX0_swapMates 45 = .ok (.getfield 24, 3) := by decide +kernel
theorem dX0_swapMates_48 : decode cX0_swapMates 48 = .ok (.if_icmp .ge 38, 3) := by decide +kernel
theorem dX0_swapMates_51 : decode cX0_swapMates 51 = .ok (.aload_n 0, 1) := by decide +kernel
theorem dX0_swapMates_52 : decode cX0_swapMates 52 = .ok (.iload_n 1, 1) := by decide +kernel
theorem dX0_swapMates_53 : decode cX0_swapMates 53 = .ok (.invokevirtual 95, 3) := by decide +kernel
theorem dX0_swapMates_56 : decode cX0_swapMates 56 = .ok (.ifCond .eq 7, 3) := by decide +kernel
theorem dX0_swapMates_59 : decode cX0_swapMates 59 = .ok (.iconst (-1), 1) := by decide +kernel
theorem dX0_swapMates_60 : decode cX0_swapMates 60 = .ok (.goto 8, 3) := by decide +kernel
theorem dX0_swapMates_63 : decode cX0_swapMates 63 = .ok (.aload_n 0, 1) := by decide +kernel
theorem dX0_swapMates_64 : decode cX0_swapMates 64 = .ok (.iload_n 1, 1) := by decide +kernel
theorem dX0_swapMates_65 : decode cX0_swapMates 65 = .ok (.invokevirtual 101, 3) := by decide +kernel
theorem dX0_swapMates_68 : decode cX0_swapMates 68 = .ok (.istore_n 2, 1) := by decide +kernel
theorem dX0_swapMates_69 : decode cX0_swapMates 69 = .ok (.iload_n 2, 1) := by decide +kernel
theorem dX0_swapMates_70 : decode cX0_swapMates 70 = .ok (.iconst (-1), 1) := by decide +kernel
theorem dX0_swapMates_71 : decode cX0_swapMates 71 = .ok (.if_icmp .eq 9, 3) := by decide +kernel
theorem dX0_swapMates_74 : decode cX0_swapMates 74 = .ok (.aload_n 0, 1) := by decide +kernel
theorem dX0_swapMates_75 : decode cX0_swapMates 75 = .ok (.iload_n 1, 1) := by decide +kernel
theorem dX0_swapMates_76 : decode cX0_swapMates 76 = .ok (.iload_n 2, 1) := by decide +kernel
theorem dX0_swapMates_77 : decode cX0_swapMates 77 = .ok (.invokevirtual 104, 3) := by decide +kernel
theorem dX0_swapMates_80 : decode cX0_swapMates 80 = .ok (.iinc 1 1, 3) := by decide +kernel
theorem dX0_swapMates_83 : decode cX0_swapMates 83 = .ok (.goto (-40), 3) := by decide +kernel
theorem dX0_swapMates_86 : decode cX0_swapMates 86 = .ok (.return_, 1) := by decide +kernel
theorem dX0_newMateOf_0 : decode cX0_newMateOf 0 = .ok (.aload_n 0, 1) := by decide +kernel
theorem dX0_newMateOf_1 : decode cX0_newMateOf 1 = .ok (.getfield 40, 3) := by decide +kernel
theorem dX0_newMateOf_4 : decode cX0_newMateOf 4 = .ok (.iload_n 1, 1) := by decide +kernel
theorem dX0_newMateOf_5 : decode cX0_newMateOf 5 = .ok (.iaload, 1) := by decide +kernel
theorem dX0_newMateOf_6 : decode cX0_newMateOf 6 = .ok (.iconst (-1), 1) := by decide +kernel
theorem dX0_newMateOf_7 : decode cX0_newMateOf 7 = .ok (.if_icmp .ne 5, 3) := by decide +kernel
theorem dX0_newMateOf_10 : decode cX0_newMateOf 10 = .ok (.iconst (-1), 1) := by decide +kernel
theorem dX0_newMateOf_11 : decode cX0_newMateOf 11 = .ok (.ireturn, 1) := by decide +kernel
theorem dX0_newMateOf_12 : decode cX0_newMateOf 12 = .ok (.iconst 0, 1) := by decide +kernel
theorem dX0_newMateOf_13 : decode cX0_newMateOf 13 = .ok (.istore_n 2, 1) := by decide +kernel
theorem dX0_newMateOf_14 : decode cX0_newMateOf 14 = .ok (.iload_n 2, 1) := by decide +kernel
theorem dX0_newMateOf_15 : decode cX0_newMateOf 15 = .ok (.aload_n 0, 1) := by decide +kernel
theorem dX0_newMateOf_16 : decode cX0_newMateOf 16 = .ok (.getfield 24, 3) := by decide +kernel
theorem dX0_newMateOf_19 : decode cX0_newMateOf 19 = .ok (.if_icmp .ge 58, 3) := by decide +kernel
theorem dX0_newMateOf_22 : decode cX0_newMateOf 22 = .ok (.aload_n 0, 1) := by decide +kernel
theorem dX0_newMateOf_23 : decode cX0_newMateOf 23 = .ok (.getfield 40, 3) := by decide +kernel
theorem dX0_newMateOf_26 : decode cX0_newMateOf 26 = .ok (.iload_n 2, 1) := by decide +kernel
theorem dX0_newMateOf_27 : decode cX0_newMateOf 27 = .ok (.iaload, 1) := by decide +kernel
theorem dX0_newMateOf_28 : decode cX0_newMateOf 28 = .ok (.iconst (-1), 1) := by decide +kernel
theorem dX0_newMateOf_29 : decode cX0_newMateOf 29 = .ok (.if_icmp .eq 17, 3) := by decide +kernel
theorem dX0_newMateOf_32 : decode cX0_newMateOf 32 = .ok (.aload_n 0, 1) := by decide +kernel
theorem dX0_newMateOf_33 : decode cX0_newMateOf 33 = .ok (.getfield 40, 3) := by decide +kernel
theorem dX0_newMateOf_36 : decode cX0_newMateOf 36 = .ok (.iload_n 2, 1) := by decide +kernel
theorem dX0_newMateOf_37 : decode cX0_newMateOf 37 = .ok (.iaload, 1) := by decide +kernel
theorem dX0_newMateOf_38 : decode cX0_newMateOf 38 = .ok (.iload_n 1, 1) := by decide +kernel
theorem dX0_newMateOf_39 : decode cX0_newMateOf 39 = .ok (.if_icmp .eq 7, 3) := by decide +kernel
theorem dX0_newMateOf_42 : decode cX0_newMateOf 42 = .ok (.iconst 1, 1) := by decide +kernel
theorem dX0_newMateOf_43 : decode cX0_newMateOf 43 = .ok (.goto 4, 3) := by decide +kernel
theorem dX0_newMateOf_46 : decode cX0_newMateOf 46 = .ok (.iconst 0, 1) := by decide +kernel
theorem dX0_newMateOf_47 : decode cX0_newMateOf 47 = .ok (.istore_n 3, 1) := by decide +kernel
theorem dX0_newMateOf_48 : decode cX0_newMateOf 48 = .ok (.iload_n 3, 1) := by decide +kernel
theorem dX0_newMateOf_49 : decode cX0_newMateOf 49 = .ok (.ifCond .eq 22, 3) := by decide +kernel
theorem dX0_newMateOf_52 : decode cX0_newMateOf 52 = .ok (.aload_n 0, 1) := by decide +kernel
theorem dX0_newMateOf_53 : decode cX0_newMateOf 53 = .ok (.iload_n 2, 1) := by decide +kernel
theorem dX0_newMateOf_54 : decode cX0_newMateOf 54 = .ok (.invokevirtual 95, 3) := by decide +kernel
theorem dX0_newMateOf_57 : decode cX0_newMateOf 57 = .ok (.ifCond .ne 14, 3) := by decide +kernel
theorem dX0_newMateOf_60 : decode cX0_newMateOf 60 = .ok (.aload_n 0, 1) := by decide +kernel
theorem dX0_newMateOf_61 : decode cX0_newMateOf 61 = .ok (.iload_n 1, 1) := by decide +kernel
theorem dX0_newMateOf_62 : decode cX0_newMateOf 62 = .ok (.iload_n 2, 1) := by decide +kernel
theorem dX0_newMateOf_63 : decode cX0_newMateOf 63 = .ok (.invokevirtual 84, 3) := by decide +kernel
theorem dX0_newMateOf_66 : decode cX0_newMateOf 66 = .ok (.ifCond .eq 5, 3) := by decide +kernel
theorem dX0_newMateOf_69 : decode cX0_newMateOf 69 = .ok (.iload_n 2, 1) := by decide +kernel
theorem dX0_newMateOf_70 : decode cX0_newMateOf 70 = .ok (.ireturn, 1) := by decide +kernel
theorem dX0_newMateOf_71 : decode cX0_newMateOf 71 = .ok (.iinc 2 1, 3) := by decide +kernel
theorem dX0_newMateOf_74 : decode cX0_newMateOf 74 = .ok (.goto (-60), 3) := by decide +kernel
theorem dX0_newMateOf_77 : decode cX0_newMateOf 77 = .ok (.iconst (-1), 1) := by decide +kernel
theorem dX0_newMateOf_78 : decode cX0_newMateOf 78 = .ok (.ireturn, 1) := by decide +kernel
theorem dX0_roundFrom_0 : decode cX0_roundFrom 0 = .ok (.bipush 6, 2) := by decide +kernel
theorem dX0_roundFrom_2 : decode cX0_roundFrom 2 = .ok (.istore_n 2, 1) := by decide +kernel
theorem dX0_roundFrom_3 : decode cX0_roundFrom 3 = .ok (.iconst (-1), 1) := by decide +kernel
theorem dX0_roundFrom_4 : decode cX0_roundFrom 4 = .ok (.istore_n 3, 1) := by decide +kernel
theorem dX0_roundFrom_5 : decode cX0_roundFrom 5 = .ok (.iconst 0, 1) := by decide +kernel
theorem dX0_roundFrom_6 : decode cX0_roundFrom 6 = .ok (.istore 4, 2) := by decide +kernel
theorem dX0_roundFrom_8 : decode cX0_roundFrom 8 = .ok (.iload 4, 2) := by decide +kernel
theorem dX0_roundFrom_10 : decode cX0_roundFrom 10 = .ok (.aload_n 0, 1) := by decide +kernel
theorem dX0_roundFrom_11 : decode cX0_roundFrom 11 = .ok (.getfield 24, 3) := by decide +kernel
theorem dX0_roundFrom_14 : decode cX0_roundFrom 14 = .ok (.if_icmp .ge 48, 3) := by decide +kernel
theorem dX0_roundFrom_17 : decode cX0_roundFrom 17 = .ok (.aload_n 0, 1) := by decide +kernel
theorem dX0_roundFrom_18 : decode cX0_roundFrom 18 = .ok (.iload 4, 2) := by decide +kernel
theorem dX0_roundFrom_20 : decode cX0_roundFrom 20 = .ok (.invokevirtual 95, 3) := by decide +kernel
theorem dX0_roundFrom_23 : decode cX0_roundFrom 23 = .ok (.ifCond .ne 33, 3) := by decide +kernel
theorem dX0_roundFrom_26 : decode cX0_roundFrom 26 = .ok (.iload_n 2, 1) := by decide +kernel
theorem dX0_roundFrom_27 : decode cX0_roundFrom 27 = .ok (.aload_n 0, 1) := by decide +kernel
theorem dX0_roundFrom_28 : decode cX0_roundFrom 28 = .ok (.getfield 11, 3) := by decide +kernel
theorem dX0_roundFrom_31 : decode cX0_roundFrom 31 = .ok (.iload 4, 2) := by decide +kernel
theorem dX0_roundFrom_33 : decode cX0_roundFrom 33 = .ok (.aaload, 1) := by decide +kernel
theorem dX0_roundFrom_34 : decode cX0_roundFrom 34 = .ok (.getfield 88, 3) := by decide +kernel
theorem dX0_roundFrom_37 : decode cX0_roundFrom 37 = .ok (.invokestatic 52, 3) := by decide +kernel
theorem dX0_roundFrom_40 : decode cX0_roundFrom 40 = .ok (.istore_n 2, 1) := by decide +kernel
theorem dX0_roundFrom_41 : decode cX0_roundFrom 41 = .ok (.iload_n 3, 1) := by decide +kernel
theorem dX0_roundFrom_42 : decode cX0_roundFrom 42 = .ok (.aload_n 0, 1) := by decide +kernel
theorem dX0_roundFrom_43 : decode cX0_roundFrom 43 = .ok (.getfield 11, 3) := by decide +kernel
theorem dX0_roundFrom_46 : decode cX0_roundFrom 46 = .ok (.iload 4, 2) := by decide +kernel
theorem dX0_roundFrom_48 : decode cX0_roundFrom 48 = .ok (.aaload, 1) := by decide +kernel
theorem dX0_roundFrom_49 : decode cX0_roundFrom 49 = .ok (.getfield 88, 3) := by decide +kernel
theorem dX0_roundFrom_52 : decode cX0_roundFrom 52 = .ok (.invokestatic 108, 3) := by decide +kernel
theorem dX0_roundFrom_55 : decode cX0_roundFrom 55 = .ok (.istore_n 3, 1) := by decide +kernel
theorem dX0_roundFrom_56 : decode cX0_roundFrom 56 = .ok (.iinc 4 1, 3) := by decide +kernel
theorem dX0_roundFrom_59 : decode cX0_roundFrom 59 = .ok (.goto (-51), 3) := by decide +kernel
theorem dX0_roundFrom_62 : decode cX0_roundFrom 62 = .ok (.iload_n 3, 1) := by decide +kernel
theorem dX0_roundFrom_63 : decode cX0_roundFrom 63 = .ok (.iconst (-1), 1) := by decide +kernel
theorem dX0_roundFrom_64 : decode cX0_roundFrom 64 = .ok (.if_icmp .ne 5, 3) := by decide +kernel
theorem dX0_roundFrom_67 : decode cX0_roundFrom 67 = .ok (.iconst 0, 1) := by decide +kernel
theorem dX0_roundFrom_68 : decode cX0_roundFrom 68 = .ok (.ireturn, 1) := by decide +kernel
theorem dX0_roundFrom_69 : decode cX0_roundFrom 69 = .ok (.iconst 0, 1) := by decide +kernel
theorem dX0_roundFrom_70 : decode cX0_roundFrom 70 = .ok (.iload_n 1, 1) := by decide +kernel
theorem dX0_roundFrom_71 : decode cX0_roundFrom 71 = .ok (.iload_n 2, 1) := by decide +kernel
theorem dX0_roundFrom_72 : decode cX0_roundFrom 72 = .ok (.isub, 1) := by decide +kernel
theorem dX0_roundFrom_73 : decode cX0_roundFrom 73 = .ok (.invokestatic 108, 3) := by decide +kernel
theorem dX0_roundFrom_76 : decode cX0_roundFrom 76 = .ok (.istore 4, 2) := by decide +kernel
theorem dX0_roundFrom_78 : decode cX0_roundFrom 78 = .ok (.iconst 0, 1) := by decide +kernel
theorem dX0_roundFrom_79 : decode cX0_roundFrom 79 = .ok (.iload_n 3, 1) := by decide +kernel
theorem dX0_roundFrom_80 : decode cX0_roundFrom 80 = .ok (.iload_n 1, 1) := by decide +kernel
theorem dX0_roundFrom_81 : decode cX0_roundFrom 81 = .ok (.isub, 1) := by decide +kernel
theorem dX0_roundFrom_82 : decode cX0_roundFrom 82 = .ok (.invokestatic 108, 3) := by decide +kernel
theorem dX0_roundFrom_85 : decode cX0_roundFrom 85 = .ok (.istore 5, 2) := by decide +kernel
theorem dX0_roundFrom_87 : decode cX0_roundFrom 87 = .ok (.iload 4, 2) := by decide +kernel
theorem dX0_roundFrom_89 : decode cX0_roundFrom 89 = .ok (.iload 5, 2) := by decide +kernel
theorem dX0_roundFrom_91 : decode cX0_roundFrom 91 = .ok (.iadd, 1) := by decide +kernel
theorem dX0_roundFrom_92 : decode cX0_roundFrom 92 = .ok (.iload 4, 2) := by decide +kernel
theorem dX0_roundFrom_94 : decode cX0_roundFrom 94 = .ok (.iload 5, 2) := by decide +kernel
theorem dX0_roundFrom_96 : decode cX0_roundFrom 96 = .ok (.invokestatic 52, 3) := by decide +kernel
theorem dX0_roundFrom_99 : decode cX0_roundFrom 99 = .ok (.iadd, 1) := by decide +kernel
theorem dX0_roundFrom_100 : decode cX0_roundFrom 100 = .ok (.ireturn, 1) := by decide +kernel
theorem dX0_pairs_0 : decode cX0_pairs 0 = .ok (.iconst 0, 1) := by decide +kernel
theorem dX0_pairs_1 : decode cX0_pairs 1 = .ok (.istore_n 1, 1) := by decide +kernel
theorem dX0_pairs_2 : decode cX0_pairs 2 = .ok (.iconst 0, 1) := by decide +kernel
theorem dX0_pairs_3 : decode cX0_pairs 3 = .ok (.istore_n 2, 1) := by decide +kernel
theorem dX0_pairs_4 : decode cX0_pairs 4 = .ok (.iload_n 2, 1) := by decide +kernel
theorem dX0_pairs_5 : decode cX0_pairs 5 = .ok (.aload_n 0, 1) := by decide +kernel
theorem dX0_pairs_6 : decode cX0_pairs 6 = .ok (.getfield 24, 3) := by decide +kernel
theorem dX0_pairs_9 : decode cX0_pairs 9 = .ok (.if_icmp .ge 25, 3) := by decide +kernel
theorem dX0_pairs_12 : decode cX0_pairs 12 = .ok (.aload_n 0, 1) := by decide +kernel
theorem dX0_pairs_13 : decode cX0_pairs 13 = .ok (.getfield 11, 3) := by decide +kernel
theorem dX0_pairs_16 : decode cX0_pairs 16 = .ok (.iload_n 2, 1) := by decide +kernel
theorem dX0_pairs_17 : decode cX0_pairs 17 = .ok (.aaload, 1) := by decide +kernel
theorem dX0_pairs_18 : decode cX0_pairs 18 = .ok (.getfield 69, 3) := by decide +kernel
theorem dX0_pairs_21 : decode cX0_pairs 21 = .ok (.iload_n 2, 1) := by decide +kernel
theorem dX0_pairs_22 : decode cX0_pairs 22 = .ok (.if_icmp .le 6, 3) := by decide +kernel
theorem dX0_pairs_25 : decode cX0_pairs 25 = .ok (.iinc 1 1, 3) := by decide +kernel
theorem dX0_pairs_28 : decode cX0_pairs 28 = .ok (.iinc 2 1, 3) := by decide +kernel
theorem dX0_pairs_31 : decode cX0_pairs 31 = .ok (.goto (-27), 3) := by decide +kernel
theorem dX0_pairs_34 : decode cX0_pairs 34 = .ok (.iload_n 1, 1) := by decide +kernel
theorem dX0_pairs_35 : decode cX0_pairs 35 = .ok (.ireturn, 1) := by decide +kernel
theorem dX0_likenessOfPairs_0 : decode cX0_likenessOfPairs 0 = .ok (.iconst 0, 1) := by decide +kernel
theorem dX0_likenessOfPairs_1 : decode cX0_likenessOfPairs 1 = .ok (.istore_n 1, 1) := by decide +kernel
theorem dX0_likenessOfPairs_2 : decode cX0_likenessOfPairs 2 = .ok (.iconst 0, 1) := by decide +kernel
theorem dX0_likenessOfPairs_3 : decode cX0_likenessOfPairs 3 = .ok (.istore_n 2, 1) := by decide +kernel
theorem dX0_likenessOfPairs_4 : decode cX0_likenessOfPairs 4 = .ok (.iload_n 2, 1) := by decide +kernel
theorem dX0_likenessOfPairs_5 : decode cX0_likenessOfPairs 5 = .ok (.aload_n 0, 1) := by decide +kernel
theorem dX0_likenessOfPairs_6 : decode cX0_likenessOfPairs 6 = .ok (.getfield 24, 3) := by decide +kernel
theorem dX0_likenessOfPairs_9 : decode cX0_likenessOfPairs 9 = .ok (.if_icmp .ge 41, 3) := by decide +kernel
theorem dX0_likenessOfPairs_12 : decode cX0_likenessOfPairs 12 = .ok (.aload_n 0, 1) := by decide +kernel
theorem dX0_likenessOfPairs_13 : decode cX0_likenessOfPairs 13 = .ok (.getfield 11, 3) := by decide +kernel
theorem dX0_likenessOfPairs_16 : decode cX0_likenessOfPairs 16 = .ok (.iload_n 2, 1) := by decide +kernel
theorem dX0_likenessOfPairs_17 : decode cX0_likenessOfPairs 17 = .ok (.aaload, 1) := by decide +kernel
theorem dX0_likenessOfPairs_18 : decode cX0_likenessOfPairs 18 = .ok (.getfield 69, 3) := by decide +kernel
theorem dX0_likenessOfPairs_21 : decode cX0_likenessOfPairs 21 = .ok (.istore_n 3, 1) := by decide +kernel
theorem dX0_likenessOfPairs_22 : decode cX0_likenessOfPairs 22 = .ok (.aload_n 0, 1) := by decide +kernel
theorem dX0_likenessOfPairs_23 : decode cX0_likenessOfPairs 23 = .ok (.iload_n 3, 1) := by decide +kernel
theorem dX0_likenessOfPairs_24 : decode cX0_likenessOfPairs 24 = .ok (.invokevirtual 65, 3) := by decide +kernel
theorem dX0_likenessOfPairs_27 : decode cX0_likenessOfPairs 27 = .ok (.ifCond .eq 17, 3) := by decide +kernel
theorem dX0_likenessOfPairs_30 : decode cX0_likenessOfPairs 30 = .ok (.iload_n 3, 1) := by decide +kernel
theorem dX0_likenessOfPairs_31 : decode cX0_likenessOfPairs 31 = .ok (.iload_n 2, 1) := by decide +kernel
theorem dX0_likenessOfPairs_32 : decode cX0_likenessOfPairs 32 = .ok (.if_icmp .le 12, 3) := by decide +kernel
theorem dX0_likenessOfPairs_35 : decode cX0_likenessOfPairs 35 = .ok (.iload_n 1, 1) := by decide +kernel
theorem dX0_likenessOfPairs_36 : decode cX0_likenessOfPairs 36 = .ok (.aload_n 0, 1) := by decide +kernel
theorem dX0_likenessOfPairs_37 : decode cX0_likenessOfPairs 37 = .ok (.iload_n 2, 1) := by decide +kernel
theorem dX0_likenessOfPairs_38 : decode cX0_likenessOfPairs 38 = .ok (.iload_n 3, 1) := by decide +kernel
theorem dX0_likenessOfPairs_39 : decode cX0_likenessOfPairs 39 = .ok (.invokevirtual 72, 3) := by decide +kernel
theorem dX0_likenessOfPairs_42 : decode cX0_likenessOfPairs 42 = .ok (.iadd, 1) := by decide +kernel
theorem dX0_likenessOfPairs_43 : decode cX0_likenessOfPairs 43 = .ok (.istore_n 1, 1) := by decide +kernel
theorem dX0_likenessOfPairs_44 : decode cX0_likenessOfPairs 44 = .ok (.iinc 2 1, 3) := by decide +kernel
theorem dX0_likenessOfPairs_47 : decode cX0_likenessOfPairs 47 = .ok (.goto (-43), 3) := by decide +kernel
theorem dX0_likenessOfPairs_50 : decode cX0_likenessOfPairs 50 = .ok (.iload_n 1, 1) := by decide +kernel
theorem dX0_likenessOfPairs_51 : decode cX0_likenessOfPairs 51 = .ok (.ireturn, 1) := by decide +kernel
theorem dX0_matches_0 : decode cX0_matches 0 = .ok (.iconst 0, 1) := by decide +kernel
theorem dX0_matches_1 : decode cX0_matches 1 = .ok (.istore_n 1, 1) := by decide +kernel
theorem dX0_matches_2 : decode cX0_matches 2 = .ok (.iconst 0, 1) := by decide +kernel
theorem dX0_matches_3 : decode cX0_matches 3 = .ok (.istore_n 2, 1) := by decide +kernel
theorem dX0_matches_4 : decode cX0_matches 4 = .ok (.iload_n 2, 1) := by decide +kernel
theorem dX0_matches_5 : decode cX0_matches 5 = .ok (.aload_n 0, 1) := by decide +kernel
theorem dX0_matches_6 : decode cX0_matches 6 = .ok (.getfield 24, 3) := by decide +kernel
theorem dX0_matches_9 : decode cX0_matches 9 = .ok (.if_icmp .ge 20, 3) := by decide +kernel
theorem dX0_matches_12 : decode cX0_matches 12 = .ok (.iload_n 1, 1) := by decide +kernel
theorem dX0_matches_13 : decode cX0_matches 13 = .ok (.aload_n 0, 1) := by decide +kernel
theorem dX0_matches_14 : decode cX0_matches 14 = .ok (.iload_n 2, 1) := by decide +kernel
theorem dX0_matches_15 : decode cX0_matches 15 = .ok (.invokevirtual 111, 3) := by decide +kernel
theorem dX0_matches_18 : decode cX0_matches 18 = .ok (.invokestatic 114, 3) := by decide +kernel
theorem dX0_matches_21 : decode cX0_matches 21 = .ok (.iadd, 1) := by decide +kernel
theorem dX0_matches_22 : decode cX0_matches 22 = .ok (.istore_n 1, 1) := by decide +kernel
theorem dX0_matches_23 : decode cX0_matches 23 = .ok (.iinc 2 1, 3) := by decide +kernel
theorem dX0_matches_26 : decode cX0_matches 26 = .ok (.goto (-22), 3) := by decide +kernel
theorem dX0_matches_29 : decode cX0_matches 29 = .ok (.iload_n 1, 1) := by decide +kernel
theorem dX0_matches_30 : decode cX0_matches 30 = .ok (.iconst 2, 1) := by decide +kernel
theorem dX0_matches_31 : decode cX0_matches 31 = .ok (.idiv, 1) := by decide +kernel
theorem dX0_matches_32 : decode cX0_matches 32 = .ok (.ireturn, 1) := by decide +kernel
theorem dX0_matchesAlone_0 : decode cX0_matchesAlone 0 = .ok (.iconst 0, 1) := by decide +kernel
theorem dX0_matchesAlone_1 : decode cX0_matchesAlone 1 = .ok (.istore_n 1, 1) := by decide +kernel
theorem dX0_matchesAlone_2 : decode cX0_matchesAlone 2 = .ok (.iconst 0, 1) := by decide +kernel
theorem dX0_matchesAlone_3 : decode cX0_matchesAlone 3 = .ok (.istore_n 2, 1) := by decide +kernel
theorem dX0_matchesAlone_4 : decode cX0_matchesAlone 4 = .ok (.iload_n 2, 1) := by decide +kernel
theorem dX0_matchesAlone_5 : decode cX0_matchesAlone 5 = .ok (.aload_n 0, 1) := by decide +kernel
theorem dX0_matchesAlone_6 : decode cX0_matchesAlone 6 = .ok (.getfield 24, 3) := by decide +kernel
theorem dX0_matchesAlone_9 : decode cX0_matchesAlone 9 = .ok (.if_icmp .ge 55, 3) := by decide +kernel
theorem dX0_matchesAlone_12 : decode cX0_matchesAlone 12 = .ok (.iload_n 2, 1) := by decide +kernel
theorem dX0_matchesAlone_13 : decode cX0_matchesAlone 13 = .ok (.iconst 1, 1) := by decide +kernel
theorem dX0_matchesAlone_14 : decode cX0_matchesAlone 14 = .ok (.iadd, 1) := by decide +kernel
theorem dX0_matchesAlone_15 : decode cX0_matchesAlone 15 = .ok (.istore_n 3, 1) := by decide +kernel
theorem dX0_matchesAlone_16 : decode cX0_matchesAlone 16 = .ok (.iload_n 3, 1) := by decide +kernel
theorem dX0_matchesAlone_17 : decode cX0_matchesAlone 17 = .ok (.aload_n 0, 1) := by decide +kernel
theorem dX0_matchesAlone_18 : decode cX0_matchesAlone 18 = .ok (.getfield 24, 3) := by decide +kernel
theorem dX0_matchesAlone_21 : decode cX0_matchesAlone 21 = .ok (.if_icmp .ge 37, 3) := by decide +kernel
theorem dX0_matchesAlone_24 : decode cX0_matchesAlone 24 = .ok (.aload_n 0, 1) := by decide +kernel
theorem dX0_matchesAlone_25 : decode cX0_matchesAlone 25 = .ok (.iload_n 2, 1) := by decide +kernel
theorem dX0_matchesAlone_26 : decode cX0_matchesAlone 26 = .ok (.invokevirtual 95, 3) := by decide +kernel
theorem dX0_matchesAlone_29 : decode cX0_matchesAlone 29 = .ok (.ifCond .ne 23, 3) := by decide +kernel
theorem dX0_matchesAlone_32 : decode cX0_matchesAlone 32 = .ok (.aload_n 0, 1) := by decide +kernel
theorem dX0_matchesAlone_33 : decode cX0_matchesAlone 33 = .ok (.iload_n 3, 1) := by decide +kernel
theorem dX0_matchesAlone_34 : decode cX0_matchesAlone 34 = .ok (.invokevirtual 95, 3) := by decide +kernel
theorem dX0_matchesAlone_37 : decode cX0_matchesAlone 37 = .ok (.ifCond .ne 15, 3) := by decide +kernel
theorem dX0_matchesAlone_40 : decode cX0_matchesAlone 40 = .ok (.aload_n 0, 1) := by decide +kernel
theorem dX0_matchesAlone_41 : decode cX0_matchesAlone 41 = .ok (.iload_n 2, 1) := by decide +kernel
theorem dX0_matchesAlone_42 : decode cX0_matchesAlone 42 = .ok (.iload_n 3, 1) := by decide +kernel
theorem dX0_matchesAlone_43 : decode cX0_matchesAlone 43 = .ok (.invokevirtual 84, 3) := by decide +kernel
theorem dX0_matchesAlone_46 : decode cX0_matchesAlone 46 = .ok (.ifCond .eq 6, 3) := by decide +kernel
theorem dX0_matchesAlone_49 : decode cX0_matchesAlone 49 = .ok (.iinc 1 1, 3) := by decide +kernel
theorem dX0_matchesAlone_52 : decode cX0_matchesAlone 52 = .ok (.iinc 3 1, 3) := by decide +kernel
theorem dX0_matchesAlone_55 : decode cX0_matchesAlone 55 = .ok (.goto (-39), 3) := by decide +kernel
theorem dX0_matchesAlone_58 : decode cX0_matchesAlone 58 = .ok (.iinc 2 1, 3) := by decide +kernel
theorem dX0_matchesAlone_61 : decode cX0_matchesAlone 61 = .ok (.goto (-57), 3) := by decide +kernel
theorem dX0_matchesAlone_64 : decode cX0_matchesAlone 64 = .ok (.iload_n 1, 1) := by decide +kernel
theorem dX0_matchesAlone_65 : decode cX0_matchesAlone 65 = .ok (.ireturn, 1) := by decide +kernel
theorem dX0_twosAlone_0 : decode cX0_twosAlone 0 = .ok (.aload_n 0, 1) := by decide +kernel
theorem dX0_twosAlone_1 : decode cX0_twosAlone 1 = .ok (.iconst 0, 1) := by decide +kernel
theorem dX0_twosAlone_2 : decode cX0_twosAlone 2 = .ok (.invokevirtual 119, 3) := by decide +kernel
theorem dX0_twosAlone_5 : decode cX0_twosAlone 5 = .ok (.aload_n 0, 1) := by decide +kernel
theorem dX0_twosAlone_6 : decode cX0_twosAlone 6 = .ok (.iconst 1, 1) := by decide +kernel
theorem dX0_twosAlone_7 : decode cX0_twosAlone 7 = .ok (.invokevirtual 119, 3) := by decide +kernel
theorem dX0_twosAlone_10 : decode cX0_twosAlone 10 = .ok (.iadd, 1) := by decide +kernel
theorem dX0_twosAlone_11 : decode cX0_twosAlone 11 = .ok (.istore_n 1, 1) := by decide +kernel
theorem dX0_twosAlone_12 : decode cX0_twosAlone 12 = .ok (.iload_n 1, 1) := by decide +kernel
theorem dX0_twosAlone_13 : decode cX0_twosAlone 13 = .ok (.iload_n 1, 1) := by decide +kernel
theorem dX0_twosAlone_14 : decode cX0_twosAlone 14 = .ok (.iconst 1, 1) := by decide +kernel
theorem dX0_twosAlone_15 : decode cX0_twosAlone 15 = .ok (.isub, 1) := by decide +kernel
theorem dX0_twosAlone_16 : decode cX0_twosAlone 16 = .ok (.imul, 1) := by decide +kernel
theorem dX0_twosAlone_17 : decode cX0_twosAlone 17 = .ok (.iconst 2, 1) := by decide +kernel
theorem dX0_twosAlone_18 : decode cX0_twosAlone 18 = .ok (.idiv, 1) := by decide +kernel
theorem dX0_twosAlone_19 : decode cX0_twosAlone 19 = .ok (.ireturn, 1) := by decide +kernel
theorem dX0_alone_0 : decode cX0_alone 0 = .ok (.iconst 0, 1) := by decide +kernel
theorem dX0_alone_1 : decode cX0_alone 1 = .ok (.istore_n 2, 1) := by decide +kernel
theorem dX0_alone_2 : decode cX0_alone 2 = .ok (.iconst 0, 1) := by decide +kernel
theorem dX0_alone_3 : decode cX0_alone 3 = .ok (.istore_n 3, 1) := by decide +kernel
theorem dX0_alone_4 : decode cX0_alone 4 = .ok (.iload_n 3, 1) := by decide +kernel
theorem dX0_alone_5 : decode cX0_alone 5 = .ok (.aload_n 0, 1) := by decide +kernel
theorem dX0_alone_6 : decode cX0_alone 6 = .ok (.getfield 24, 3) := by decide +kernel
theorem dX0_alone_9 : decode cX0_alone 9 = .ok (.if_icmp .ge 33, 3) := by decide +kernel
theorem dX0_alone_12 : decode cX0_alone 12 = .ok (.aload_n 0, 1) := by decide +kernel
theorem dX0_alone_13 : decode cX0_alone 13 = .ok (.iload_n 3, 1) := by decide +kernel
theorem dX0_alone_14 : decode cX0_alone 14 = .ok (.invokevirtual 95, 3) := by decide +kernel
theorem dX0_alone_17 : decode cX0_alone 17 = .ok (.ifCond .ne 19, 3) := by decide +kernel
theorem dX0_alone_20 : decode cX0_alone 20 = .ok (.aload_n 0, 1) := by decide +kernel
theorem dX0_alone_21 : decode cX0_alone 21 = .ok (.getfield 11, 3) := by decide +kernel
theorem dX0_alone_24 : decode cX0_alone 24 = .ok (.iload_n 3, 1) := by decide +kernel
theorem dX0_alone_25 : decode cX0_alone 25 = .ok (.aaload, 1) := by decide +kernel
theorem dX0_alone_26 : decode cX0_alone 26 = .ok (.getfield 122, 3) := by decide +kernel
theorem dX0_alone_29 : decode cX0_alone 29 = .ok (.iload_n 1, 1) := by decide +kernel
theorem dX0_alone_30 : decode cX0_alone 30 = .ok (.if_icmp .ne 6, 3) := by decide +kernel
theorem dX0_alone_33 : decode cX0_alone 33 = .ok (.iinc 2 1, 3) := by decide +kernel
theorem dX0_alone_36 : decode cX0_alone 36 = .ok (.iinc 3 1, 3) := by decide +kernel
theorem dX0_alone_39 : decode cX0_alone 39 = .ok (.goto (-35), 3) := by decide +kernel
theorem dX0_alone_42 : decode cX0_alone 42 = .ok (.iload_n 2, 1) := by decide +kernel
theorem dX0_alone_43 : decode cX0_alone 43 = .ok (.ireturn, 1) := by decide +kernel
theorem dX1_init_0 : decode cX1_init 0 = .ok (.aload_n 0, 1) := by decide +kernel
theorem dX1_init_1 : decode cX1_init 1 = .ok (.iload_n 1, 1) := by decide +kernel
theorem dX1_init_2 : decode cX1_init 2 = .ok (.iload_n 2, 1) := by decide +kernel
theorem dX1_init_3 : decode cX1_init 3 = .ok (.iload_n 3, 1) := by decide +kernel
theorem dX1_init_4 : decode cX1_init 4 = .ok (.invokespecial 3, 3) := by decide +kernel
theorem dX1_init_7 : decode cX1_init 7 = .ok (.return_, 1) := by decide +kernel
theorem dX1_kindNumber_0 : decode cX1_kindNumber 0 = .ok (.iconst 1, 1) := by decide +kernel
theorem dX1_kindNumber_1 : decode cX1_kindNumber 1 = .ok (.ireturn, 1) := by decide +kernel
theorem dX1_takes_0 : decode cX1_takes 0 = .ok (.aload_n 0, 1) := by decide +kernel
theorem dX1_takes_1 : decode cX1_takes 1 = .ok (.getfield 9, 3) := by decide +kernel
theorem dX1_takes_4 : decode cX1_takes 4 = .ok (.aload_n 1, 1) := by decide +kernel
theorem dX1_takes_5 : decode cX1_takes 5 = .ok (.getfield 15, 3) := by decide +kernel
theorem dX1_takes_8 : decode cX1_takes 8 = .ok (.if_icmp .eq 14, 3) := by decide +kernel
theorem dX1_takes_11 : decode cX1_takes 11 = .ok (.aload_n 1, 1) := by decide +kernel
theorem dX1_takes_12 : decode cX1_takes 12 = .ok (.instanceof 10, 3) := by decide +kernel
theorem dX1_takes_15 : decode cX1_takes 15 = .ok (.ifCond .eq 7, 3) := by decide +kernel
theorem dX1_takes_18 : decode cX1_takes 18 = .ok (.iconst 1, 1) := by decide +kernel
theorem dX1_takes_19 : decode cX1_takes 19 = .ok (.goto 4, 3) := by decide +kernel
theorem dX1_takes_22 : decode cX1_takes 22 = .ok (.iconst 0, 1) := by decide +kernel
theorem dX1_takes_23 : decode cX1_takes 23 = .ok (.ireturn, 1) := by decide +kernel
theorem dX2_init_0 : decode cX2_init 0 = .ok (.aload_n 0, 1) := by decide +kernel
theorem dX2_init_1 : decode cX2_init 1 = .ok (.invokespecial 3, 3) := by decide +kernel
theorem dX2_init_4 : decode cX2_init 4 = .ok (.aload_n 0, 1) := by decide +kernel
theorem dX2_init_5 : decode cX2_init 5 = .ok (.iconst 0, 1) := by decide +kernel
theorem dX2_init_6 : decode cX2_init 6 = .ok (.putfield 9, 3) := by decide +kernel
theorem dX2_init_9 : decode cX2_init 9 = .ok (.aload_n 0, 1) := by decide +kernel
theorem dX2_init_10 : decode cX2_init 10 = .ok (.bipush 7, 2) := by decide +kernel
theorem dX2_init_12 : decode cX2_init 12 = .ok (.newarray .int, 2) := by decide +kernel
theorem dX2_init_14 : decode cX2_init 14 = .ok (.putfield 15, 3) := by decide +kernel
theorem dX2_init_17 : decode cX2_init 17 = .ok (.aload_n 0, 1) := by decide +kernel
theorem dX2_init_18 : decode cX2_init 18 = .ok (.bipush 7, 2) := by decide +kernel
theorem dX2_init_20 : decode cX2_init 20 = .ok (.newarray .int, 2) := by decide +kernel
theorem dX2_init_22 : decode cX2_init 22 = .ok (.putfield 19, 3) := by decide +kernel
theorem dX2_init_25 : decode cX2_init 25 = .ok (.aload_n 0, 1) := by decide +kernel
theorem dX2_init_26 : decode cX2_init 26 = .ok (.bipush 7, 2) := by decide +kernel
theorem dX2_init_28 : decode cX2_init 28 = .ok (.newarray .int, 2) := by decide +kernel
theorem dX2_init_30 : decode cX2_init 30 = .ok (.putfield 22, 3) := by decide +kernel
theorem dX2_init_33 : decode cX2_init 33 = .ok (.aload_n 0, 1) := by decide +kernel
theorem dX2_init_34 : decode cX2_init 34 = .ok (.new 25, 3) := by decide +kernel
theorem dX2_init_37 : decode cX2_init 37 = .ok (.dup, 1) := by decide +kernel
theorem dX2_init_38 : decode cX2_init 38 = .ok (.invokespecial 27, 3) := by decide +kernel
theorem dX2_init_41 : decode cX2_init 41 = .ok (.putfield 28, 3) := by decide +kernel
theorem dX2_init_44 : decode cX2_init 44 = .ok (.aload_n 0, 1) := by decide +kernel
theorem dX2_init_45 : decode cX2_init 45 = .ok (.iconst 0, 1) := by decide +kernel
theorem dX2_init_46 : decode cX2_init 46 = .ok (.putfield 32, 3) := by decide +kernel
theorem dX2_init_49 : decode cX2_init 49 = .ok (.aload_n 0, 1) := by decide +kernel
theorem dX2_init_50 : decode cX2_init 50 = .ok (.iconst 0, 1) := by decide +kernel
theorem dX2_init_51 : decode cX2_init 51 = .ok (.putfield 36, 3) := by decide +kernel
theorem dX2_init_54 : decode cX2_init 54 = .ok (.aload_n 0, 1) := by decide +kernel
theorem dX2_init_55 : decode cX2_init 55 = .ok (.iconst 0, 1) := by decide +kernel
theorem dX2_init_56 : decode cX2_init 56 = .ok (.putfield 39, 3) := by decide +kernel
theorem dX2_init_59 : decode cX2_init 59 = .ok (.aload_n 0, 1) := by decide +kernel
theorem dX2_init_60 : decode cX2_init 60 = .ok (.iconst 0, 1) := by decide +kernel
theorem dX2_init_61 : decode cX2_init 61 = .ok (.putfield 42, 3) := by decide +kernel
theorem dX2_init_64 : decode cX2_init 64 = .ok (.return_, 1) := by decide +kernel
theorem dX2_keep_0 : decode cX2_keep 0 = .ok (.iconst 0, 1) := by decide +kernel
theorem dX2_keep_1 : decode cX2_keep 1 = .ok (.istore_n 2, 1) := by decide +kernel
theorem dX2_keep_2 : decode cX2_keep 2 = .ok (.iload_n 2, 1) := by decide +kernel
theorem dX2_keep_3 : decode cX2_keep 3 = .ok (.aload_n 1, 1) := by decide +kernel
theorem dX2_keep_4 : decode cX2_keep 4 = .ok (.getfield 45, 3) := by decide +kernel
theorem dX2_keep_7 : decode cX2_keep 7 = .ok (.if_icmp .ge 54, 3) := by decide +kernel
theorem dX2_keep_10 : decode cX2_keep 10 = .ok (.aload_n 0, 1) := by decide +kernel
theorem dX2_keep_11 : decode cX2_keep 11 = .ok (.getfield 15, 3) := by decide +kernel
theorem dX2_keep_14 : decode cX2_keep 14 = .ok (.iload_n 2, 1) := by decide +kernel
theorem dX2_keep_15 : decode cX2_keep 15 = .ok (.aload_n 1, 1) := by decide +kernel
theorem dX2_keep_16 : decode cX2_keep 16 = .ok (.getfield 50, 3) := by decide +kernel
theorem dX2_keep_19 : decode cX2_keep 19 = .ok (.iload_n 2, 1) := by decide +kernel
theorem dX2_keep_20 : decode cX2_keep 20 = .ok (.aaload, 1) := by decide +kernel
theorem dX2_keep_21 : decode cX2_keep 21 = .ok (.getfield 54, 3) := by decide +kernel
theorem dX2_keep_24 : decode cX2_keep 24 = .ok (.iastore, 1) := by decide +kernel
theorem dX2_keep_25 : decode cX2_keep 25 = .ok (.aload_n 0, 1) := by decide +kernel
theorem dX2_keep_26 : decode cX2_keep 26 = .ok (.getfield 19, 3) := by decide +kernel
theorem dX2_keep_29 : decode cX2_keep 29 = .ok (.iload_n 2, 1) := by decide +kernel
theorem dX2_keep_30 : decode cX2_keep 30 = .ok (.aload_n 1, 1) := by decide +kernel
theorem dX2_keep_31 : decode cX2_keep 31 = .ok (.getfield 50, 3) := by decide +kernel
theorem dX2_keep_34 : decode cX2_keep 34 = .ok (.iload_n 2, 1) := by decide +kernel
theorem dX2_keep_35 : decode cX2_keep 35 = .ok (.aaload, 1) := by decide +kernel
theorem dX2_keep_36 : decode cX2_keep 36 = .ok (.getfield 57, 3) := by decide +kernel
theorem dX2_keep_39 : decode cX2_keep 39 = .ok (.iastore, 1) := by decide +kernel
theorem dX2_keep_40 : decode cX2_keep 40 = .ok (.aload_n 0, 1) := by decide +kernel
theorem dX2_keep_41 : decode cX2_keep 41 = .ok (.getfield 22, 3) := by decide +kernel
theorem dX2_keep_44 : decode cX2_keep 44 = .ok (.iload_n 2, 1) := by decide +kernel
theorem dX2_keep_45 : decode cX2_keep 45 = .ok (.aload_n 1, 1) := by decide +kernel
theorem dX2_keep_46 : decode cX2_keep 46 = .ok (.getfield 50, 3) := by decide +kernel
theorem dX2_keep_49 : decode cX2_keep 49 = .ok (.iload_n 2, 1) := by decide +kernel
theorem dX2_keep_50 : decode cX2_keep 50 = .ok (.aaload, 1) := by decide +kernel
theorem dX2_keep_51 : decode cX2_keep 51 = .ok (.getfield 60, 3) := by decide +kernel
theorem dX2_keep_54 : decode cX2_keep 54 = .ok (.iastore, 1) := by decide +kernel
theorem dX2_keep_55 : decode cX2_keep 55 = .ok (.iinc 2 1, 3) := by decide +kernel
theorem dX2_keep_58 : decode cX2_keep 58 = .ok (.goto (-56), 3) := by decide +kernel
theorem dX2_keep_61 : decode cX2_keep 61 = .ok (.aload_n 0, 1) := by decide +kernel
theorem dX2_keep_62 : decode cX2_keep 62 = .ok (.getfield 28, 3) := by decide +kernel
theorem dX2_keep_65 : decode cX2_keep 65 = .ok (.aload_n 1, 1) := by decide +kernel
theorem dX2_keep_66 : decode cX2_keep 66 = .ok (.getfield 63, 3) := by decide +kernel
theorem dX2_keep_69 : decode cX2_keep 69 = .ok (.invokevirtual 64, 3) := by decide +kernel
theorem dX2_keep_72 : decode cX2_keep 72 = .ok (.aload_n 0, 1) := by decide +kernel
theorem dX2_keep_73 : decode cX2_keep 73 = .ok (.aload_n 1, 1) := by decide +kernel
theorem dX2_keep_74 : decode cX2_keep 74 = .ok (.getfield 68, 3) := by decide +kernel
theorem dX2_keep_77 : decode cX2_keep 77 = .ok (.putfield 32, 3) := by decide +kernel
theorem dX2_keep_80 : decode cX2_keep 80 = .ok (.aload_n 0, 1) := by decide +kernel
theorem dX2_keep_81 : decode cX2_keep 81 = .ok (.aload_n 1, 1) := by decide +kernel
theorem dX2_keep_82 : decode cX2_keep 82 = .ok (.getfield 69, 3) := by decide +kernel
theorem dX2_keep_85 : decode cX2_keep 85 = .ok (.putfield 36, 3) := by decide +kernel
theorem dX2_keep_88 : decode cX2_keep 88 = .ok (.aload_n 0, 1) := by decide +kernel
theorem dX2_keep_89 : decode cX2_keep 89 = .ok (.aload_n 1, 1) := by decide +kernel
theorem dX2_keep_90 : decode cX2_keep 90 = .ok (.getfield 70, 3) := by decide +kernel
theorem dX2_keep_93 : decode cX2_keep 93 = .ok (.putfield 39, 3) := by decide +kernel
theorem dX2_keep_96 : decode cX2_keep 96 = .ok (.aload_n 0, 1) := by decide +kernel
theorem dX2_keep_97 : decode cX2_keep 97 = .ok (.aload_n 1, 1) := by decide +kernel
theorem dX2_keep_98 : decode cX2_keep 98 = .ok (.getfield 71, 3) := by decide +kernel
theorem dX2_keep_101 : decode cX2_keep 101 = .ok (.putfield 42, 3) := by decide +kernel
theorem dX2_keep_104 : decode cX2_keep 104 = .ok (.aload_n 0, 1) := by decide +kernel
theorem dX2_keep_105 : decode cX2_keep 105 = .ok (.iconst 1, 1) := by decide +kernel
theorem dX2_keep_106 : decode cX2_keep 106 = .ok (.putfield 9, 3) := by decide +kernel
theorem dX2_keep_109 : decode cX2_keep 109 = .ok (.return_, 1) := by decide +kernel
theorem dX2_giveBack_0 : decode cX2_giveBack 0 = .ok (.iconst 0, 1) := by decide +kernel
theorem dX2_giveBack_1 : decode cX2_giveBack 1 = .ok (.istore_n 2, 1) := by decide +kernel
theorem dX2_giveBack_2 : decode cX2_giveBack 2 = .ok (.iload_n 2, 1) := by decide +kernel
theorem dX2_giveBack_3 : decode cX2_giveBack 3 = .ok (.aload_n 1, 1) := by decide +kernel
theorem dX2_giveBack_4 : decode cX2_giveBack 4 = .ok (.getfield 45, 3) := by decide +kernel
theorem dX2_giveBack_7 : decode cX2_giveBack 7 = .ok (.if_icmp .ge 54, 3) := by decide +kernel
theorem dX2_giveBack_10 : decode cX2_giveBack 10 = .ok (.aload_n 1, 1) := by decide +kernel
theorem dX2_giveBack_11 : decode cX2_giveBack 11 = .ok (.getfield 50, 3) := by decide +kernel
theorem dX2_giveBack_14 : decode cX2_giveBack 14 = .ok (.iload_n 2, 1) := by decide +kernel
theorem dX2_giveBack_15 : decode cX2_giveBack 15 = .ok (.aaload, 1) := by decide +kernel
theorem dX2_giveBack_16 : decode cX2_giveBack 16 = .ok (.aload_n 0, 1) := by decide +kernel
theorem dX2_giveBack_17 : decode cX2_giveBack 17 = .ok (.getfield 15, 3) := by decide +kernel
theorem dX2_giveBack_20 : decode cX2_giveBack 20 = .ok (.iload_n 2, 1) := by decide +kernel
theorem dX2_giveBack_21 : decode cX2_giveBack 21 = .ok (.iaload, 1) := by decide +kernel
theorem dX2_giveBack_22 : decode cX2_giveBack 22 = .ok (.putfield 54, 3) := by decide +kernel
theorem dX2_giveBack_25 : decode cX2_giveBack 25 = .ok (.aload_n 1, 1) := by decide +kernel
theorem dX2_giveBack_26 : decode cX2_giveBack 26 = .ok (.getfield 50, 3) := by decide +kernel
theorem dX2_giveBack_29 : decode cX2_giveBack 29 = .ok (.iload_n 2, 1) := by decide +kernel
theorem dX2_giveBack_30 : decode cX2_giveBack 30 = .ok (.aaload, 1) := by decide +kernel
theorem dX2_giveBack_31 : decode cX2_giveBack 31 = .ok (.aload_n 0, 1) := by decide +kernel
theorem dX2_giveBack_32 : decode cX2_giveBack 32 = .ok (.getfield 19, 3) := by decide +kernel
theorem dX2_giveBack_35 : decode cX2_giveBack 35 = .ok (.iload_n 2, 1) := by decide +kernel
theorem dX2_giveBack_36 : decode cX2_giveBack 36 = .ok (.iaload, 1) := by decide +kernel
theorem dX2_giveBack_37 : decode cX2_giveBack 37 = .ok (.putfield 57, 3) := by decide +kernel
theorem dX2_giveBack_40 : decode cX2_giveBack 40 = .ok (.aload_n 1, 1) := by decide +kernel
theorem dX2_giveBack_41 : decode cX2_giveBack 41 = .ok (.getfield 50, 3) := by decide +kernel
theorem dX2_giveBack_44 : decode cX2_giveBack 44 = .ok (.iload_n 2, 1) := by decide +kernel
theorem dX2_giveBack_45 : decode cX2_giveBack 45 = .ok (.aaload, 1) := by decide +kernel
theorem dX2_giveBack_46 : decode cX2_giveBack 46 = .ok (.aload_n 0, 1) := by decide +kernel
theorem dX2_giveBack_47 : decode cX2_giveBack 47 = .ok (.getfield 22, 3) := by decide +kernel
theorem dX2_giveBack_50 : decode cX2_giveBack 50 = .ok (.iload_n 2, 1) := by decide +kernel
theorem dX2_giveBack_51 : decode cX2_giveBack 51 = .ok (.iaload, 1) := by decide +kernel
theorem dX2_giveBack_52 : decode cX2_giveBack 52 = .ok (.putfield 60, 3) := by decide +kernel
theorem dX2_giveBack_55 : decode cX2_giveBack 55 = .ok (.iinc 2 1, 3) := by decide +kernel
theorem dX2_giveBack_58 : decode cX2_giveBack 58 = .ok (.goto (-56), 3) := by decide +kernel
theorem dX2_giveBack_61 : decode cX2_giveBack 61 = .ok (.aload_n 1, 1) := by decide +kernel
theorem dX2_giveBack_62 : decode cX2_giveBack 62 = .ok (.getfield 63, 3) := by decide +kernel
theorem dX2_giveBack_65 : decode cX2_giveBack 65 = .ok (.aload_n 0, 1) := by decide +kernel
theorem dX2_giveBack_66 : decode cX2_giveBack 66 = .ok (.getfield 28, 3) := by decide +kernel
theorem dX2_giveBack_69 : decode cX2_giveBack 69 = .ok (.invokevirtual 64, 3) := by decide +kernel
theorem dX2_giveBack_72 : decode cX2_giveBack 72 = .ok (.aload_n 1, 1) := by decide +kernel
theorem dX2_giveBack_73 : decode cX2_giveBack 73 = .ok (.aload_n 0, 1) := by decide +kernel
theorem dX2_giveBack_74 : decode cX2_giveBack 74 = .ok (.getfield 32, 3) := by decide +kernel
theorem dX2_giveBack_77 : decode cX2_giveBack 77 = .ok (.putfield 68, 3) := by decide +kernel
theorem dX2_giveBack_80 : decode cX2_giveBack 80 = .ok (.aload_n 1, 1) := by decide +kernel
theorem dX2_giveBack_81 : decode cX2_giveBack 81 = .ok (.aload_n 0, 1) := by decide +kernel
theorem dX2_giveBack_82 : decode cX2_giveBack 82 = .ok (.getfield 36, 3) := by decide +kernel
theorem dX2_giveBack_85 : decode cX2_giveBack 85 = .ok (.putfield 69, 3) := by decide +kernel
theorem dX2_giveBack_88 : decode cX2_giveBack 88 = .ok (.aload_n 1, 1) := by decide +kernel
theorem dX2_giveBack_89 : decode cX2_giveBack 89 = .ok (.aload_n 0, 1) := by decide +kernel
theorem dX2_giveBack_90 : decode cX2_giveBack 90 = .ok (.getfield 39, 3) := by decide +kernel
theorem dX2_giveBack_93 : decode cX2_giveBack 93 = .ok (.putfield 70, 3) := by decide +kernel
theorem dX2_giveBack_96 : decode cX2_giveBack 96 = .ok (.aload_n 1, 1) := by decide +kernel
theorem dX2_giveBack_97 : decode cX2_giveBack 97 = .ok (.aload_n 0, 1) := by decide +kernel
theorem dX2_giveBack_98 : decode cX2_giveBack 98 = .ok (.getfield 42, 3) := by decide +kernel
theorem dX2_giveBack_101 : decode cX2_giveBack 101 = .ok (.putfield 71, 3) := by decide +kernel
theorem dX2_giveBack_104 : decode cX2_giveBack 104 = .ok (.return_, 1) := by decide +kernel
theorem dX3_init_0 : decode cX3_init 0 = .ok (.aload_n 0, 1) := by decide +kernel
theorem dX3_init_1 : decode cX3_init 1 = .ok (.iload_n 1, 1) := by decide +kernel
theorem dX3_init_2 : decode cX3_init 2 = .ok (.iload_n 2, 1) := by decide +kernel
theorem dX3_init_3 : decode cX3_init 3 = .ok (.iload_n 3, 1) := by decide +kernel
theorem dX3_init_4 : decode cX3_init 4 = .ok (.invokespecial 3, 3) := by decide +kernel
theorem dX3_init_7 : decode cX3_init 7 = .ok (.return_, 1) := by decide +kernel
theorem dX3_kindNumber_0 : decode cX3_kindNumber 0 = .ok (.iconst 4, 1) := by decide +kernel
theorem dX3_kindNumber_1 : decode cX3_kindNumber 1 = .ok (.ireturn, 1) := by decide +kernel
theorem dX3_distanceTo_0 : decode cX3_distanceTo 0 = .ok (.aload_n 0, 1) := by decide +kernel
theorem dX3_distanceTo_1 : decode cX3_distanceTo 1 = .ok (.getfield 9, 3) := by decide +kernel
theorem dX3_distanceTo_4 : decode cX3_distanceTo 4 = .ok (.aload_n 1, 1) := by decide +kernel
theorem dX3_distanceTo_5 : decode cX3_distanceTo 5 = .ok (.getfield 15, 3) := by decide +kernel
theorem dX3_distanceTo_8 : decode cX3_distanceTo 8 = .ok (.isub, 1) := by decide +kernel
theorem dX3_distanceTo_9 : decode cX3_distanceTo 9 = .ok (.invokestatic 18, 3) := by decide +kernel
theorem dX3_distanceTo_12 : decode cX3_distanceTo 12 = .ok (.iconst 2, 1) := by decide +kernel
theorem dX3_distanceTo_13 : decode cX3_distanceTo 13 = .ok (.idiv, 1) := by decide +kernel
theorem dX3_distanceTo_14 : decode cX3_distanceTo 14 = .ok (.ireturn, 1) := by decide +kernel
theorem dX4_init_0 : decode cX4_init 0 = .ok (.aload_n 0, 1) := by decide +kernel
theorem dX4_init_1 : decode cX4_init 1 = .ok (.invokespecial 5, 3) := by decide +kernel
theorem dX4_init_4 : decode cX4_init 4 = .ok (.aload_n 0, 1) := by decide +kernel
theorem dX4_init_5 : decode cX4_init 5 = .ok (.bipush 36, 2) := by decide +kernel
theorem dX4_init_7 : decode cX4_init 7 = .ok (.newarray .int, 2) := by decide +kernel
theorem dX4_init_9 : decode cX4_init 9 = .ok (.putfield 11, 3) := by decide +kernel
theorem dX4_init_12 : decode cX4_init 12 = .ok (.aload_n 0, 1) := by decide +kernel
theorem dX4_init_13 : decode cX4_init 13 = .ok (.iconst 0, 1) := by decide +kernel
theorem dX4_init_14 : decode cX4_init 14 = .ok (.putfield 15, 3) := by decide +kernel
theorem dX4_init_17 : decode cX4_init 17 = .ok (.return_, 1) := by decide +kernel
theorem dX4_write_0 : decode cX4_write 0 = .ok (.aload_n 0, 1) := by decide +kernel
theorem dX4_write_1 : decode cX4_write 1 = .ok (.getfield 15, 3) := by decide +kernel
theorem dX4_write_4 : decode cX4_write 4 = .ok (.bipush 36, 2) := by decide +kernel
theorem dX4_write_6 : decode cX4_write 6 = .ok (.if_icmp .lt 5, 3) := by decide +kernel
theorem dX4_write_9 : decode cX4_write 9 = .ok (.iconst 0, 1) := by decide +kernel
theorem dX4_write_10 : decode cX4_write 10 = .ok (.ireturn, 1) := by decide +kernel
theorem dX4_write_11 : decode cX4_write 11 = .ok (.aload_n 0, 1) := by decide +kernel
theorem dX4_write_12 : decode cX4_write 12 = .ok (.getfield 11, 3) := by decide +kernel
theorem dX4_write_15 : decode cX4_write 15 = .ok (.aload_n 0, 1) := by decide +kernel
theorem dX4_write_16 : decode cX4_write 16 = .ok (.getfield 15, 3) := by decide +kernel
theorem dX4_write_19 : decode cX4_write 19 = .ok (.iload_n 1, 1) := by decide +kernel
theorem dX4_write_20 : decode cX4_write 20 = .ok (.iastore, 1) := by decide +kernel
theorem dX4_write_21 : decode cX4_write 21 = .ok (.aload_n 0, 1) := by decide +kernel
theorem dX4_write_22 : decode cX4_write 22 = .ok (.dup, 1) := by decide +kernel
theorem dX4_write_23 : decode cX4_write 23 = .ok (.getfield 15, 3) := by decide +kernel
theorem dX4_write_26 : decode cX4_write 26 = .ok (.iconst 1, 1) := by decide +kernel
theorem dX4_write_27 : decode cX4_write 27 = .ok (.iadd, 1) := by decide +kernel
theorem dX4_write_28 : decode cX4_write 28 = .ok (.putfield 15, 3) := by decide +kernel
theorem dX4_write_31 : decode cX4_write 31 = .ok (.iconst 1, 1) := by decide +kernel
theorem dX4_write_32 : decode cX4_write 32 = .ok (.ireturn, 1) := by decide +kernel
theorem dX4_clear_0 : decode cX4_clear 0 = .ok (.aload_n 0, 1) := by decide +kernel
theorem dX4_clear_1 : decode cX4_clear 1 = .ok (.iconst 0, 1) := by decide +kernel
theorem dX4_clear_2 : decode cX4_clear 2 = .ok (.putfield 15, 3) := by decide +kernel
theorem dX4_clear_5 : decode cX4_clear 5 = .ok (.return_, 1) := by decide +kernel
theorem dX4_firstFault_0 : decode cX4_firstFault 0 = .ok (.iconst 0, 1) := by decide +kernel
theorem dX4_firstFault_1 : decode cX4_firstFault 1 = .ok (.istore_n 1, 1) := by decide +kernel
theorem dX4_firstFault_2 : decode cX4_firstFault 2 = .ok (.iload_n 1, 1) := by decide +kernel
theorem dX4_firstFault_3 : decode cX4_firstFault 3 = .ok (.aload_n 0, 1) := by decide +kernel
theorem dX4_firstFault_4 : decode cX4_firstFault 4 = .ok (.getfield 15, 3) := by decide +kernel
theorem dX4_firstFault_7 : decode cX4_firstFault 7 = .ok (.if_icmp .ge 24, 3) := by decide +kernel
theorem dX4_firstFault_10 : decode cX4_firstFault 10 = .ok (.iload_n 1, 1) := by decide +kernel
theorem dX4_firstFault_11 : decode cX4_firstFault 11 = .ok (.aload_n 0, 1) := by decide +kernel
theorem dX4_firstFault_12 : decode cX4_firstFault 12 = .ok (.getfield 11, 3) := by decide +kernel
theorem dX4_firstFault_15 : decode cX4_firstFault 15 = .ok (.iload_n 1, 1) := by decide +kernel
theorem dX4_firstFault_16 : decode cX4_firstFault 16 = .ok (.iaload, 1) := by decide +kernel
theorem dX4_firstFault_17 : decode cX4_firstFault 17 = .ok (.invokestatic 19, 3) := by decide +kernel
theorem dX4_firstFault_20 : decode cX4_firstFault 20 = .ok (.ifCond .ne 5, 3) := by decide +kernel
theorem dX4_firstFault_23 : decode cX4_firstFault 23 = .ok (.iload_n 1, 1) := by decide +kernel
theorem dX4_firstFault_24 : decode cX4_firstFault 24 = .ok (.ireturn, 1) := by decide +kernel
theorem dX4_firstFault_25 : decode cX4_firstFault 25 = .ok (.iinc 1 1, 3) := by decide +kernel
theorem dX4_firstFault_28 : decode cX4_firstFault 28 = .ok (.goto (-26), 3) := by decide +kernel
theorem dX4_firstFault_31 : decode cX4_firstFault 31 = .ok (.aload_n 0, 1) := by decide +kernel
theorem dX4_firstFault_32 : decode cX4_firstFault 32 = .ok (.getfield 15, 3) := by decide +kernel
theorem dX4_firstFault_35 : decode cX4_firstFault 35 = .ok (.ireturn, 1) := by decide +kernel
theorem dX4_isDrawer_0 : decode cX4_isDrawer 0 = .ok (.aload_n 0, 1) := by decide +kernel
theorem dX4_isDrawer_1 : decode cX4_isDrawer 1 = .ok (.getfield 15, 3) := by decide +kernel
theorem dX4_isDrawer_4 : decode cX4_isDrawer 4 = .ok (.bipush 9, 2) := by decide +kernel
theorem dX4_isDrawer_6 : decode cX4_isDrawer 6 = .ok (.if_icmp .lt 28, 3) := by decide +kernel
theorem dX4_isDrawer_9 : decode cX4_isDrawer 9 = .ok (.aload_n 0, 1) := by decide +kernel
theorem dX4_isDrawer_10 : decode cX4_isDrawer 10 = .ok (.getfield 15, 3) := by decide +kernel
theorem dX4_isDrawer_13 : decode cX4_isDrawer 13 = .ok (.iconst 5, 1) := by decide +kernel
theorem dX4_isDrawer_14 : decode cX4_isDrawer 14 = .ok (.irem, 1) := by decide +kernel
theorem dX4_isDrawer_15 : decode cX4_isDrawer 15 = .ok (.iconst 4, 1) := by decide +kernel
theorem dX4_isDrawer_16 : decode cX4_isDrawer 16 = .ok (.if_icmp .ne 18, 3) := by decide +kernel
theorem dX4_isDrawer_19 : decode cX4_isDrawer 19 = .ok (.aload_n 0, 1) := by decide +kernel
theorem dX4_isDrawer_20 : decode cX4_isDrawer 20 = .ok (.invokevirtual 23, 3) := by decide +kernel
theorem dX4_isDrawer_23 : decode cX4_isDrawer 23 = .ok (.aload_n 0, 1) := by decide +kernel
theorem dX4_isDrawer_24 : decode cX4_isDrawer 24 = .ok (.getfield 15, 3) := by decide +kernel
theorem dX4_isDrawer_27 : decode cX4_isDrawer 27 = .ok (.if_icmp .ne 7, 3) := by decide +kernel
theorem dX4_isDrawer_30 : decode cX4_isDrawer 30 = .ok (.iconst 1, 1) := by decide +kernel
theorem dX4_isDrawer_31 : decode cX4_isDrawer 31 = .ok (.goto 4, 3) := by decide +kernel
theorem dX4_isDrawer_34 : decode cX4_isDrawer 34 = .ok (.iconst 0, 1) := by decide +kernel
theorem dX4_isDrawer_35 : decode cX4_isDrawer 35 = .ok (.ireturn, 1) := by decide +kernel
theorem dX4_singles_0 : decode cX4_singles 0 = .ok (.aload_n 0, 1) := by decide +kernel
theorem dX4_singles_1 : decode cX4_singles 1 = .ok (.getfield 15, 3) := by decide +kernel
theorem dX4_singles_4 : decode cX4_singles 4 = .ok (.iconst 1, 1) := by decide +kernel
theorem dX4_singles_5 : decode cX4_singles 5 = .ok (.iadd, 1) := by decide +kernel
theorem dX4_singles_6 : decode cX4_singles 6 = .ok (.iconst 5, 1) := by decide +kernel
theorem dX4_singles_7 : decode cX4_singles 7 = .ok (.idiv, 1) := by decide +kernel
theorem dX4_singles_8 : decode cX4_singles 8 = .ok (.ireturn, 1) := by decide +kernel
theorem dX4_singleAt_0 : decode cX4_singleAt 0 = .ok (.iload_n 1, 1) := by decide +kernel
theorem dX4_singleAt_1 : decode cX4_singleAt 1 = .ok (.iconst 5, 1) := by decide +kernel
theorem dX4_singleAt_2 : decode cX4_singleAt 2 = .ok (.imul, 1) := by decide +kernel
theorem dX4_singleAt_3 : decode cX4_singleAt 3 = .ok (.istore_n 2, 1) := by decide +kernel
theorem dX4_singleAt_4 : decode cX4_singleAt 4 = .ok (.aload_n 0, 1) := by decide +kernel
theorem dX4_singleAt_5 : decode cX4_singleAt 5 = .ok (.getfield 11, 3) := by decide +kernel
theorem dX4_singleAt_8 : decode cX4_singleAt 8 = .ok (.iload_n 2, 1) := by decide +kernel
theorem dX4_singleAt_9 : decode cX4_singleAt 9 = .ok (.iconst 1, 1) := by decide +kernel
theorem dX4_singleAt_10 : decode cX4_singleAt 10 = .ok (.iadd, 1) := by decide +kernel
theorem dX4_singleAt_11 : decode cX4_singleAt 11 = .ok (.iaload, 1) := by decide +kernel
theorem dX4_singleAt_12 : decode cX4_singleAt 12 = .ok (.bipush 48, 2) := by decide +kernel
theorem dX4_singleAt_14 : decode cX4_singleAt 14 = .ok (.isub, 1) := by decide +kernel
theorem dX4_singleAt_15 : decode cX4_singleAt 15 = .ok (.istore_n 3, 1) := by decide +kernel
theorem dX4_singleAt_16 : decode cX4_singleAt 16 = .ok (.aload_n 0, 1) := by decide +kernel
theorem dX4_singleAt_17 : decode cX4_singleAt 17 = .ok (.getfield 11, 3) := by decide +kernel
theorem dX4_singleAt_20 : decode cX4_singleAt 20 = .ok (.iload_n 2, 1) := by decide +kernel
theorem dX4_singleAt_21 : decode cX4_singleAt 21 = .ok (.iconst 2, 1) := by decide +kernel
theorem dX4_singleAt_22 : decode cX4_singleAt 22 = .ok (.iadd, 1) := by decide +kernel
theorem dX4_singleAt_23 : decode cX4_singleAt 23 = .ok (.iaload, 1) := by decide +kernel
theorem dX4_singleAt_24 : decode cX4_singleAt 24 = .ok (.bipush 48, 2) := by decide +kernel
theorem dX4_singleAt_26 : decode cX4_singleAt 26 = .ok (.isub, 1) := by decide +kernel
theorem dX4_singleAt_27 : decode cX4_singleAt 27 = .ok (.istore 4, 2) := by decide +kernel
theorem dX4_singleAt_29 : decode cX4_singleAt 29 = .ok (.aload_n 0, 1) := by decide +kernel
theorem dX4_singleAt_30 : decode cX4_singleAt 30 = .ok (.getfield 11, 3) := by decide +kernel
theorem dX4_singleAt_33 : decode cX4_singleAt 33 = .ok (.iload_n 2, 1) := by decide +kernel
theorem dX4_singleAt_34 : decode cX4_singleAt 34 = .ok (.iconst 3, 1) := by decide +kernel
theorem dX4_singleAt_35 : decode cX4_singleAt 35 = .ok (.iadd, 1) := by decide +kernel
theorem dX4_singleAt_36 : decode cX4_singleAt 36 = .ok (.iaload, 1) := by decide +kernel
theorem dX4_singleAt_37 : decode cX4_singleAt 37 = .ok (.bipush 48, 2) := by decide +kernel
theorem dX4_singleAt_39 : decode cX4_singleAt 39 = .ok (.isub, 1) := by decide +kernel
theorem dX4_singleAt_40 : decode cX4_singleAt 40 = .ok (.istore 5, 2) := by decide +kernel
theorem dX4_singleAt_42 : decode cX4_singleAt 42 = .ok (.ldc 27, 2) := by decide +kernel
theorem dX4_singleAt_44 : decode cX4_singleAt 44 = .ok (.aload_n 0, 1) := by decide +kernel
theorem dX4_singleAt_45 : decode cX4_singleAt 45 = .ok (.getfield 11, 3) := by decide +kernel
theorem dX4_singleAt_48 : decode cX4_singleAt 48 = .ok (.iload_n 2, 1) := by decide +kernel
theorem dX4_singleAt_49 : decode cX4_singleAt 49 = .ok (.iaload, 1) := by decide +kernel
theorem dX4_singleAt_50 : decode cX4_singleAt 50 = .ok (.i2c, 1) := by decide +kernel
theorem dX4_singleAt_51 : decode cX4_singleAt 51 = .ok (.invokevirtual 29, 3) := by decide +kernel
theorem dX4_singleAt_54 : decode cX4_singleAt 54 = .ok (.tableswitch 82 1 4 #[30, 43, 56, 69], 30) := by decide +kernel
theorem dX4_singleAt_84 : decode cX4_singleAt 84 = .ok (.new 35, 3) := by decide +kernel
theorem dX4_singleAt_87 : decode cX4_singleAt 87 = .ok (.dup, 1) := by decide +kernel
theorem dX4_singleAt_88 : decode cX4_singleAt 88 = .ok (.iload_n 3, 1) := by decide +kernel
theorem dX4_singleAt_89 : decode cX4_singleAt 89 = .ok (.iload 4, 2) := by decide +kernel
theorem dX4_singleAt_91 : decode cX4_singleAt 91 = .ok (.iload 5, 2) := by decide +kernel
theorem dX4_singleAt_93 : decode cX4_singleAt 93 = .ok (.invokespecial 37, 3) := by decide +kernel
theorem dX4_singleAt_96 : decode cX4_singleAt 96 = .ok (.areturn, 1) := by decide +kernel
theorem dX4_singleAt_97 : decode cX4_singleAt 97 = .ok (.new 40, 3) := by decide +kernel
theorem dX4_singleAt_100 : decode cX4_singleAt 100 = .ok (.dup, 1) := by decide +kernel
theorem dX4_singleAt_101 : decode cX4_singleAt 101 = .ok (.iload_n 3, 1) := by decide +kernel
theorem dX4_singleAt_102 : decode cX4_singleAt 102 = .ok (.iload 4, 2) := by decide +kernel
theorem dX4_singleAt_104 : decode cX4_singleAt 104 = .ok (.iload 5, 2) := by decide +kernel
theorem dX4_singleAt_106 : decode cX4_singleAt 106 = .ok (.invokespecial 42, 3) := by decide +kernel
theorem dX4_singleAt_109 : decode cX4_singleAt 109 = .ok (.areturn, 1) := by decide +kernel
theorem dX4_singleAt_110 : decode cX4_singleAt 110 = .ok (.new 43, 3) := by decide +kernel
theorem dX4_singleAt_113 : decode cX4_singleAt 113 = .ok (.dup, 1) := by decide +kernel
theorem dX4_singleAt_114 : decode cX4_singleAt 114 = .ok (.iload_n 3, 1) := by decide +kernel
theorem dX4_singleAt_115 : decode cX4_singleAt 115 = .ok (.iload 4, 2) := by decide +kernel
theorem dX4_singleAt_117 : decode cX4_singleAt 117 = .ok (.iload 5, 2) := by decide +kernel
theorem dX4_singleAt_119 : decode cX4_singleAt 119 = .ok (.invokespecial 45, 3) := by decide +kernel
theorem dX4_singleAt_122 : decode cX4_singleAt 122 = .ok (.areturn, 1) := by decide +kernel
theorem dX4_singleAt_123 : decode cX4_singleAt 123 = .ok (.new 46, 3) := by decide +kernel
theorem dX4_singleAt_126 : decode cX4_singleAt 126 = .ok (.dup, 1) := by decide +kernel
theorem dX4_singleAt_127 : decode cX4_singleAt 127 = .ok (.iload_n 3, 1) := by decide +kernel
theorem dX4_singleAt_128 : decode cX4_singleAt 128 = .ok (.iload 4, 2) := by decide +kernel
theorem dX4_singleAt_130 : decode cX4_singleAt 130 = .ok (.iload 5, 2) := by decide +kernel
theorem dX4_singleAt_132 : decode cX4_singleAt 132 = .ok (.invokespecial 48, 3) := by decide +kernel
theorem dX4_singleAt_135 : decode cX4_singleAt 135 = .ok (.areturn, 1) := by decide +kernel
theorem dX4_singleAt_136 : decode cX4_singleAt 136 = .ok (.new 49, 3) := by decide +kernel
theorem dX4_singleAt_139 : decode cX4_singleAt 139 = .ok (.dup, 1) := by decide +kernel
theorem dX4_singleAt_140 : decode cX4_singleAt 140 = .ok (.iload_n 3, 1) := by decide +kernel
theorem dX4_singleAt_141 : decode cX4_singleAt 141 = .ok (.iload 4, 2) := by decide +kernel
theorem dX4_singleAt_143 : decode cX4_singleAt 143 = .ok (.iload 5, 2) := by decide +kernel
theorem dX4_singleAt_145 : decode cX4_singleAt 145 = .ok (.invokespecial 51, 3) := by decide +kernel
theorem dX4_singleAt_148 : decode cX4_singleAt 148 = .ok (.areturn, 1) := by decide +kernel
theorem dX4_mayStandAt_0 : decode cX4_mayStandAt 0 = .ok (.iload_n 0, 1) := by decide +kernel
theorem dX4_mayStandAt_1 : decode cX4_mayStandAt 1 = .ok (.bipush 34, 2) := by decide +kernel
theorem dX4_mayStandAt_3 : decode cX4_mayStandAt 3 = .ok (.if_icmp .lt 5, 3) := by decide +kernel
theorem dX4_mayStandAt_6 : decode cX4_mayStandAt 6 = .ok (.iconst 0, 1) := by decide +kernel
theorem dX4_mayStandAt_7 : decode cX4_mayStandAt 7 = .ok (.ireturn, 1) := by decide +kernel
theorem dX4_mayStandAt_8 : decode cX4_mayStandAt 8 = .ok (.iload_n 0, 1) := by decide +kernel
theorem dX4_mayStandAt_9 : decode cX4_mayStandAt 9 = .ok (.iconst 5, 1) := by decide +kernel
theorem dX4_mayStandAt_10 : decode cX4_mayStandAt 10 = .ok (.irem, 1) := by decide +kernel
theorem dX4_mayStandAt_11 : decode cX4_mayStandAt 11 = .ok (.tableswitch 99 0 3 #[29, 45, 63, 81], 29) := by decide +kernel
theorem dX4_mayStandAt_40 : decode cX4_mayStandAt 40 = .ok (.ldc 27, 2) := by decide +kernel
theorem dX4_mayStandAt_42 : decode cX4_mayStandAt 42 = .ok (.iload_n 1, 1) := by decide +kernel
theorem dX4_mayStandAt_43 : decode cX4_mayStandAt 43 = .ok (.i2c, 1) := by decide +kernel
theorem dX4_mayStandAt_44 : decode cX4_mayStandAt 44 = .ok (.invokevirtual 29, 3) := by decide +kernel
theorem dX4_mayStandAt_47 : decode cX4_mayStandAt 47 = .ok (.ifCond .lt 7, 3) := by decide +kernel
theorem dX4_mayStandAt_50 : decode cX4_mayStandAt 50 = .ok (.iconst 1, 1) := by decide +kernel
theorem dX4_mayStandAt_51 : decode cX4_mayStandAt 51 = .ok (.goto 4, 3) := by decide +kernel
theorem dX4_mayStandAt_54 : decode cX4_mayStandAt 54 = .ok (.iconst 0, 1) := by decide +kernel
theorem dX4_mayStandAt_55 : decode cX4_mayStandAt 55 = .ok (.ireturn, 1) := by decide +kernel
theorem dX4_mayStandAt_56 : decode cX4_mayStandAt 56 = .ok (.iload_n 1, 1) := by decide +kernel
theorem dX4_mayStandAt_57 : decode cX4_mayStandAt 57 = .ok (.bipush 48, 2) := by decide +kernel
theorem dX4_mayStandAt_59 : decode cX4_mayStandAt 59 = .ok (.if_icmp .lt 13, 3) := by decide +kernel
theorem dX4_mayStandAt_62 : decode cX4_mayStandAt 62 = .ok (.iload_n 1, 1) := by decide +kernel
theorem dX4_mayStandAt_63 : decode cX4_mayStandAt 63 = .ok (.bipush 49, 2) := by decide +kernel
theorem dX4_mayStandAt_65 : decode cX4_mayStandAt 65 = .ok (.if_icmp .gt 7, 3) := by decide +kernel
theorem dX4_mayStandAt_68 : decode cX4_mayStandAt 68 = .ok (.iconst 1, 1) := by decide +kernel
theorem dX4_mayStandAt_69 : decode cX4_mayStandAt 69 = .ok (.goto 4, 3) := by decide +kernel
theorem dX4_mayStandAt_72 : decode cX4_mayStandAt 72 = .ok (.iconst 0, 1) := by decide +kernel
theorem dX4_mayStandAt_73 : decode cX4_mayStandAt 73 = .ok (.ireturn, 1) := by decide +kernel
theorem dX4_mayStandAt_74 : decode cX4_mayStandAt 74 = .ok (.iload_n 1, 1) := by decide +kernel
theorem dX4_mayStandAt_75 : decode cX4_mayStandAt 75 = .ok (.bipush 48, 2) := by decide +kernel
theorem dX4_mayStandAt_77 : decode cX4_mayStandAt 77 = .ok (.if_icmp .lt 13, 3) := by decide +kernel
theorem dX4_mayStandAt_80 : decode cX4_mayStandAt 80 = .ok (.iload_n 1, 1) := by decide +kernel
theorem dX4_mayStandAt_81 : decode cX4_mayStandAt 81 = .ok (.bipush 58, 2) := by decide +kernel
theorem dX4_mayStandAt_83 : decode cX4_mayStandAt 83 = .ok (.if_icmp .ge 7, 3) := by decide +kernel
theorem dX4_mayStandAt_86 : decode cX4_mayStandAt 86 = .ok (.iconst 1, 1) := by decide +kernel
theorem dX4_mayStandAt_87 : decode cX4_mayStandAt 87 = .ok (.goto 4, 3) := by decide +kernel
theorem dX4_mayStandAt_90 : decode cX4_mayStandAt 90 = .ok (.iconst 0, 1) := by decide +kernel
theorem dX4_mayStandAt_91 : decode cX4_mayStandAt 91 = .ok (.ireturn, 1) := by decide +kernel
theorem dX4_mayStandAt_92 : decode cX4_mayStandAt 92 = .ok (.iload_n 1, 1) := by decide +kernel
theorem dX4_mayStandAt_93 : decode cX4_mayStandAt 93 = .ok (.bipush 48, 2) := by decide +kernel
theorem dX4_mayStandAt_95 : decode cX4_mayStandAt 95 = .ok (.if_icmp .lt 13, 3) := by decide +kernel
theorem dX4_mayStandAt_98 : decode cX4_mayStandAt 98 = .ok (.iload_n 1, 1) := by decide +kernel
theorem dX4_mayStandAt_99 : decode cX4_mayStandAt 99 = .ok (.bipush 54, 2) := by decide +kernel
theorem dX4_mayStandAt_101 : decode cX4_mayStandAt 101 = .ok (.if_icmp .ge 7, 3) := by decide +kernel
theorem dX4_mayStandAt_104 : decode cX4_mayStandAt 104 = .ok (.iconst 1, 1) := by decide +kernel
theorem dX4_mayStandAt_105 : decode cX4_mayStandAt 105 = .ok (.goto 4, 3) := by decide +kernel
theorem dX4_mayStandAt_108 : decode cX4_mayStandAt 108 = .ok (.iconst 0, 1) := by decide +kernel
theorem dX4_mayStandAt_109 : decode cX4_mayStandAt 109 = .ok (.ireturn, 1) := by decide +kernel
theorem dX4_mayStandAt_110 : decode cX4_mayStandAt 110 = .ok (.iload_n 1, 1) := by decide +kernel
theorem dX4_mayStandAt_111 : decode cX4_mayStandAt 111 = .ok (.bipush 44, 2) := by decide +kernel
theorem dX4_mayStandAt_113 : decode cX4_mayStandAt 113 = .ok (.if_icmp .ne 7, 3) := by decide +kernel
theorem dX4_mayStandAt_116 : decode cX4_mayStandAt 116 = .ok (.iconst 1, 1) := by decide +kernel
theorem dX4_mayStandAt_117 : decode cX4_mayStandAt 117 = .ok (.goto 4, 3) := by decide +kernel
theorem dX4_mayStandAt_120 : decode cX4_mayStandAt 120 = .ok (.iconst 0, 1) := by decide +kernel
theorem dX4_mayStandAt_121 : decode cX4_mayStandAt 121 = .ok (.ireturn, 1) := by decide +kernel
theorem dX5_init_0 : decode cX5_init 0 = .ok (.aload_n 0, 1) := by decide +kernel
theorem dX5_init_1 : decode cX5_init 1 = .ok (.iload_n 1, 1) := by decide +kernel
theorem dX5_init_2 : decode cX5_init 2 = .ok (.iload_n 2, 1) := by decide +kernel
theorem dX5_init_3 : decode cX5_init 3 = .ok (.iload_n 3, 1) := by decide +kernel
theorem dX5_init_4 : decode cX5_init 4 = .ok (.invokespecial 3, 3) := by decide +kernel
theorem dX5_init_7 : decode cX5_init 7 = .ok (.return_, 1) := by decide +kernel
theorem dX5_kindNumber_0 : decode cX5_kindNumber 0 = .ok (.iconst 3, 1) := by decide +kernel
theorem dX5_kindNumber_1 : decode cX5_kindNumber 1 = .ok (.ireturn, 1) := by decide +kernel
theorem dX5_takes_0 : decode cX5_takes 0 = .ok (.aload_n 0, 1) := by decide +kernel
theorem dX5_takes_1 : decode cX5_takes 1 = .ok (.getfield 9, 3) := by decide +kernel
theorem dX5_takes_4 : decode cX5_takes 4 = .ok (.aload_n 1, 1) := by decide +kernel
theorem dX5_takes_5 : decode cX5_takes 5 = .ok (.getfield 15, 3) := by decide +kernel
theorem dX5_takes_8 : decode cX5_takes 8 = .ok (.if_icmp .eq 18, 3) := by decide +kernel
theorem dX5_takes_11 : decode cX5_takes 11 = .ok (.aload_n 0, 1) := by decide +kernel
theorem dX5_takes_12 : decode cX5_takes 12 = .ok (.getfield 16, 3) := by decide +kernel
theorem dX5_takes_15 : decode cX5_takes 15 = .ok (.aload_n 1, 1) := by decide +kernel
theorem dX5_takes_16 : decode cX5_takes 16 = .ok (.getfield 19, 3) := by decide +kernel
theorem dX5_takes_19 : decode cX5_takes 19 = .ok (.if_icmp .ne 7, 3) := by decide +kernel
theorem dX5_takes_22 : decode cX5_takes 22 = .ok (.iconst 1, 1) := by decide +kernel
theorem dX5_takes_23 : decode cX5_takes 23 = .ok (.goto 4, 3) := by decide +kernel
theorem dX5_takes_26 : decode cX5_takes 26 = .ok (.iconst 0, 1) := by decide +kernel
theorem dX5_takes_27 : decode cX5_takes 27 = .ok (.ireturn, 1) := by decide +kernel
theorem dX6_init_0 : decode cX6_init 0 = .ok (.aload_n 0, 1) := by decide +kernel
theorem dX6_init_1 : decode cX6_init 1 = .ok (.invokespecial 3, 3) := by decide +kernel
theorem dX6_init_4 : decode cX6_init 4 = .ok (.aload_n 0, 1) := by decide +kernel
theorem dX6_init_5 : decode cX6_init 5 = .ok (.bipush 7, 2) := by decide +kernel
theorem dX6_init_7 : decode cX6_init 7 = .ok (.newarray .int, 2) := by decide +kernel
theorem dX6_init_9 : decode cX6_init 9 = .ok (.putfield 9, 3) := by decide +kernel
theorem dX6_init_12 : decode cX6_init 12 = .ok (.aload_n 0, 1) := by decide +kernel
theorem dX6_init_13 : decode cX6_init 13 = .ok (.bipush 7, 2) := by decide +kernel
theorem dX6_init_15 : decode cX6_init 15 = .ok (.newarray .int, 2) := by decide +kernel
theorem dX6_init_17 : decode cX6_init 17 = .ok (.putfield 15, 3) := by decide +kernel
theorem dX6_init_20 : decode cX6_init 20 = .ok (.aload_n 0, 1) := by decide +kernel
theorem dX6_init_21 : decode cX6_init 21 = .ok (.bipush 7, 2) := by decide +kernel
theorem dX6_init_23 : decode cX6_init 23 = .ok (.bipush 7, 2) := by decide +kernel
theorem dX6_init_25 : decode cX6_init 25 = .ok (.multianewarray 18 2, 4) := by decide +kernel
theorem dX6_init_29 : decode cX6_init 29 = .ok (.putfield 20, 3) := by decide +kernel
theorem dX6_init_32 : decode cX6_init 32 = .ok (.aload_n 0, 1) := by decide +kernel
theorem dX6_init_33 : decode cX6_init 33 = .ok (.bipush 7, 2) := by decide +kernel
theorem dX6_init_35 : decode cX6_init 35 = .ok (.newarray .int, 2) := by decide +kernel
theorem dX6_init_37 : decode cX6_init 37 = .ok (.putfield 23, 3) := by decide +kernel
theorem dX6_init_40 : decode cX6_init 40 = .ok (.return_, 1) := by decide +kernel
theorem dX6_mateOf_0 : decode cX6_mateOf 0 = .ok (.iload_n 1, 1) := by decide +kernel
theorem dX6_mateOf_1 : decode cX6_mateOf 1 = .ok (.ifCond .lt 18, 3) := by decide +kernel
theorem dX6_mateOf_4 : decode cX6_mateOf 4 = .ok (.iload_n 1, 1) := by decide +kernel
theorem dX6_mateOf_5 : decode cX6_mateOf 5 = .ok (.bipush 7, 2) := by decide +kernel
theorem dX6_mateOf_7 : decode cX6_mateOf 7 = .ok (.if_icmp .ge 12, 3) := by decide +kernel
theorem dX6_mateOf_10 : decode cX6_mateOf 10 = .ok (.aload_n 0, 1) := by decide +kernel
theorem dX6_mateOf_11 : decode cX6_mateOf 11 = .ok (.getfield 9, 3) := by decide +kernel
theorem dX6_mateOf_14 : decode cX6_mateOf 14 = .ok (.iload_n 1, 1) := by decide +kernel
theorem dX6_mateOf_15 : decode cX6_mateOf 15 = .ok (.iaload, 1) := by decide +kernel
theorem dX6_mateOf_16 : decode cX6_mateOf 16 = .ok (.goto 4, 3) := by decide +kernel
theorem dX6_mateOf_19 : decode cX6_mateOf 19 = .ok (.iconst (-1), 1) := by decide +kernel
theorem dX6_mateOf_20 : decode cX6_mateOf 20 = .ok (.ireturn, 1) := by decide +kernel
theorem dX6_seek_0 : decode cX6_seek 0 = .ok (.aload_n 0, 1) := by decide +kernel
theorem dX6_seek_1 : decode cX6_seek 1 = .ok (.iload_n 2, 1) := by decide +kernel
theorem dX6_seek_2 : decode cX6_seek 2 = .ok (.putfield 26, 3) := by decide +kernel
theorem dX6_seek_5 : decode cX6_seek 5 = .ok (.aload_n 0, 1) := by decide +kernel
theorem dX6_seek_6 : decode cX6_seek 6 = .ok (.iload_n 3, 1) := by decide +kernel
theorem dX6_seek_7 : decode cX6_seek 7 = .ok (.putfield 30, 3) := by decide +kernel
theorem dX6_seek_10 : decode cX6_seek 10 = .ok (.aload_n 0, 1) := by decide +kernel
theorem dX6_seek_11 : decode cX6_seek 11 = .ok (.iconst 0, 1) := by decide +kernel
theorem dX6_seek_12 : decode cX6_seek 12 = .ok (.putfield 33, 3) := by decide +kernel
theorem dX6_seek_15 : decode cX6_seek 15 = .ok (.aload_n 0, 1) := by decide +kernel
theorem dX6_seek_16 : decode cX6_seek 16 = .ok (.iconst 0, 1) := by decide +kernel
theorem dX6_seek_17 : decode cX6_seek 17 = .ok (.putfield 36, 3) := by decide +kernel
theorem dX6_seek_20 : decode cX6_seek 20 = .ok (.aload_n 0, 1) := by decide +kernel
theorem dX6_seek_21 : decode cX6_seek 21 = .ok (.iconst 0, 1) := by decide +kernel
theorem dX6_seek_22 : decode cX6_seek 22 = .ok (.putfield 39, 3) := by decide +kernel
theorem dX6_seek_25 : decode cX6_seek 25 = .ok (.aload_n 0, 1) := by decide +kernel
theorem dX6_seek_26 : decode cX6_seek 26 = .ok (.iconst 0, 1) := by decide +kernel
theorem dX6_seek_27 : decode cX6_seek 27 = .ok (.putfield 42, 3) := by decide +kernel
theorem dX6_seek_30 : decode cX6_seek 30 = .ok (.aload_n 0, 1) := by decide +kernel
theorem dX6_seek_31 : decode cX6_seek 31 = .ok (.iconst 0, 1) := by decide +kernel
theorem dX6_seek_32 : decode cX6_seek 32 = .ok (.putfield 45, 3) := by decide +kernel
theorem dX6_seek_35 : decode cX6_seek 35 = .ok (.aload_n 0, 1) := by decide +kernel
theorem dX6_seek_36 : decode cX6_seek 36 = .ok (.getfield 9, 3) := by decide +kernel
theorem dX6_seek_39 : decode cX6_seek 39 = .ok (.iconst (-1), 1) := by decide +kernel
theorem dX6_seek_40 : decode cX6_seek 40 = .ok (.invokestatic 48, 3) := by decide +kernel
theorem dX6_seek_43 : decode cX6_seek 43 = .ok (.aload_n 0, 1) := by decide +kernel
theorem dX6_seek_44 : decode cX6_seek 44 = .ok (.getfield 15, 3) := by decide +kernel
theorem dX6_seek_47 : decode cX6_seek 47 = .ok (.iconst (-1), 1) := by decide +kernel
theorem dX6_seek_48 : decode cX6_seek 48 = .ok (.invokestatic 48, 3) := by decide +kernel
theorem dX6_seek_51 : decode cX6_seek 51 = .ok (.aload_n 0, 1) := by decide +kernel
theorem dX6_seek_52 : decode cX6_seek 52 = .ok (.aload_n 1, 1) := by decide +kernel
theorem dX6_seek_53 : decode cX6_seek 53 = .ok (.invokevirtual 54, 3) := by decide +kernel
theorem dX6_seek_56 : decode cX6_seek 56 = .ok (.aload_n 0, 1) := by decide +kernel
theorem dX6_seek_57 : decode cX6_seek 57 = .ok (.iconst 0, 1) := by decide +kernel
theorem dX6_seek_58 : decode cX6_seek 58 = .ok (.iconst 0, 1) := by decide +kernel
theorem dX6_seek_59 : decode cX6_seek 59 = .ok (.iconst 0, 1) := by decide +kernel
theorem dX6_seek_60 : decode cX6_seek 60 = .ok (.iconst 0, 1) := by decide +kernel
theorem dX6_seek_61 : decode cX6_seek 61 = .ok (.invokevirtual 58, 3) := by decide +kernel
theorem dX6_seek_64 : decode cX6_seek 64 = .ok (.return_, 1) := by decide +kernel
theorem dX6_learn_0 : decode cX6_learn 0 = .ok (.aload_n 0, 1) := by decide +kernel
theorem dX6_learn_1 : decode cX6_learn 1 = .ok (.aload_n 1, 1) := by decide +kernel
theorem dX6_learn_2 : decode cX6_learn 2 = .ok (.getfield 62, 3) := by decide +kernel
theorem dX6_learn_5 : decode cX6_learn 5 = .ok (.putfield 67, 3) := by decide +kernel
theorem dX6_learn_8 : decode cX6_learn 8 = .ok (.iconst 0, 1) := by decide +kernel
theorem dX6_learn_9 : decode cX6_learn 9 = .ok (.istore_n 2, 1) := by decide +kernel
theorem dX6_learn_10 : decode cX6_learn 10 = .ok (.iload_n 2, 1) := by decide +kernel
theorem dX6_learn_11 : decode cX6_learn 11 = .ok (.aload_n 0, 1) := by decide +kernel
theorem dX6_learn_12 : decode cX6_learn 12 = .ok (.getfield 67, 3) := by decide +kernel
theorem dX6_learn_15 : decode cX6_learn 15 = .ok (.if_icmp .ge 86, 3) := by decide +kernel
theorem dX6_learn_18 : decode cX6_learn 18 = .ok (.aload_n 0, 1) := by decide +kernel
theorem dX6_learn_19 : decode cX6_learn 19 = .ok (.getfield 23, 3) := by decide +kernel
theorem dX6_learn_22 : decode cX6_learn 22 = .ok (.iload_n 2, 1) := by decide +kernel
theorem dX6_learn_23 : decode cX6_learn 23 = .ok (.aload_n 1, 1) := by decide +kernel
theorem dX6_learn_24 : decode cX6_learn 24 = .ok (.getfield 68, 3) := by decide +kernel
theorem dX6_learn_27 : decode cX6_learn 27 = .ok (.iload_n 2, 1) := by decide +kernel
theorem dX6_learn_28 : decode cX6_learn 28 = .ok (.aaload, 1) := by decide +kernel
theorem dX6_learn_29 : decode cX6_learn 29 = .ok (.getfield 72, 3) := by decide +kernel
theorem dX6_learn_32 : decode cX6_learn 32 = .ok (.iastore, 1) := by decide +kernel
theorem dX6_learn_33 : decode cX6_learn 33 = .ok (.iconst 0, 1) := by decide +kernel
theorem dX6_learn_34 : decode cX6_learn 34 = .ok (.istore_n 3, 1) := by decide +kernel
theorem dX6_learn_35 : decode cX6_learn 35 = .ok (.iload_n 3, 1) := by decide +kernel
theorem dX6_learn_36 : decode cX6_learn 36 = .ok (.aload_n 0, 1) := by decide +kernel
theorem dX6_learn_37 : decode cX6_learn 37 = .ok (.getfield 67, 3) := by decide +kernel
theorem dX6_learn_40 : decode cX6_learn 40 = .ok (.if_icmp .ge 55, 3) := by decide +kernel
theorem dX6_learn_43 : decode cX6_learn 43 = .ok (.aload_n 1, 1) := by decide +kernel
theorem dX6_learn_44 : decode cX6_learn 44 = .ok (.iload_n 2, 1) := by decide +kernel
theorem dX6_learn_45 : decode cX6_learn 45 = .ok (.invokevirtual 77, 3) := by decide +kernel
theorem dX6_learn_48 : decode cX6_learn 48 = .ok (.ifCond .ne 11, 3) := by decide +kernel
theorem dX6_learn_51 : decode cX6_learn 51 = .ok (.aload_n 1, 1) := by decide +kernel
theorem dX6_learn_52 : decode cX6_learn 52 = .ok (.iload_n 3, 1) := by decide +kernel
theorem dX6_learn_53 : decode cX6_learn 53 = .ok (.invokevirtual 77, 3) := by decide +kernel
theorem dX6_learn_56 : decode cX6_learn 56 = .ok (.ifCond .eq 7, 3) := by decide +kernel
theorem dX6_learn_59 : decode cX6_learn 59 = .ok (.iconst 1, 1) := by decide +kernel
theorem dX6_learn_60 : decode cX6_learn 60 = .ok (.goto 4, 3) := by decide +kernel
theorem dX6_learn_63 : decode cX6_learn 63 = .ok (.iconst 0, 1) := by decide +kernel
theorem dX6_learn_64 : decode cX6_learn 64 = .ok (.istore 4, 2) := by decide +kernel
theorem dX6_learn_66 : decode cX6_learn 66 = .ok (.aload_n 0, 1) := by decide +kernel
theorem dX6_learn_67 : decode cX6_learn 67 = .ok (.getfield 20, 3) := by decide +kernel
theorem dX6_learn_70 : decode cX6_learn 70 = .ok (.iload_n 2, 1) := by decide +kernel
theorem dX6_learn_71 : decode cX6_learn 71 = .ok (.aaload, 1) := by decide +kernel
theorem dX6_learn_72 : decode cX6_learn 72 = .ok (.iload_n 3, 1) := by decide +kernel
theorem dX6_learn_73 : decode cX6_learn 73 = .ok (.iload 4, 2) := by decide +kernel
theorem dX6_learn_75 : decode cX6_learn 75 = .ok (.ifCond .eq 7, 3) := by decide +kernel
theorem dX6_learn_78 : decode cX6_learn 78 = .ok (.iconst (-1), 1) := by decide +kernel
theorem dX6_learn_79 : decode cX6_learn 79 = .ok (.goto 9, 3) := by decide +kernel
theorem dX6_learn_82 : decode cX6_learn 82 = .ok (.aload_n 1, 1) := by decide +kernel
theorem dX6_learn_83 : decode cX6_learn 83 = .ok (.iload_n 2, 1) := by decide +kernel
theorem dX6_learn_84 : decode cX6_learn 84 = .ok (.iload_n 3, 1) := by decide +kernel
theorem dX6_learn_85 : decode cX6_learn 85 = .ok (.invokevirtual 81, 3) := by decide +kernel
theorem dX6_learn_88 : decode cX6_learn 88 = .ok (.iastore, 1) := by decide +kernel
theorem dX6_learn_89 : decode cX6_learn 89 = .ok (.iinc 3 1, 3) := by decide +kernel
theorem dX6_learn_92 : decode cX6_learn 92 = .ok (.goto (-57), 3) := by decide +kernel
theorem dX6_learn_95 : decode cX6_learn 95 = .ok (.iinc 2 1, 3) := by decide +kernel
theorem dX6_learn_98 : decode cX6_learn 98 = .ok (.goto (-88), 3) := by decide +kernel
theorem dX6_learn_101 : decode cX6_learn 101 = .ok (.return_, 1) := by decide +kernel
theorem dX6_place_0 : decode cX6_place 0 = .ok (.iload 4, 2) := by decide +kernel
theorem dX6_place_2 : decode cX6_place 2 = .ok (.aload_n 0, 1) := by decide +kernel
theorem dX6_place_3 : decode cX6_place 3 = .ok (.getfield 30, 3) := by decide +kernel
theorem dX6_place_6 : decode cX6_place 6 = .ok (.if_icmp .le 4, 3) := by decide +kernel
theorem dX6_place_9 : decode cX6_place 9 = .ok (.return_, 1) := by decide +kernel
theorem dX6_place_10 : decode cX6_place 10 = .ok (.iload_n 1, 1) := by decide +kernel
theorem dX6_place_11 : decode cX6_place 11 = .ok (.aload_n 0, 1) := by decide +kernel
theorem dX6_place_12 : decode cX6_place 12 = .ok (.getfield 67, 3) := by decide +kernel
theorem dX6_place_15 : decode cX6_place 15 = .ok (.if_icmp .lt 12, 3) := by decide +kernel
theorem dX6_place_18 : decode cX6_place 18 = .ok (.aload_n 0, 1) := by decide +kernel
theorem dX6_place_19 : decode cX6_place 19 = .ok (.iload_n 2, 1) := by decide +kernel
theorem dX6_place_20 : decode cX6_place 20 = .ok (.iload_n 3, 1) := by decide +kernel
theorem dX6_place_21 : decode cX6_place 21 = .ok (.iload 4, 2) := by decide +kernel
theorem dX6_place_23 : decode cX6_place 23 = .ok (.invokevirtual 85, 3) := by decide +kernel
theorem dX6_place_26 : decode cX6_place 26 = .ok (.return_, 1) := by decide +kernel
theorem dX6_place_27 : decode cX6_place 27 = .ok (.aload_n 0, 1) := by decide +kernel
theorem dX6_place_28 : decode cX6_place 28 = .ok (.iload_n 1, 1) := by decide +kernel
theorem dX6_place_29 : decode cX6_place 29 = .ok (.iconst 1, 1) := by decide +kernel
theorem dX6_place_30 : decode cX6_place 30 = .ok (.iadd, 1) := by decide +kernel
theorem dX6_place_31 : decode cX6_place 31 = .ok (.iload_n 2, 1) := by decide +kernel
theorem dX6_place_32 : decode cX6_place 32 = .ok (.iload_n 3, 1) := by decide +kernel
theorem dX6_place_33 : decode cX6_place 33 = .ok (.iload 4, 2) := by decide +kernel
theorem dX6_place_35 : decode cX6_place 35 = .ok (.invokevirtual 58, 3) := by decide +kernel
theorem dX6_place_38 : decode cX6_place 38 = .ok (.aload_n 0, 1) := by decide +kernel
theorem dX6_place_39 : decode cX6_place 39 = .ok (.getfield 15, 3) := by decide +kernel
theorem dX6_place_42 : decode cX6_place 42 = .ok (.iload_n 1, 1) := by decide +kernel
theorem dX6_place_43 : decode cX6_place 43 = .ok (.iaload, 1) := by decide +kernel
theorem dX6_place_44 : decode cX6_place 44 = .ok (.iconst (-1), 1) := by decide +kernel
theorem dX6_place_45 : decode cX6_place 45 = .ok (.if_icmp .eq 4, 3) := by decide +kernel
theorem dX6_place_48 : decode cX6_place 48 = .ok (.return_, 1) := by decide +kernel
theorem dX6_place_49 : decode cX6_place 49 = .ok (.iload_n 1, 1) := by decide +kernel
theorem dX6_place_50 : decode cX6_place 50 = .ok (.iconst 1, 1) := by decide +kernel
theorem dX6_place_51 : decode cX6_place 51 = .ok (.iadd, 1) := by decide +kernel
theorem dX6_place_52 : decode cX6_place 52 = .ok (.istore 5, 2) := by decide +kernel
theorem dX6_place_54 : decode cX6_place 54 = .ok (.iload 5, 2) := by decide +kernel
theorem dX6_place_56 : decode cX6_place 56 = .ok (.aload_n 0, 1) := by decide +kernel
theorem dX6_place_57 : decode cX6_place 57 = .ok (.getfield 67, 3) := by decide +kernel
theorem dX6_place_60 : decode cX6_place 60 = .ok (.if_icmp .ge 109, 3) := by decide +kernel
theorem dX6_place_63 : decode cX6_place 63 = .ok (.aload_n 0, 1) := by decide +kernel
theorem dX6_place_64 : decode cX6_place 64 = .ok (.getfield 15, 3) := by decide +kernel
theorem dX6_place_67 : decode cX6_place 67 = .ok (.iload 5, 2) := by decide +kernel
theorem dX6_place_69 : decode cX6_place 69 = .ok (.iaload, 1) := by decide +kernel
theorem dX6_place_70 : decode cX6_place 70 = .ok (.iconst (-1), 1) := by decide +kernel
theorem dX6_place_71 : decode cX6_place 71 = .ok (.if_icmp .ne 92, 3) := by decide +kernel
theorem dX6_place_74 : decode cX6_place 74 = .ok (.aload_n 0, 1) := by decide +kernel
theorem dX6_place_75 : decode cX6_place 75 = .ok (.getfield 20, 3) := by decide +kernel
theorem dX6_place_78 : decode cX6_place 78 = .ok (.iload_n 1, 1) := by decide +kernel
theorem dX6_place_79 : decode cX6_place 79 = .ok (.aaload, 1) := by decide +kernel
theorem dX6_place_80 : decode cX6_place 80 = .ok (.iload 5, 2) := by decide +kernel
theorem dX6_place_82 : decode cX6_place 82 = .ok (.iaload, 1) := by decide +kernel
theorem dX6_place_83 : decode cX6_place 83 = .ok (.iconst (-1), 1) := by decide +kernel
theorem dX6_place_84 : decode cX6_place 84 = .ok (.if_icmp .eq 79, 3) := by decide +kernel
theorem dX6_place_87 : decode cX6_place 87 = .ok (.aload_n 0, 1) := by decide +kernel
theorem dX6_place_88 : decode cX6_place 88 = .ok (.getfield 23, 3) := by decide +kernel
theorem dX6_place_91 : decode cX6_place 91 = .ok (.iload_n 1, 1) := by decide +kernel
theorem dX6_place_92 : decode cX6_place 92 = .ok (.iaload, 1) := by decide +kernel
theorem dX6_place_93 : decode cX6_place 93 = .ok (.aload_n 0, 1) := by decide +kernel
theorem dX6_place_94 : decode cX6_place 94 = .ok (.getfield 23, 3) := by decide +kernel
theorem dX6_place_97 : decode cX6_place 97 = .ok (.iload 5, 2) := by decide +kernel
theorem dX6_place_99 : decode cX6_place 99 = .ok (.iaload, 1) := by decide +kernel
theorem dX6_place_100 : decode cX6_place 100 = .ok (.isub, 1) := by decide +kernel
theorem dX6_place_101 : decode cX6_place 101 = .ok (.invokestatic 89, 3) := by decide +kernel
theorem dX6_place_104 : decode cX6_place 104 = .ok (.istore 6, 2) := by decide +kernel
theorem dX6_place_106 : decode cX6_place 106 = .ok (.aload_n 0, 1) := by decide +kernel
theorem dX6_place_107 : decode cX6_place 107 = .ok (.getfield 15, 3) := by decide +kernel
theorem dX6_place_110 : decode cX6_place 110 = .ok (.iload_n 1, 1) := by decide +kernel
theorem dX6_place_111 : decode cX6_place 111 = .ok (.iload 5, 2) := by decide +kernel
theorem dX6_place_113 : decode cX6_place 113 = .ok (.iastore, 1) := by decide +kernel
theorem dX6_place_114 : decode cX6_place 114 = .ok (.aload_n 0, 1) := by decide +kernel
theorem dX6_place_115 : decode cX6_place 115 = .ok (.getfield 15, 3) := by decide +kernel
theorem dX6_place_118 : decode cX6_place 118 = .ok (.iload 5, 2) := by decide +kernel
theorem dX6_place_120 : decode cX6_place 120 = .ok (.iload_n 1, 1) := by decide +kernel
theorem dX6_place_121 : decode cX6_place 121 = .ok (.iastore, 1) := by decide +kernel
theorem dX6_place_122 : decode cX6_place 122 = .ok (.aload_n 0, 1) := by decide +kernel
theorem dX6_place_123 : decode cX6_place 123 = .ok (.iload_n 1, 1) := by decide +kernel
theorem dX6_place_124 : decode cX6_place 124 = .ok (.iconst 1, 1) := by decide +kernel
theorem dX6_place_125 : decode cX6_place 125 = .ok (.iadd, 1) := by decide +kernel
theorem dX6_place_126 : decode cX6_place 126 = .ok (.iload_n 2, 1) := by decide +kernel
theorem dX6_place_127 : decode cX6_place 127 = .ok (.iconst 1, 1) := by decide +kernel
theorem dX6_place_128 : decode cX6_place 128 = .ok (.iadd, 1) := by decide +kernel
theorem dX6_place_129 : decode cX6_place 129 = .ok (.iload_n 3, 1) := by decide +kernel
theorem dX6_place_130 : decode cX6_place 130 = .ok (.aload_n 0, 1) := by decide +kernel
theorem dX6_place_131 : decode cX6_place 131 = .ok (.getfield 20, 3) := by decide +kernel
theorem dX6_place_134 : decode cX6_place 134 = .ok (.iload_n 1, 1) := by decide +kernel
theorem dX6_place_135 : decode cX6_place 135 = .ok (.aaload, 1) := by decide +kernel
theorem dX6_place_136 : decode cX6_place 136 = .ok (.iload 5, 2) := by decide +kernel
theorem dX6_place_138 : decode cX6_place 138 = .ok (.iaload, 1) := by decide +kernel
theorem dX6_place_139 : decode cX6_place 139 = .ok (.iadd, 1) := by decide +kernel
theorem dX6_place_140 : decode cX6_place 140 = .ok (.iload 4, 2) := by decide +kernel
theorem dX6_place_142 : decode cX6_place 142 = .ok (.iload 6, 2) := by decide +kernel
theorem dX6_place_144 : decode cX6_place 144 = .ok (.iadd, 1) := by decide +kernel
theorem dX6_place_145 : decode cX6_place 145 = .ok (.invokevirtual 58, 3) := by decide +kernel
theorem dX6_place_148 : decode cX6_place 148 = .ok (.aload_n 0, 1) := by decide +kernel
theorem dX6_place_149 : decode cX6_place 149 = .ok (.getfield 15, 3) := by decide +kernel
theorem dX6_place_152 : decode cX6_place 152 = .ok (.iload_n 1, 1) := by decide +kernel
theorem dX6_place_153 : decode cX6_place 153 = .ok (.iconst (-1), 1) := by decide +kernel
theorem dX6_place_154 : decode cX6_place 154 = .ok (.iastore, 1) := by decide +kernel
theorem dX6_place_155 : decode cX6_place 155 = .ok (.aload_n 0, 1) := by decide +kernel
theorem dX6_place_156 : decode cX6_place 156 = .ok (.getfield 15, 3) := by decide +kernel
theorem dX6_place_159 : decode cX6_place 159 = .ok (.iload 5, 2) := by decide +kernel
theorem dX6_place_161 : decode cX6_place 161 = .ok (.iconst (-1), 1) := by decide +kernel
theorem dX6_place_162 : decode cX6_place 162 = .ok (.iastore, 1) := by decide +kernel
theorem dX6_place_163 : decode cX6_place 163 = .ok (.iinc 5 1, 3) := by decide +kernel
theorem dX6_place_166 : decode cX6_place 166 = .ok (.goto (-112), 3) := by decide +kernel
theorem dX6_place_169 : decode cX6_place 169 = .ok (.return_, 1) := by decide +kernel
theorem dX6_judge_0 : decode cX6_judge 0 = .ok (.aload_n 0, 1) := by decide +kernel
theorem dX6_judge_1 : decode cX6_judge 1 = .ok (.getfield 26, 3) := by decide +kernel
theorem dX6_judge_4 : decode cX6_judge 4 = .ok (.iconst 2, 1) := by decide +kernel
theorem dX6_judge_5 : decode cX6_judge 5 = .ok (.if_icmp .ne 11, 3) := by decide +kernel
theorem dX6_judge_8 : decode cX6_judge 8 = .ok (.aload_n 0, 1) := by decide +kernel
theorem dX6_judge_9 : decode cX6_judge 9 = .ok (.invokevirtual 95, 3) := by decide +kernel
theorem dX6_judge_12 : decode cX6_judge 12 = .ok (.ifCond .eq 4, 3) := by decide +kernel
theorem dX6_judge_15 : decode cX6_judge 15 = .ok (.return_, 1) := by decide +kernel
theorem dX6_judge_16 : decode cX6_judge 16 = .ok (.aload_n 0, 1) := by decide +kernel
theorem dX6_judge_17 : decode cX6_judge 17 = .ok (.dup, 1) := by decide +kernel
theorem dX6_judge_18 : decode cX6_judge 18 = .ok (.getfield 33, 3) := by decide +kernel
theorem dX6_judge_21 : decode cX6_judge 21 = .ok (.iconst 1, 1) := by decide +kernel
theorem dX6_judge_22 : decode cX6_judge 22 = .ok (.iadd, 1) := by decide +kernel
theorem dX6_judge_23 : decode cX6_judge 23 = .ok (.putfield 33, 3) := by decide +kernel
theorem dX6_judge_26 : decode cX6_judge 26 = .ok (.aload_n 0, 1) := by decide +kernel
theorem dX6_judge_27 : decode cX6_judge 27 = .ok (.iload_n 1, 1) := by decide +kernel
theorem dX6_judge_28 : decode cX6_judge 28 = .ok (.iload_n 2, 1) := by decide +kernel
theorem dX6_judge_29 : decode cX6_judge 29 = .ok (.iload_n 3, 1) := by decide +kernel
theorem dX6_judge_30 : decode cX6_judge 30 = .ok (.invokevirtual 99, 3) := by decide +kernel
theorem dX6_judge_33 : decode cX6_judge 33 = .ok (.istore 4, 2) := by decide +kernel
theorem dX6_judge_35 : decode cX6_judge 35 = .ok (.aload_n 0, 1) := by decide +kernel
theorem dX6_judge_36 : decode cX6_judge 36 = .ok (.getfield 33, 3) := by decide +kernel
theorem dX6_judge_39 : decode cX6_judge 39 = .ok (.iconst 1, 1) := by decide +kernel
theorem dX6_judge_40 : decode cX6_judge 40 = .ok (.if_icmp .eq 12, 3) := by decide +kernel
theorem dX6_judge_43 : decode cX6_judge 43 = .ok (.iload 4, 2) := by decide +kernel
theorem dX6_judge_45 : decode cX6_judge 45 = .ok (.aload_n 0, 1) := by decide +kernel
theorem dX6_judge_46 : decode cX6_judge 46 = .ok (.getfield 45, 3) := by decide +kernel
theorem dX6_judge_49 : decode cX6_judge 49 = .ok (.if_icmp .le 39, 3) := by decide +kernel
theorem dX6_judge_52 : decode cX6_judge 52 = .ok (.aload_n 0, 1) := by decide +kernel
theorem dX6_judge_53 : decode cX6_judge 53 = .ok (.iload 4, 2) := by decide +kernel
theorem dX6_judge_55 : decode cX6_judge 55 = .ok (.putfield 45, 3) := by decide +kernel
theorem dX6_judge_58 : decode cX6_judge 58 = .ok (.aload_n 0, 1) := by decide +kernel
theorem dX6_judge_59 : decode cX6_judge 59 = .ok (.iload_n 1, 1) := by decide +kernel
theorem dX6_judge_60 : decode cX6_judge 60 = .ok (.putfield 36, 3) := by decide +kernel
theorem dX6_judge_63 : decode cX6_judge 63 = .ok (.aload_n 0, 1) := by decide +kernel
theorem dX6_judge_64 : decode cX6_judge 64 = .ok (.iload_n 2, 1) := by decide +kernel
theorem dX6_judge_65 : decode cX6_judge 65 = .ok (.putfield 39, 3) := by decide +kernel
theorem dX6_judge_68 : decode cX6_judge 68 = .ok (.aload_n 0, 1) := by decide +kernel
theorem dX6_judge_69 : decode cX6_judge 69 = .ok (.iload_n 3, 1) := by decide +kernel
theorem dX6_judge_70 : decode cX6_judge 70 = .ok (.putfield 42, 3) := by decide +kernel
theorem dX6_judge_73 : decode cX6_judge 73 = .ok (.aload_n 0, 1) := by decide +kernel
theorem dX6_judge_74 : decode cX6_judge 74 = .ok (.getfield 15, 3) := by decide +kernel
theorem dX6_judge_77 : decode cX6_judge 77 = .ok (.iconst 0, 1) := by decide +kernel
theorem dX6_judge_78 : decode cX6_judge 78 = .ok (.aload_n 0, 1) := by decide +kernel
theorem dX6_judge_79 : decode cX6_judge 79 = .ok (.getfield 9, 3) := by decide +kernel
theorem dX6_judge_82 : decode cX6_judge 82 = .ok (.iconst 0, 1) := by decide +kernel
theorem dX6_judge_83 : decode cX6_judge 83 = .ok (.bipush 7, 2) := by decide +kernel
theorem dX6_judge_85 : decode cX6_judge 85 = .ok (.invokestatic 103, 3) := by decide +kernel
theorem dX6_judge_88 : decode cX6_judge 88 = .ok (.return_, 1) := by decide +kernel
theorem dX6_rankOf_0 : decode cX6_rankOf 0 = .ok (.aload_n 0, 1) := by decide +kernel
theorem dX6_rankOf_1 : decode cX6_rankOf 1 = .ok (.getfield 26, 3) := by decide +kernel
theorem dX6_rankOf_4 : decode cX6_rankOf 4 = .ok (.lookupswitch 44 #[(0, 28), (1, 36)], 28) := by decide +kernel
theorem dX6_rankOf_32 : decode cX6_rankOf 32 = .ok (.iload_n 1, 1) := by decide +kernel
theorem dX6_rankOf_33 : decode cX6_rankOf 33 = .ok (.sipush 1000, 3) := by decide +kernel
theorem dX6_rankOf_36 : decode cX6_rankOf 36 = .ok (.imul, 1) := by decide +kernel
theorem dX6_rankOf_37 : decode cX6_rankOf 37 = .ok (.iload_n 2, 1) := by decide +kernel
theorem dX6_rankOf_38 : decode cX6_rankOf 38 = .ok (.iadd, 1) := by decide +kernel
theorem dX6_rankOf_39 : decode cX6_rankOf 39 = .ok (.ireturn, 1) := by decide +kernel
theorem dX6_rankOf_40 : decode cX6_rankOf 40 = .ok (.iload_n 2, 1) := by decide +kernel
theorem dX6_rankOf_41 : decode cX6_rankOf 41 = .ok (.sipush 1000, 3) := by decide +kernel
theorem dX6_rankOf_44 : decode cX6_rankOf 44 = .ok (.imul, 1) := by decide +kernel
theorem dX6_rankOf_45 : decode cX6_rankOf 45 = .ok (.iload_n 3, 1) := by decide +kernel
theorem dX6_rankOf_46 : decode cX6_rankOf 46 = .ok (.isub, 1) := by decide +kernel
theorem dX6_rankOf_47 : decode cX6_rankOf 47 = .ok (.ireturn, 1) := by decide +kernel
theorem dX6_rankOf_48 : decode cX6_rankOf 48 = .ok (.iconst 0, 1) := by decide +kernel
theorem dX6_rankOf_49 : decode cX6_rankOf 49 = .ok (.ireturn, 1) := by decide +kernel
theorem dX6_isBlocked_0 : decode cX6_isBlocked 0 = .ok (.iconst 0, 1) := by decide +kernel
theorem dX6_isBlocked_1 : decode cX6_isBlocked 1 = .ok (.istore_n 1, 1) := by decide +kernel
theorem dX6_isBlocked_2 : decode cX6_isBlocked 2 = .ok (.iload_n 1, 1) := by decide +kernel
theorem dX6_isBlocked_3 : decode cX6_isBlocked 3 = .ok (.aload_n 0, 1) := by decide +kernel
theorem dX6_isBlocked_4 : decode cX6_isBlocked 4 = .ok (.getfield 67, 3) := by decide +kernel
theorem dX6_isBlocked_7 : decode cX6_isBlocked 7 = .ok (.if_icmp .ge 69, 3) := by decide +kernel
theorem dX6_isBlocked_10 : decode cX6_isBlocked 10 = .ok (.iload_n 1, 1) := by decide +kernel
theorem dX6_isBlocked_11 : decode cX6_isBlocked 11 = .ok (.iconst 1, 1) := by decide +kernel
theorem dX6_isBlocked_12 : decode cX6_isBlocked 12 = .ok (.iadd, 1) := by decide +kernel
theorem dX6_isBlocked_13 : decode cX6_isBlocked 13 = .ok (.istore_n 2, 1) := by decide +kernel
theorem dX6_isBlocked_14 : decode cX6_isBlocked 14 = .ok (.iload_n 2, 1) := by decide +kernel
theorem dX6_isBlocked_15 : decode cX6_isBlocked 15 = .ok (.aload_n 0, 1) := by decide +kernel
theorem dX6_isBlocked_16 : decode cX6_isBlocked 16 = .ok (.getfield 67, 3) := by decide +kernel
theorem dX6_isBlocked_19 : decode cX6_isBlocked 19 = .ok (.if_icmp .ge 51, 3) := by decide +kernel
theorem dX6_isBlocked_22 : decode cX6_isBlocked 22 = .ok (.aload_n 0, 1) := by decide +kernel
theorem dX6_isBlocked_23 : decode cX6_isBlocked 23 = .ok (.getfield 20, 3) := by decide +kernel
theorem dX6_isBlocked_26 : decode cX6_isBlocked 26 = .ok (.iload_n 1, 1) := by decide +kernel
theorem dX6_isBlocked_27 : decode cX6_isBlocked 27 = .ok (.aaload, 1) := by decide +kernel
theorem dX6_isBlocked_28 : decode cX6_isBlocked 28 = .ok (.iload_n 2, 1) := by decide +kernel
theorem dX6_isBlocked_29 : decode cX6_isBlocked 29 = .ok (.iaload, 1) := by decide +kernel
theorem dX6_isBlocked_30 : decode cX6_isBlocked 30 = .ok (.iconst (-1), 1) := by decide +kernel
theorem dX6_isBlocked_31 : decode cX6_isBlocked 31 = .ok (.if_icmp .eq 33, 3) := by decide +kernel
theorem dX6_isBlocked_34 : decode cX6_isBlocked 34 = .ok (.aload_n 0, 1) := by decide +kernel
theorem dX6_isBlocked_35 : decode cX6_isBlocked 35 = .ok (.getfield 15, 3) := by decide +kernel
theorem dX6_isBlocked_38 : decode cX6_isBlocked 38 = .ok (.iload_n 1, 1) := by decide +kernel
theorem dX6_isBlocked_39 : decode cX6_isBlocked 39 = .ok (.iaload, 1) := by decide +kernel
theorem dX6_isBlocked_40 : decode cX6_isBlocked 40 = .ok (.iload_n 2, 1) := by decide +kernel
theorem dX6_isBlocked_41 : decode cX6_isBlocked 41 = .ok (.if_icmp .eq 23, 3) := by decide +kernel
theorem dX6_isBlocked_44 : decode cX6_isBlocked 44 = .ok (.aload_n 0, 1) := by decide +kernel
theorem dX6_isBlocked_45 : decode cX6_isBlocked 45 = .ok (.iload_n 1, 1) := by decide +kernel
theorem dX6_isBlocked_46 : decode cX6_isBlocked 46 = .ok (.iload_n 2, 1) := by decide +kernel
theorem dX6_isBlocked_47 : decode cX6_isBlocked 47 = .ok (.invokevirtual 109, 3) := by decide +kernel
theorem dX6_isBlocked_50 : decode cX6_isBlocked 50 = .ok (.ifCond .eq 14, 3) := by decide +kernel
theorem dX6_isBlocked_53 : decode cX6_isBlocked 53 = .ok (.aload_n 0, 1) := by decide +kernel
theorem dX6_isBlocked_54 : decode cX6_isBlocked 54 = .ok (.iload_n 2, 1) := by decide +kernel
theorem dX6_isBlocked_55 : decode cX6_isBlocked 55 = .ok (.iload_n 1, 1) := by decide +kernel
theorem dX6_isBlocked_56 : decode cX6_isBlocked 56 = .ok (.invokevirtual 109, 3) := by decide +kernel
theorem dX6_isBlocked_59 : decode cX6_isBlocked 59 = .ok (.ifCond .eq 5, 3) := by decide +kernel
theorem dX6_isBlocked_62 : decode cX6_isBlocked 62 = .ok (.iconst 1, 1) := by decide +kernel
theorem dX6_isBlocked_63 : decode cX6_isBlocked 63 = .ok (.ireturn, 1) := by decide +kernel
theorem dX6_isBlocked_64 : decode cX6_isBlocked 64 = .ok (.iinc 2 1, 3) := by decide +kernel
theorem dX6_isBlocked_67 : decode cX6_isBlocked 67 = .ok (.goto (-53), 3) := by decide +kernel
theorem dX6_isBlocked_70 : decode cX6_isBlocked 70 = .ok (.iinc 1 1, 3) := by decide +kernel
theorem dX6_isBlocked_73 : decode cX6_isBlocked 73 = .ok (.goto (-71), 3) := by decide +kernel
theorem dX6_isBlocked_76 : decode cX6_isBlocked 76 = .ok (.iconst 0, 1) := by decide +kernel
theorem dX6_isBlocked_77 : decode cX6_isBlocked 77 = .ok (.ireturn, 1) := by decide +kernel
theorem dX6_wouldLeaveFor_0 : decode cX6_wouldLeaveFor 0 = .ok (.aload_n 0, 1) := by decide +kernel
theorem dX6_wouldLeaveFor_1 : decode cX6_wouldLeaveFor 1 = .ok (.getfield 15, 3) := by decide +kernel
theorem dX6_wouldLeaveFor_4 : decode cX6_wouldLeaveFor 4 = .ok (.iload_n 1, 1) := by decide +kernel
theorem dX6_wouldLeaveFor_5 : decode cX6_wouldLeaveFor 5 = .ok (.iaload, 1) := by decide +kernel
theorem dX6_wouldLeaveFor_6 : decode cX6_wouldLeaveFor 6 = .ok (.istore_n 3, 1) := by decide +kernel
theorem dX6_wouldLeaveFor_7 : decode cX6_wouldLeaveFor 7 = .ok (.iload_n 3, 1) := by decide +kernel
theorem dX6_wouldLeaveFor_8 : decode cX6_wouldLeaveFor 8 = .ok (.ifCond .lt 11, 3) := by decide +kernel
theorem dX6_wouldLeaveFor_11 : decode cX6_wouldLeaveFor 11 = .ok (.iload_n 3, 1) := by decide +kernel
theorem dX6_wouldLeaveFor_12 : decode cX6_wouldLeaveFor 12 = .ok (.aload_n 0, 1) := by decide +kernel
theorem dX6_wouldLeaveFor_13 : decode cX6_wouldLeaveFor 13 = .ok (.getfield 67, 3) := by decide +kernel
theorem dX6_wouldLeaveFor_16 : decode cX6_wouldLeaveFor 16 = .ok (.if_icmp .lt 5, 3) := by decide +kernel
theorem dX6_wouldLeaveFor_19 : decode cX6_wouldLeaveFor 19 = .ok (.iconst 1, 1) := by decide +kernel
theorem dX6_wouldLeaveFor_20 : decode cX6_wouldLeaveFor 20 = .ok (.ireturn, 1) := by decide +kernel
theorem dX6_wouldLeaveFor_21 : decode cX6_wouldLeaveFor 21 = .ok (.aload_n 0, 1) := by decide +kernel
theorem dX6_wouldLeaveFor_22 : decode cX6_wouldLeaveFor 22 = .ok (.getfield 20, 3) := by decide +kernel
theorem dX6_wouldLeaveFor_25 : decode cX6_wouldLeaveFor 25 = .ok (.iload_n 1, 1) := by decide +kernel
theorem dX6_wouldLeaveFor_26 : decode cX6_wouldLeaveFor 26 = .ok (.aaload, 1) := by decide +kernel
theorem dX6_wouldLeaveFor_27 : decode cX6_wouldLeaveFor 27 = .ok (.iload_n 2, 1) := by decide +kernel
theorem dX6_wouldLeaveFor_28 : decode cX6_wouldLeaveFor 28 = .ok (.iaload, 1) := by decide +kernel
theorem dX6_wouldLeaveFor_29 : decode cX6_wouldLeaveFor 29 = .ok (.aload_n 0, 1) := by decide +kernel
theorem dX6_wouldLeaveFor_30 : decode cX6_wouldLeaveFor 30 = .ok (.getfield 20, 3) := by decide +kernel
theorem dX6_wouldLeaveFor_33 : decode cX6_wouldLeaveFor 33 = .ok (.iload_n 1, 1) := by decide +kernel
theorem dX6_wouldLeaveFor_34 : decode cX6_wouldLeaveFor 34 = .ok (.aaload, 1) := by decide +kernel
theorem dX6_wouldLeaveFor_35 : decode cX6_wouldLeaveFor 35 = .ok (.iload_n 3, 1) := by decide +kernel
theorem dX6_wouldLeaveFor_36 : decode cX6_wouldLeaveFor 36 = .ok (.iaload, 1) := by decide +kernel
theorem dX6_wouldLeaveFor_37 : decode cX6_wouldLeaveFor 37 = .ok (.isub, 1) := by decide +kernel
theorem dX6_wouldLeaveFor_38 : decode cX6_wouldLeaveFor 38 = .ok (.istore 4, 2) := by decide +kernel
theorem dX6_wouldLeaveFor_40 : decode cX6_wouldLeaveFor 40 = .ok (.iload 4, 2) := by decide +kernel
theorem dX6_wouldLeaveFor_42 : decode cX6_wouldLeaveFor 42 = .ok (.ifCond .gt 13, 3) := by decide +kernel
theorem dX6_wouldLeaveFor_45 : decode cX6_wouldLeaveFor 45 = .ok (.iload 4, 2) := by decide +kernel
theorem dX6_wouldLeaveFor_47 : decode cX6_wouldLeaveFor 47 = .ok (.ifCond .ne 12, 3) := by decide +kernel
theorem dX6_wouldLeaveFor_50 : decode cX6_wouldLeaveFor 50 = .ok (.iload_n 2, 1) := by decide +kernel
theorem dX6_wouldLeaveFor_51 : decode cX6_wouldLeaveFor 51 = .ok (.iload_n 3, 1) := by decide +kernel
theorem dX6_wouldLeaveFor_52 : decode cX6_wouldLeaveFor 52 = .ok (.if_icmp .ge 7, 3) := by decide +kernel
theorem dX6_wouldLeaveFor_55 : decode cX6_wouldLeaveFor 55 = .ok (.iconst 1, 1) := by decide +kernel
theorem dX6_wouldLeaveFor_56 : decode cX6_wouldLeaveFor 56 = .ok (.goto 4, 3) := by decide +kernel
theorem dX6_wouldLeaveFor_59 : decode cX6_wouldLeaveFor 59 = .ok (.iconst 0, 1) := by decide +kernel
theorem dX6_wouldLeaveFor_60 : decode cX6_wouldLeaveFor 60 = .ok (.ireturn, 1) := by decide +kernel
theorem dX7_init_0 : decode cX7_init 0 = .ok (.aload_n 0, 1) := by decide +kernel
theorem dX7_init_1 : decode cX7_init 1 = .ok (.invokespecial 3, 3) := by decide +kernel
theorem dX7_init_4 : decode cX7_init 4 = .ok (.aload_n 0, 1) := by decide +kernel
theorem dX7_init_5 : decode cX7_init 5 = .ok (.iconst 0, 1) := by decide +kernel
theorem dX7_init_6 : decode cX7_init 6 = .ok (.putfield 9, 3) := by decide +kernel
theorem dX7_init_9 : decode cX7_init 9 = .ok (.aload_n 0, 1) := by decide +kernel
theorem dX7_init_10 : decode cX7_init 10 = .ok (.bipush 8, 2) := by decide +kernel
theorem dX7_init_12 : decode cX7_init 12 = .ok (.newarray .int, 2) := by decide +kernel
theorem dX7_init_14 : decode cX7_init 14 = .ok (.putfield 15, 3) := by decide +kernel
theorem dX7_init_17 : decode cX7_init 17 = .ok (.aload_n 0, 1) := by decide +kernel
theorem dX7_init_18 : decode cX7_init 18 = .ok (.bipush 8, 2) := by decide +kernel
theorem dX7_init_20 : decode cX7_init 20 = .ok (.newarray .int, 2) := by decide +kernel
theorem dX7_init_22 : decode cX7_init 22 = .ok (.putfield 19, 3) := by decide +kernel
theorem dX7_init_25 : decode cX7_init 25 = .ok (.aload_n 0, 1) := by decide +kernel
theorem dX7_init_26 : decode cX7_init 26 = .ok (.bipush 8, 2) := by decide +kernel
theorem dX7_init_28 : decode cX7_init 28 = .ok (.newarray .int, 2) := by decide +kernel
theorem dX7_init_30 : decode cX7_init 30 = .ok (.putfield 22, 3) := by decide +kernel
theorem dX7_init_33 : decode cX7_init 33 = .ok (.aload_n 0, 1) := by decide +kernel
theorem dX7_init_34 : decode cX7_init 34 = .ok (.bipush 20, 2) := by decide +kernel
theorem dX7_init_36 : decode cX7_init 36 = .ok (.newarray .int, 2) := by decide +kernel
theorem dX7_init_38 : decode cX7_init 38 = .ok (.putfield 25, 3) := by decide +kernel
theorem dX7_init_41 : decode cX7_init 41 = .ok (.return_, 1) := by decide +kernel
theorem dX7_note_0 : decode cX7_note 0 = .ok (.aload_n 0, 1) := by decide +kernel
theorem dX7_note_1 : decode cX7_note 1 = .ok (.getfield 9, 3) := by decide +kernel
theorem dX7_note_4 : decode cX7_note 4 = .ok (.bipush 8, 2) := by decide +kernel
theorem dX7_note_6 : decode cX7_note 6 = .ok (.if_icmp .lt 5, 3) := by decide +kernel
theorem dX7_note_9 : decode cX7_note 9 = .ok (.iconst 0, 1) := by decide +kernel
theorem dX7_note_10 : decode cX7_note 10 = .ok (.ireturn, 1) := by decide +kernel
theorem dX7_note_11 : decode cX7_note 11 = .ok (.aload_n 0, 1) := by decide +kernel
theorem dX7_note_12 : decode cX7_note 12 = .ok (.getfield 15, 3) := by decide +kernel
theorem dX7_note_15 : decode cX7_note 15 = .ok (.aload_n 0, 1) := by decide +kernel
theorem dX7_note_16 : decode cX7_note 16 = .ok (.getfield 9, 3) := by decide +kernel
theorem dX7_note_19 : decode cX7_note 19 = .ok (.iload_n 1, 1) := by decide +kernel
theorem dX7_note_20 : decode cX7_note 20 = .ok (.iastore, 1) := by decide +kernel
theorem dX7_note_21 : decode cX7_note 21 = .ok (.aload_n 0, 1) := by decide +kernel
theorem dX7_note_22 : decode cX7_note 22 = .ok (.getfield 19, 3) := by decide +kernel
theorem dX7_note_25 : decode cX7_note 25 = .ok (.aload_n 0, 1) := by decide +kernel
theorem dX7_note_26 : decode cX7_note 26 = .ok (.getfield 9, 3) := by decide +kernel
theorem dX7_note_29 : decode cX7_note 29 = .ok (.iload_n 2, 1) := by decide +kernel
theorem dX7_note_30 : decode cX7_note 30 = .ok (.iastore, 1) := by decide +kernel
theorem dX7_note_31 : decode cX7_note 31 = .ok (.aload_n 0, 1) := by decide +kernel
theorem dX7_note_32 : decode cX7_note 32 = .ok (.getfield 22, 3) := by decide +kernel
theorem dX7_note_35 : decode cX7_note 35 = .ok (.aload_n 0, 1) := by decide +kernel
theorem dX7_note_36 : decode cX7_note 36 = .ok (.getfield 9, 3) := by decide +kernel
theorem dX7_note_39 : decode cX7_note 39 = .ok (.iload_n 3, 1) := by decide +kernel
theorem dX7_note_40 : decode cX7_note 40 = .ok (.iastore, 1) := by decide +kernel
theorem dX7_note_41 : decode cX7_note 41 = .ok (.aload_n 0, 1) := by decide +kernel
theorem dX7_note_42 : decode cX7_note 42 = .ok (.dup, 1) := by decide +kernel
theorem dX7_note_43 : decode cX7_note 43 = .ok (.getfield 9, 3) := by decide +kernel
theorem dX7_note_46 : decode cX7_note 46 = .ok (.iconst 1, 1) := by decide +kernel
theorem dX7_note_47 : decode cX7_note 47 = .ok (.iadd, 1) := by decide +kernel
theorem dX7_note_48 : decode cX7_note 48 = .ok (.putfield 9, 3) := by decide +kernel
theorem dX7_note_51 : decode cX7_note 51 = .ok (.iconst 1, 1) := by decide +kernel
theorem dX7_note_52 : decode cX7_note 52 = .ok (.ireturn, 1) := by decide +kernel
theorem dX7_clear_0 : decode cX7_clear 0 = .ok (.aload_n 0, 1) := by decide +kernel
theorem dX7_clear_1 : decode cX7_clear 1 = .ok (.iconst 0, 1) := by decide +kernel
theorem dX7_clear_2 : decode cX7_clear 2 = .ok (.putfield 9, 3) := by decide +kernel
theorem dX7_clear_5 : decode cX7_clear 5 = .ok (.return_, 1) := by decide +kernel
theorem dX7_copyFrom_0 : decode cX7_copyFrom 0 = .ok (.aload_n 0, 1) := by decide +kernel
theorem dX7_copyFrom_1 : decode cX7_copyFrom 1 = .ok (.aload_n 1, 1) := by decide +kernel
theorem dX7_copyFrom_2 : decode cX7_copyFrom 2 = .ok (.getfield 9, 3) := by decide +kernel
theorem dX7_copyFrom_5 : decode cX7_copyFrom 5 = .ok (.putfield 9, 3) := by decide +kernel
theorem dX7_copyFrom_8 : decode cX7_copyFrom 8 = .ok (.iconst 0, 1) := by decide +kernel
theorem dX7_copyFrom_9 : decode cX7_copyFrom 9 = .ok (.istore_n 2, 1) := by decide +kernel
theorem dX7_copyFrom_10 : decode cX7_copyFrom 10 = .ok (.iload_n 2, 1) := by decide +kernel
theorem dX7_copyFrom_11 : decode cX7_copyFrom 11 = .ok (.aload_n 0, 1) := by decide +kernel
theorem dX7_copyFrom_12 : decode cX7_copyFrom 12 = .ok (.getfield 9, 3) := by decide +kernel
theorem dX7_copyFrom_15 : decode cX7_copyFrom 15 = .ok (.if_icmp .ge 45, 3) := by decide +kernel
theorem dX7_copyFrom_18 : decode cX7_copyFrom 18 = .ok (.aload_n 0, 1) := by decide +kernel
theorem dX7_copyFrom_19 : decode cX7_copyFrom 19 = .ok (.getfield 15, 3) := by decide +kernel
theorem dX7_copyFrom_22 : decode cX7_copyFrom 22 = .ok (.iload_n 2, 1) := by decide +kernel
theorem dX7_copyFrom_23 : decode cX7_copyFrom 23 = .ok (.aload_n 1, 1) := by decide +kernel
theorem dX7_copyFrom_24 : decode cX7_copyFrom 24 = .ok (.getfield 15, 3) := by decide +kernel
theorem dX7_copyFrom_27 : decode cX7_copyFrom 27 = .ok (.iload_n 2, 1) := by decide +kernel
theorem dX7_copyFrom_28 : decode cX7_copyFrom 28 = .ok (.iaload, 1) := by decide +kernel
theorem dX7_copyFrom_29 : decode cX7_copyFrom 29 = .ok (.iastore, 1) := by decide +kernel
theorem dX7_copyFrom_30 : decode cX7_copyFrom 30 = .ok (.aload_n 0, 1) := by decide +kernel
theorem dX7_copyFrom_31 : decode cX7_copyFrom 31 = .ok (.getfield 19, 3) := by decide +kernel
theorem dX7_copyFrom_34 : decode cX7_copyFrom 34 = .ok (.iload_n 2, 1) := by decide +kernel
theorem dX7_copyFrom_35 : decode cX7_copyFrom 35 = .ok (.aload_n 1, 1) := by decide +kernel
theorem dX7_copyFrom_36 : decode cX7_copyFrom 36 = .ok (.getfield 19, 3) := by decide +kernel
theorem dX7_copyFrom_39 : decode cX7_copyFrom 39 = .ok (.iload_n 2, 1) := by decide +kernel
theorem dX7_copyFrom_40 : decode cX7_copyFrom 40 = .ok (.iaload, 1) := by decide +kernel
theorem dX7_copyFrom_41 : decode cX7_copyFrom 41 = .ok (.iastore, 1) := by decide +kernel
theorem dX7_copyFrom_42 : decode cX7_copyFrom 42 = .ok (.aload_n 0, 1) := by decide +kernel
theorem dX7_copyFrom_43 : decode cX7_copyFrom 43 = .ok (.getfield 22, 3) := by decide +kernel
theorem dX7_copyFrom_46 : decode cX7_copyFrom 46 = .ok (.iload_n 2, 1) := by decide +kernel
theorem dX7_copyFrom_47 : decode cX7_copyFrom 47 = .ok (.aload_n 1, 1) := by decide +kernel
theorem dX7_copyFrom_48 : decode cX7_copyFrom 48 = .ok (.getfield 22, 3) := by decide +kernel
theorem dX7_copyFrom_51 : decode cX7_copyFrom 51 = .ok (.iload_n 2, 1) := by decide +kernel
theorem dX7_copyFrom_52 : decode cX7_copyFrom 52 = .ok (.iaload, 1) := by decide +kernel
theorem dX7_copyFrom_53 : decode cX7_copyFrom 53 = .ok (.iastore, 1) := by decide +kernel
theorem dX7_copyFrom_54 : decode cX7_copyFrom 54 = .ok (.iinc 2 1, 3) := by decide +kernel
theorem dX7_copyFrom_57 : decode cX7_copyFrom 57 = .ok (.goto (-47), 3) := by decide +kernel
theorem dX7_copyFrom_60 : decode cX7_copyFrom 60 = .ok (.return_, 1) := by decide +kernel
theorem dX7_sizesOf_0 : decode cX7_sizesOf 0 = .ok (.iconst 0, 1) := by decide +kernel
theorem dX7_sizesOf_1 : decode cX7_sizesOf 1 = .ok (.istore_n 3, 1) := by decide +kernel
theorem dX7_sizesOf_2 : decode cX7_sizesOf 2 = .ok (.iconst 0, 1) := by decide +kernel
theorem dX7_sizesOf_3 : decode cX7_sizesOf 3 = .ok (.istore 4, 2) := by decide +kernel
theorem dX7_sizesOf_5 : decode cX7_sizesOf 5 = .ok (.iload 4, 2) := by decide +kernel
theorem dX7_sizesOf_7 : decode cX7_sizesOf 7 = .ok (.bipush 10, 2) := by decide +kernel
theorem dX7_sizesOf_9 : decode cX7_sizesOf 9 = .ok (.if_icmp .ge 27, 3) := by decide +kernel
theorem dX7_sizesOf_12 : decode cX7_sizesOf 12 = .ok (.aload_n 0, 1) := by decide +kernel
theorem dX7_sizesOf_13 : decode cX7_sizesOf 13 = .ok (.aload_n 1, 1) := by decide +kernel
theorem dX7_sizesOf_14 : decode cX7_sizesOf 14 = .ok (.iload_n 2, 1) := by decide +kernel
theorem dX7_sizesOf_15 : decode cX7_sizesOf 15 = .ok (.iload 4, 2) := by decide +kernel
theorem dX7_sizesOf_17 : decode cX7_sizesOf 17 = .ok (.invokevirtual 28, 3) := by decide +kernel
theorem dX7_sizesOf_20 : decode cX7_sizesOf 20 = .ok (.ifCond .eq 10, 3) := by decide +kernel
theorem dX7_sizesOf_23 : decode cX7_sizesOf 23 = .ok (.iload_n 3, 1) := by decide +kernel
theorem dX7_sizesOf_24 : decode cX7_sizesOf 24 = .ok (.iconst 1, 1) := by decide +kernel
theorem dX7_sizesOf_25 : decode cX7_sizesOf 25 = .ok (.iload 4, 2) := by decide +kernel
theorem dX7_sizesOf_27 : decode cX7_sizesOf 27 = .ok (.ishl, 1) := by decide +kernel
theorem dX7_sizesOf_28 : decode cX7_sizesOf 28 = .ok (.ior, 1) := by decide +kernel
theorem dX7_sizesOf_29 : decode cX7_sizesOf 29 = .ok (.istore_n 3, 1) := by decide +kernel
theorem dX7_sizesOf_30 : decode cX7_sizesOf 30 = .ok (.iinc 4 1, 3) := by decide +kernel
theorem dX7_sizesOf_33 : decode cX7_sizesOf 33 = .ok (.goto (-28), 3) := by decide +kernel
theorem dX7_sizesOf_36 : decode cX7_sizesOf 36 = .ok (.iload_n 3, 1) := by decide +kernel
theorem dX7_sizesOf_37 : decode cX7_sizesOf 37 = .ok (.ireturn, 1) := by decide +kernel
theorem dX7_agrees_0 : decode cX7_agrees 0 = .ok (.iconst 0, 1) := by decide +kernel
theorem dX7_agrees_1 : decode cX7_agrees 1 = .ok (.istore 4, 2) := by decide +kernel
theorem dX7_agrees_3 : decode cX7_agrees 3 = .ok (.iload 4, 2) := by decide +kernel
theorem dX7_agrees_5 : decode cX7_agrees 5 = .ok (.aload_n 0, 1) := by decide +kernel
theorem dX7_agrees_6 : decode cX7_agrees 6 = .ok (.getfield 9, 3) := by decide +kernel
theorem dX7_agrees_9 : decode cX7_agrees 9 = .ok (.if_icmp .ge 45, 3) := by decide +kernel
theorem dX7_agrees_12 : decode cX7_agrees 12 = .ok (.aload_n 0, 1) := by decide +kernel
theorem dX7_agrees_13 : decode cX7_agrees 13 = .ok (.getfield 15, 3) := by decide +kernel
theorem dX7_agrees_16 : decode cX7_agrees 16 = .ok (.iload 4, 2) := by decide +kernel
theorem dX7_agrees_18 : decode cX7_agrees 18 = .ok (.iaload, 1) := by decide +kernel
theorem dX7_agrees_19 : decode cX7_agrees 19 = .ok (.iload_n 2, 1) := by decide +kernel
theorem dX7_agrees_20 : decode cX7_agrees 20 = .ok (.if_icmp .ne 28, 3) := by decide +kernel
theorem dX7_agrees_23 : decode cX7_agrees 23 = .ok (.aload_n 1, 1) := by decide +kernel
theorem dX7_agrees_24 : decode cX7_agrees 24 = .ok (.iload_n 2, 1) := by decide +kernel
theorem dX7_agrees_25 : decode cX7_agrees 25 = .ok (.iload_n 3, 1) := by decide +kernel
theorem dX7_agrees_26 : decode cX7_agrees 26 = .ok (.aload_n 0, 1) := by decide +kernel
theorem dX7_agrees_27 : decode cX7_agrees 27 = .ok (.getfield 19, 3) := by decide +kernel
theorem dX7_agrees_30 : decode cX7_agrees 30 = .ok (.iload 4, 2) := by decide +kernel
theorem dX7_agrees_32 : decode cX7_agrees 32 = .ok (.iaload, 1) := by decide +kernel
theorem dX7_agrees_33 : decode cX7_agrees 33 = .ok (.invokevirtual 32, 3) := by decide +kernel
theorem dX7_agrees_36 : decode cX7_agrees 36 = .ok (.aload_n 0, 1) := by decide +kernel
theorem dX7_agrees_37 : decode cX7_agrees 37 = .ok (.getfield 22, 3) := by decide +kernel
theorem dX7_agrees_40 : decode cX7_agrees 40 = .ok (.iload 4, 2) := by decide +kernel
theorem dX7_agrees_42 : decode cX7_agrees 42 = .ok (.iaload, 1) := by decide +kernel
theorem dX7_agrees_43 : decode cX7_agrees 43 = .ok (.if_icmp .eq 5, 3) := by decide +kernel
theorem dX7_agrees_46 : decode cX7_agrees 46 = .ok (.iconst 0, 1) := by decide +kernel
theorem dX7_agrees_47 : decode cX7_agrees 47 = .ok (.ireturn, 1) := by decide +kernel
theorem dX7_agrees_48 : decode cX7_agrees 48 = .ok (.iinc 4 1, 3) := by decide +kernel
theorem dX7_agrees_51 : decode cX7_agrees 51 = .ok (.goto (-48), 3) := by decide +kernel
theorem dX7_agrees_54 : decode cX7_agrees 54 = .ok (.iconst 1, 1) := by decide +kernel
theorem dX7_agrees_55 : decode cX7_agrees 55 = .ok (.ireturn, 1) := by decide +kernel
theorem dX7_lookOf_0 : decode cX7_lookOf 0 = .ok (.iload_n 3, 1) := by decide +kernel
theorem dX7_lookOf_1 : decode cX7_lookOf 1 = .ok (.ifCond .ne 5, 3) := by decide +kernel
theorem dX7_lookOf_4 : decode cX7_lookOf 4 = .ok (.iconst (-1), 1) := by decide +kernel
theorem dX7_lookOf_5 : decode cX7_lookOf 5 = .ok (.ireturn, 1) := by decide +kernel
theorem dX7_lookOf_6 : decode cX7_lookOf 6 = .ok (.iconst (-1), 1) := by decide +kernel
theorem dX7_lookOf_7 : decode cX7_lookOf 7 = .ok (.istore 4, 2) := by decide +kernel
theorem dX7_lookOf_9 : decode cX7_lookOf 9 = .ok (.bipush 11, 2) := by decide +kernel
theorem dX7_lookOf_11 : decode cX7_lookOf 11 = .ok (.istore 5, 2) := by decide +kernel
theorem dX7_lookOf_13 : decode cX7_lookOf 13 = .ok (.iconst 0, 1) := by decide +kernel
theorem dX7_lookOf_14 : decode cX7_lookOf 14 = .ok (.istore 6, 2) := by decide +kernel
theorem dX7_lookOf_16 : decode cX7_lookOf 16 = .ok (.iload 6, 2) := by decide +kernel
theorem dX7_lookOf_18 : decode cX7_lookOf 18 = .ok (.aload_n 1, 1) := by decide +kernel
theorem dX7_lookOf_19 : decode cX7_lookOf 19 = .ok (.getfield 38, 3) := by decide +kernel
theorem dX7_lookOf_22 : decode cX7_lookOf 22 = .ok (.if_icmp .ge 46, 3) := by decide +kernel
theorem dX7_lookOf_25 : decode cX7_lookOf 25 = .ok (.iload 6, 2) := by decide +kernel
theorem dX7_lookOf_27 : decode cX7_lookOf 27 = .ok (.iload_n 2, 1) := by decide +kernel
theorem dX7_lookOf_28 : decode cX7_lookOf 28 = .ok (.if_icmp .ne 8, 3) := by decide +kernel
theorem dX7_lookOf_31 : decode cX7_lookOf 31 = .ok (.bipush 11, 2) := by decide +kernel
theorem dX7_lookOf_33 : decode cX7_lookOf 33 = .ok (.goto 12, 3) := by decide +kernel
theorem dX7_lookOf_36 : decode cX7_lookOf 36 = .ok (.aload_n 0, 1) := by decide +kernel
theorem dX7_lookOf_37 : decode cX7_lookOf 37 = .ok (.aload_n 1, 1) := by decide +kernel
theorem dX7_lookOf_38 : decode cX7_lookOf 38 = .ok (.iload_n 2, 1) := by decide +kernel
theorem dX7_lookOf_39 : decode cX7_lookOf 39 = .ok (.iload 6, 2) := by decide +kernel
theorem dX7_lookOf_41 : decode cX7_lookOf 41 = .ok (.iload_n 3, 1) := by decide +kernel
theorem dX7_lookOf_42 : decode cX7_lookOf 42 = .ok (.invokevirtual 39, 3) := by decide +kernel
theorem dX7_lookOf_45 : decode cX7_lookOf 45 = .ok (.istore 7, 2) := by decide +kernel
theorem dX7_lookOf_47 : decode cX7_lookOf 47 = .ok (.iload 7, 2) := by decide +kernel
theorem dX7_lookOf_49 : decode cX7_lookOf 49 = .ok (.iload 5, 2) := by decide +kernel
theorem dX7_lookOf_51 : decode cX7_lookOf 51 = .ok (.if_icmp .ge 11, 3) := by decide +kernel
theorem dX7_lookOf_54 : decode cX7_lookOf 54 = .ok (.iload 7, 2) := by decide +kernel
theorem dX7_lookOf_56 : decode cX7_lookOf 56 = .ok (.istore 5, 2) := by decide +kernel
theorem dX7_lookOf_58 : decode cX7_lookOf 58 = .ok (.iload 6, 2) := by decide +kernel
theorem dX7_lookOf_60 : decode cX7_lookOf 60 = .ok (.istore 4, 2) := by decide +kernel
theorem dX7_lookOf_62 : decode cX7_lookOf 62 = .ok (.iinc 6 1, 3) := by decide +kernel
theorem dX7_lookOf_65 : decode cX7_lookOf 65 = .ok (.goto (-49), 3) := by decide +kernel
theorem dX7_lookOf_68 : decode cX7_lookOf 68 = .ok (.iload 4, 2) := by decide +kernel
theorem dX7_lookOf_70 : decode cX7_lookOf 70 = .ok (.ireturn, 1) := by decide +kernel
theorem dX7_leftAtWorst_0 : decode cX7_leftAtWorst 0 = .ok (.aload_n 0, 1) := by decide +kernel
theorem dX7_leftAtWorst_1 : decode cX7_leftAtWorst 1 = .ok (.getfield 25, 3) := by decide +kernel
theorem dX7_leftAtWorst_4 : decode cX7_leftAtWorst 4 = .ok (.iconst 0, 1) := by decide +kernel
theorem dX7_leftAtWorst_5 : decode cX7_leftAtWorst 5 = .ok (.invokestatic 43, 3) := by decide +kernel
theorem dX7_leftAtWorst_8 : decode cX7_leftAtWorst 8 = .ok (.iconst 0, 1) := by decide +kernel
theorem dX7_leftAtWorst_9 : decode cX7_leftAtWorst 9 = .ok (.istore 5, 2) := by decide +kernel
theorem dX7_leftAtWorst_11 : decode cX7_leftAtWorst 11 = .ok (.iconst 0, 1) := by decide +kernel
theorem dX7_leftAtWorst_12 : decode cX7_leftAtWorst 12 = .ok (.istore 6, 2) := by decide +kernel
theorem dX7_leftAtWorst_14 : decode cX7_leftAtWorst 14 = .ok (.iload 6, 2) := by decide +kernel
theorem dX7_leftAtWorst_16 : decode cX7_leftAtWorst 16 = .ok (.bipush 10, 2) := by decide +kernel
theorem dX7_leftAtWorst_18 : decode cX7_leftAtWorst 18 = .ok (.if_icmp .ge 69, 3) := by decide +kernel
theorem dX7_leftAtWorst_21 : decode cX7_leftAtWorst 21 = .ok (.aload_n 1, 1) := by decide +kernel
theorem dX7_leftAtWorst_22 : decode cX7_leftAtWorst 22 = .ok (.iload_n 2, 1) := by decide +kernel
theorem dX7_leftAtWorst_23 : decode cX7_leftAtWorst 23 = .ok (.iload 6, 2) := by decide +kernel
theorem dX7_leftAtWorst_25 : decode cX7_leftAtWorst 25 = .ok (.iload_n 3, 1) := by decide +kernel
theorem dX7_leftAtWorst_26 : decode cX7_leftAtWorst 26 = .ok (.invokevirtual 32, 3) := by decide +kernel
theorem dX7_leftAtWorst_29 : decode cX7_leftAtWorst 29 = .ok (.iconst (-1), 1) := by decide +kernel
theorem dX7_leftAtWorst_30 : decode cX7_leftAtWorst 30 = .ok (.isub, 1) := by decide +kernel
theorem dX7_leftAtWorst_31 : decode cX7_leftAtWorst 31 = .ok (.istore 7, 2) := by decide +kernel
theorem dX7_leftAtWorst_33 : decode cX7_leftAtWorst 33 = .ok (.iload 4, 2) := by decide +kernel
theorem dX7_leftAtWorst_35 : decode cX7_leftAtWorst 35 = .ok (.iload 6, 2) := by decide +kernel
theorem dX7_leftAtWorst_37 : decode cX7_leftAtWorst 37 = .ok (.ishr, 1) := by decide +kernel
theorem dX7_leftAtWorst_38 : decode cX7_leftAtWorst 38 = .ok (.iconst 1, 1) := by decide +kernel
theorem dX7_leftAtWorst_39 : decode cX7_leftAtWorst 39 = .ok (.iand, 1) := by decide +kernel
theorem dX7_leftAtWorst_40 : decode cX7_leftAtWorst 40 = .ok (.iconst 1, 1) := by decide +kernel
theorem dX7_leftAtWorst_41 : decode cX7_leftAtWorst 41 = .ok (.if_icmp .ne 40, 3) := by decide +kernel
theorem dX7_leftAtWorst_44 : decode cX7_leftAtWorst 44 = .ok (.iload 7, 2) := by decide +kernel
theorem dX7_leftAtWorst_46 : decode cX7_leftAtWorst 46 = .ok (.ifCond .lt 35, 3) := by decide +kernel
theorem dX7_leftAtWorst_49 : decode cX7_leftAtWorst 49 = .ok (.iload 7, 2) := by decide +kernel
theorem dX7_leftAtWorst_51 : decode cX7_leftAtWorst 51 = .ok (.bipush 20, 2) := by decide +kernel
theorem dX7_leftAtWorst_53 : decode cX7_leftAtWorst 53 = .ok (.if_icmp .ge 28, 3) := by decide +kernel
theorem dX7_leftAtWorst_56 : decode cX7_leftAtWorst 56 = .ok (.aload_n 0, 1) := by decide +kernel
theorem dX7_leftAtWorst_57 : decode cX7_leftAtWorst 57 = .ok (.getfield 25, 3) := by decide +kernel
theorem dX7_leftAtWorst_60 : decode cX7_leftAtWorst 60 = .ok (.iload 7, 2) := by decide +kernel
theorem dX7_leftAtWorst_62 : decode cX7_leftAtWorst 62 = .ok (.dup2, 1) := by decide +kernel
theorem dX7_leftAtWorst_63 : decode cX7_leftAtWorst 63 = .ok (.iaload, 1) := by decide +kernel
theorem dX7_leftAtWorst_64 : decode cX7_leftAtWorst 64 = .ok (.iconst 1, 1) := by decide +kernel
theorem dX7_leftAtWorst_65 : decode cX7_leftAtWorst 65 = .ok (.iadd, 1) := by decide +kernel
theorem dX7_leftAtWorst_66 : decode cX7_leftAtWorst 66 = .ok (.iastore, 1) := by decide +kernel
theorem dX7_leftAtWorst_67 : decode cX7_leftAtWorst 67 = .ok (.iload 5, 2) := by decide +kernel
theorem dX7_leftAtWorst_69 : decode cX7_leftAtWorst 69 = .ok (.aload_n 0, 1) := by decide +kernel
theorem dX7_leftAtWorst_70 : decode cX7_leftAtWorst 70 = .ok (.getfield 25, 3) := by decide +kernel
theorem dX7_leftAtWorst_73 : decode cX7_leftAtWorst 73 = .ok (.iload 7, 2) := by decide +kernel
theorem dX7_leftAtWorst_75 : decode cX7_leftAtWorst 75 = .ok (.iaload, 1) := by decide +kernel
theorem dX7_leftAtWorst_76 : decode cX7_leftAtWorst 76 = .ok (.invokestatic 49, 3) := by decide +kernel
theorem dX7_leftAtWorst_79 : decode cX7_leftAtWorst 79 = .ok (.istore 5, 2) := by decide +kernel
theorem dX7_leftAtWorst_81 : decode cX7_leftAtWorst 81 = .ok (.iinc 6 1, 3) := by decide +kernel
theorem dX7_leftAtWorst_84 : decode cX7_leftAtWorst 84 = .ok (.goto (-70), 3) := by decide +kernel
theorem dX7_leftAtWorst_87 : decode cX7_leftAtWorst 87 = .ok (.iload 5, 2) := by decide +kernel
theorem dX7_leftAtWorst_89 : decode cX7_leftAtWorst 89 = .ok (.ireturn, 1) := by decide +kernel
theorem dX8_init_0 : decode cX8_init 0 = .ok (.aload_n 0, 1) := by decide +kernel
theorem dX8_init_1 : decode cX8_init 1 = .ok (.invokespecial 3, 3) := by decide +kernel
theorem dX8_init_4 : decode cX8_init 4 = .ok (.aload_n 0, 1) := by decide +kernel
theorem dX8_init_5 : decode cX8_init 5 = .ok (.iconst (-1), 1) := by decide +kernel
theorem dX8_init_6 : decode cX8_init 6 = .ok (.putfield 9, 3) := by decide +kernel
theorem dX8_init_9 : decode cX8_init 9 = .ok (.aload_n 0, 1) := by decide +kernel
theorem dX8_init_10 : decode cX8_init 10 = .ok (.iload_n 1, 1) := by decide +kernel
theorem dX8_init_11 : decode cX8_init 11 = .ok (.putfield 15, 3) := by decide +kernel
theorem dX8_init_14 : decode cX8_init 14 = .ok (.aload_n 0, 1) := by decide +kernel
theorem dX8_init_15 : decode cX8_init 15 = .ok (.iload_n 2, 1) := by decide +kernel
theorem dX8_init_16 : decode cX8_init 16 = .ok (.putfield 18, 3) := by decide +kernel
theorem dX8_init_19 : decode cX8_init 19 = .ok (.aload_n 0, 1) := by decide +kernel
theorem dX8_init_20 : decode cX8_init 20 = .ok (.iload_n 3, 1) := by decide +kernel
theorem dX8_init_21 : decode cX8_init 21 = .ok (.putfield 21, 3) := by decide +kernel
theorem dX8_init_24 : decode cX8_init 24 = .ok (.return_, 1) := by decide +kernel
theorem dX8_kindNumber_0 : decode cX8_kindNumber 0 = .ok (.iconst 0, 1) := by decide +kernel
theorem dX8_kindNumber_1 : decode cX8_kindNumber 1 = .ok (.ireturn, 1) := by decide +kernel
theorem dX8_takes_0 : decode cX8_takes 0 = .ok (.aload_n 0, 1) := by decide +kernel
theorem dX8_takes_1 : decode cX8_takes 1 = .ok (.getfield 15, 3) := by decide +kernel
theorem dX8_takes_4 : decode cX8_takes 4 = .ok (.aload_n 1, 1) := by decide +kernel
theorem dX8_takes_5 : decode cX8_takes 5 = .ok (.getfield 15, 3) := by decide +kernel
theorem dX8_takes_8 : decode cX8_takes 8 = .ok (.if_icmp .eq 7, 3) := by decide +kernel
theorem dX8_takes_11 : decode cX8_takes 11 = .ok (.iconst 1, 1) := by decide +kernel
theorem dX8_takes_12 : decode cX8_takes 12 = .ok (.goto 4, 3) := by decide +kernel
theorem dX8_takes_15 : decode cX8_takes 15 = .ok (.iconst 0, 1) := by decide +kernel
theorem dX8_takes_16 : decode cX8_takes 16 = .ok (.ireturn, 1) := by decide +kernel
theorem dX8_distanceTo_0 : decode cX8_distanceTo 0 = .ok (.aload_n 0, 1) := by decide +kernel
theorem dX8_distanceTo_1 : decode cX8_distanceTo 1 = .ok (.getfield 18, 3) := by decide +kernel
theorem dX8_distanceTo_4 : decode cX8_distanceTo 4 = .ok (.aload_n 1, 1) := by decide +kernel
theorem dX8_distanceTo_5 : decode cX8_distanceTo 5 = .ok (.getfield 18, 3) := by decide +kernel
theorem dX8_distanceTo_8 : decode cX8_distanceTo 8 = .ok (.isub, 1) := by decide +kernel
theorem dX8_distanceTo_9 : decode cX8_distanceTo 9 = .ok (.invokestatic 24, 3) := by decide +kernel
theorem dX8_distanceTo_12 : decode cX8_distanceTo 12 = .ok (.ireturn, 1) := by decide +kernel
theorem dX9_init_0 : decode cX9_init 0 = .ok (.aload_n 0, 1) := by decide +kernel
theorem dX9_init_1 : decode cX9_init 1 = .ok (.iload_n 1, 1) := by decide +kernel
theorem dX9_init_2 : decode cX9_init 2 = .ok (.iload_n 2, 1) := by decide +kernel
theorem dX9_init_3 : decode cX9_init 3 = .ok (.iload_n 3, 1) := by decide +kernel
theorem dX9_init_4 : decode cX9_init 4 = .ok (.invokespecial 3, 3) := by decide +kernel
theorem dX9_init_7 : decode cX9_init 7 = .ok (.return_, 1) := by decide +kernel
theorem dX9_kindNumber_0 : decode cX9_kindNumber 0 = .ok (.iconst 2, 1) := by decide +kernel
theorem dX9_kindNumber_1 : decode cX9_kindNumber 1 = .ok (.ireturn, 1) := by decide +kernel
theorem dX9_takes_0 : decode cX9_takes 0 = .ok (.aload_n 1, 1) := by decide +kernel
theorem dX9_takes_1 : decode cX9_takes 1 = .ok (.instanceof 9, 3) := by decide +kernel
theorem dX9_takes_4 : decode cX9_takes 4 = .ok (.ireturn, 1) := by decide +kernel
theorem dX10_init_0 : decode cX10_init 0 = .ok (.aload_n 0, 1) := by decide +kernel
theorem dX10_init_1 : decode cX10_init 1 = .ok (.invokespecial 3, 3) := by decide +kernel
theorem dX10_init_4 : decode cX10_init 4 = .ok (.aload_n 0, 1) := by decide +kernel
theorem dX10_init_5 : decode cX10_init 5 = .ok (.bipush 7, 2) := by decide +kernel
theorem dX10_init_7 : decode cX10_init 7 = .ok (.newarray .boolean, 2) := by decide +kernel
theorem dX10_init_9 : decode cX10_init 9 = .ok (.putfield 9, 3) := by decide +kernel
theorem dX10_init_12 : decode cX10_init 12 = .ok (.return_, 1) := by decide +kernel
theorem dX10_pass_0 : decode cX10_pass 0 = .ok (.aload_n 0, 1) := by decide +kernel
theorem dX10_pass_1 : decode cX10_pass 1 = .ok (.iconst 0, 1) := by decide +kernel
theorem dX10_pass_2 : decode cX10_pass 2 = .ok (.putfield 15, 3) := by decide +kernel
theorem dX10_pass_5 : decode cX10_pass 5 = .ok (.aload_n 0, 1) := by decide +kernel
theorem dX10_pass_6 : decode cX10_pass 6 = .ok (.iconst 0, 1) := by decide +kernel
theorem dX10_pass_7 : decode cX10_pass 7 = .ok (.putfield 19, 3) := by decide +kernel
theorem dX10_pass_10 : decode cX10_pass 10 = .ok (.aload_n 0, 1) := by decide +kernel
theorem dX10_pass_11 : decode cX10_pass 11 = .ok (.iload_n 3, 1) := by decide +kernel
theorem dX10_pass_12 : decode cX10_pass 12 = .ok (.i2l, 1) := by decide +kernel
theorem dX10_pass_13 : decode cX10_pass 13 = .ok (.putfield 22, 3) := by decide +kernel
theorem dX10_pass_16 : decode cX10_pass 16 = .ok (.iconst 0, 1) := by decide +kernel
theorem dX10_pass_17 : decode cX10_pass 17 = .ok (.istore 4, 2) := by decide +kernel
theorem dX10_pass_19 : decode cX10_pass 19 = .ok (.iload 4, 2) := by decide +kernel
theorem dX10_pass_21 : decode cX10_pass 21 = .ok (.aload_n 1, 1) := by decide +kernel
theorem dX10_pass_22 : decode cX10_pass 22 = .ok (.getfield 26, 3) := by decide +kernel
theorem dX10_pass_25 : decode cX10_pass 25 = .ok (.if_icmp .ge 22, 3) := by decide +kernel
theorem dX10_pass_28 : decode cX10_pass 28 = .ok (.aload_n 0, 1) := by decide +kernel
theorem dX10_pass_29 : decode cX10_pass 29 = .ok (.getfield 9, 3) := by decide +kernel
theorem dX10_pass_32 : decode cX10_pass 32 = .ok (.iload 4, 2) := by decide +kernel
theorem dX10_pass_34 : decode cX10_pass 34 = .ok (.aload_n 1, 1) := by decide +kernel
theorem dX10_pass_35 : decode cX10_pass 35 = .ok (.iload 4, 2) := by decide +kernel
theorem dX10_pass_37 : decode cX10_pass 37 = .ok (.invokevirtual 31, 3) := by decide +kernel
theorem dX10_pass_40 : decode cX10_pass 40 = .ok (.bastore, 1) := by decide +kernel
theorem dX10_pass_41 : decode cX10_pass 41 = .ok (.iinc 4 1, 3) := by decide +kernel
theorem dX10_pass_44 : decode cX10_pass 44 = .ok (.goto (-25), 3) := by decide +kernel
theorem dX10_pass_47 : decode cX10_pass 47 = .ok (.iconst 0, 1) := by decide +kernel
theorem dX10_pass_48 : decode cX10_pass 48 = .ok (.istore 4, 2) := by decide +kernel
theorem dX10_pass_50 : decode cX10_pass 50 = .ok (.iload 4, 2) := by decide +kernel
theorem dX10_pass_52 : decode cX10_pass 52 = .ok (.iload_n 2, 1) := by decide +kernel
theorem dX10_pass_53 : decode cX10_pass 53 = .ok (.if_icmp .ge 38, 3) := by decide +kernel
theorem dX10_pass_56 : decode cX10_pass 56 = .ok (.aload_n 0, 1) := by decide +kernel
theorem dX10_pass_57 : decode cX10_pass 57 = .ok (.aload_n 1, 1) := by decide +kernel
theorem dX10_pass_58 : decode cX10_pass 58 = .ok (.getfield 26, 3) := by decide +kernel
theorem dX10_pass_61 : decode cX10_pass 61 = .ok (.invokevirtual 35, 3) := by decide +kernel
theorem dX10_pass_64 : decode cX10_pass 64 = .ok (.istore 5, 2) := by decide +kernel
theorem dX10_pass_66 : decode cX10_pass 66 = .ok (.aload_n 0, 1) := by decide +kernel
theorem dX10_pass_67 : decode cX10_pass 67 = .ok (.aload_n 1, 1) := by decide +kernel
theorem dX10_pass_68 : decode cX10_pass 68 = .ok (.getfield 26, 3) := by decide +kernel
theorem dX10_pass_71 : decode cX10_pass 71 = .ok (.invokevirtual 35, 3) := by decide +kernel
theorem dX10_pass_74 : decode cX10_pass 74 = .ok (.istore 6, 2) := by decide +kernel
theorem dX10_pass_76 : decode cX10_pass 76 = .ok (.aload_n 0, 1) := by decide +kernel
theorem dX10_pass_77 : decode cX10_pass 77 = .ok (.aload_n 1, 1) := by decide +kernel
theorem dX10_pass_78 : decode cX10_pass 78 = .ok (.iload 5, 2) := by decide +kernel
theorem dX10_pass_80 : decode cX10_pass 80 = .ok (.iload 6, 2) := by decide +kernel
theorem dX10_pass_82 : decode cX10_pass 82 = .ok (.invokevirtual 39, 3) := by decide +kernel
theorem dX10_pass_85 : decode cX10_pass 85 = .ok (.iinc 4 1, 3) := by decide +kernel
theorem dX10_pass_88 : decode cX10_pass 88 = .ok (.goto (-38), 3) := by decide +kernel
theorem dX10_pass_91 : decode cX10_pass 91 = .ok (.return_, 1) := by decide +kernel
theorem dX10_meet_0 : decode cX10_meet 0 = .ok (.aload_n 1, 1) := by decide +kernel
theorem dX10_meet_1 : decode cX10_meet 1 = .ok (.iload_n 2, 1) := by decide +kernel
theorem dX10_meet_2 : decode cX10_meet 2 = .ok (.iload_n 3, 1) := by decide +kernel
theorem dX10_meet_3 : decode cX10_meet 3 = .ok (.invokevirtual 43, 3) := by decide +kernel
theorem dX10_meet_6 : decode cX10_meet 6 = .ok (.ifCond .eq 21, 3) := by decide +kernel
theorem dX10_meet_9 : decode cX10_meet 9 = .ok (.aload_n 0, 1) := by decide +kernel
theorem dX10_meet_10 : decode cX10_meet 10 = .ok (.getfield 9, 3) := by decide +kernel
theorem dX10_meet_13 : decode cX10_meet 13 = .ok (.iload_n 2, 1) := by decide +kernel
theorem dX10_meet_14 : decode cX10_meet 14 = .ok (.baload, 1) := by decide +kernel
theorem dX10_meet_15 : decode cX10_meet 15 = .ok (.ifCond .ne 12, 3) := by decide +kernel
theorem dX10_meet_18 : decode cX10_meet 18 = .ok (.aload_n 0, 1) := by decide +kernel
theorem dX10_meet_19 : decode cX10_meet 19 = .ok (.getfield 9, 3) := by decide +kernel
theorem dX10_meet_22 : decode cX10_meet 22 = .ok (.iload_n 3, 1) := by decide +kernel
theorem dX10_meet_23 : decode cX10_meet 23 = .ok (.baload, 1) := by decide +kernel
theorem dX10_meet_24 : decode cX10_meet 24 = .ok (.ifCond .eq 4, 3) := by decide +kernel
theorem dX10_meet_27 : decode cX10_meet 27 = .ok (.return_, 1) := by decide +kernel
theorem dX10_meet_28 : decode cX10_meet 28 = .ok (.aload_n 1, 1) := by decide +kernel
theorem dX10_meet_29 : decode cX10_meet 29 = .ok (.iload_n 2, 1) := by decide +kernel
theorem dX10_meet_30 : decode cX10_meet 30 = .ok (.iload_n 3, 1) := by decide +kernel
theorem dX10_meet_31 : decode cX10_meet 31 = .ok (.invokevirtual 47, 3) := by decide +kernel
theorem dX10_meet_34 : decode cX10_meet 34 = .ok (.istore 4, 2) := by decide +kernel
theorem dX10_meet_36 : decode cX10_meet 36 = .ok (.iload 4, 2) := by decide +kernel
theorem dX10_meet_38 : decode cX10_meet 38 = .ok (.iconst (-1), 1) := by decide +kernel
theorem dX10_meet_39 : decode cX10_meet 39 = .ok (.if_icmp .eq 38, 3) := by decide +kernel
theorem dX10_meet_42 : decode cX10_meet 42 = .ok (.aload_n 0, 1) := by decide +kernel
theorem dX10_meet_43 : decode cX10_meet 43 = .ok (.getfield 9, 3) := by decide +kernel
theorem dX10_meet_46 : decode cX10_meet 46 = .ok (.iload_n 2, 1) := by decide +kernel
theorem dX10_meet_47 : decode cX10_meet 47 = .ok (.iconst 1, 1) := by decide +kernel
theorem dX10_meet_48 : decode cX10_meet 48 = .ok (.bastore, 1) := by decide +kernel
theorem dX10_meet_49 : decode cX10_meet 49 = .ok (.aload_n 0, 1) := by decide +kernel
theorem dX10_meet_50 : decode cX10_meet 50 = .ok (.getfield 9, 3) := by decide +kernel
theorem dX10_meet_53 : decode cX10_meet 53 = .ok (.iload_n 3, 1) := by decide +kernel
theorem dX10_meet_54 : decode cX10_meet 54 = .ok (.iconst 1, 1) := by decide +kernel
theorem dX10_meet_55 : decode cX10_meet 55 = .ok (.bastore, 1) := by decide +kernel
theorem dX10_meet_56 : decode cX10_meet 56 = .ok (.aload_n 0, 1) := by decide +kernel
theorem dX10_meet_57 : decode cX10_meet 57 = .ok (.dup, 1) := by decide +kernel
theorem dX10_meet_58 : decode cX10_meet 58 = .ok (.getfield 15, 3) := by decide +kernel
theorem dX10_meet_61 : decode cX10_meet 61 = .ok (.iconst 1, 1) := by decide +kernel
theorem dX10_meet_62 : decode cX10_meet 62 = .ok (.iadd, 1) := by decide +kernel
theorem dX10_meet_63 : decode cX10_meet 63 = .ok (.putfield 15, 3) := by decide +kernel
theorem dX10_meet_66 : decode cX10_meet 66 = .ok (.aload_n 0, 1) := by decide +kernel
theorem dX10_meet_67 : decode cX10_meet 67 = .ok (.dup, 1) := by decide +kernel
theorem dX10_meet_68 : decode cX10_meet 68 = .ok (.getfield 19, 3) := by decide +kernel
theorem dX10_meet_71 : decode cX10_meet 71 = .ok (.iload 4, 2) := by decide +kernel
theorem dX10_meet_73 : decode cX10_meet 73 = .ok (.iadd, 1) := by decide +kernel
theorem dX10_meet_74 : decode cX10_meet 74 = .ok (.putfield 19, 3) := by decide +kernel
theorem dX10_meet_77 : decode cX10_meet 77 = .ok (.return_, 1) := by decide +kernel
theorem dX10_draw_0 : decode cX10_draw 0 = .ok (.aload_n 0, 1) := by decide +kernel
theorem dX10_draw_1 : decode cX10_draw 1 = .ok (.ldc2_w 51, 3) := by decide +kernel
theorem dX10_draw_4 : decode cX10_draw 4 = .ok (.aload_n 0, 1) := by decide +kernel
theorem dX10_draw_5 : decode cX10_draw 5 = .ok (.getfield 22, 3) := by decide +kernel
theorem dX10_draw_8 : decode cX10_draw 8 = .ok (.lmul, 1) := by decide +kernel
theorem dX10_draw_9 : decode cX10_draw 9 = .ok (.ldc2_w 53, 3) := by decide +kernel
theorem dX10_draw_12 : decode cX10_draw 12 = .ok (.ladd, 1) := by decide +kernel
theorem dX10_draw_13 : decode cX10_draw 13 = .ok (.ldc2_w 55, 3) := by decide +kernel
theorem dX10_draw_16 : decode cX10_draw 16 = .ok (.lrem, 1) := by decide +kernel
theorem dX10_draw_17 : decode cX10_draw 17 = .ok (.putfield 22, 3) := by decide +kernel
theorem dX10_draw_20 : decode cX10_draw 20 = .ok (.iload_n 1, 1) := by decide +kernel
theorem dX10_draw_21 : decode cX10_draw 21 = .ok (.ifCond .le 18, 3) := by decide +kernel
theorem dX10_draw_24 : decode cX10_draw 24 = .ok (.aload_n 0, 1) := by decide +kernel
theorem dX10_draw_25 : decode cX10_draw 25 = .ok (.getfield 22, 3) := by decide +kernel
theorem dX10_draw_28 : decode cX10_draw 28 = .ok (.ldc2_w 57, 3) := by decide +kernel
theorem dX10_draw_31 : decode cX10_draw 31 = .ok (.ldiv, 1) := by decide +kernel
theorem dX10_draw_32 : decode cX10_draw 32 = .ok (.iload_n 1, 1) := by decide +kernel
theorem dX10_draw_33 : decode cX10_draw 33 = .ok (.i2l, 1) := by decide +kernel
theorem dX10_draw_34 : decode cX10_draw 34 = .ok (.lrem, 1) := by decide +kernel
theorem dX10_draw_35 : decode cX10_draw 35 = .ok (.l2i, 1) := by decide +kernel
theorem dX10_draw_36 : decode cX10_draw 36 = .ok (.goto 4, 3) := by decide +kernel
theorem dX10_draw_39 : decode cX10_draw 39 = .ok (.iconst (-1), 1) := by decide +kernel
theorem dX10_draw_40 : decode cX10_draw 40 = .ok (.ireturn, 1) := by decide +kernel
theorem dX11_init_0 : decode cX11_init 0 = .ok (.aload_n 0, 1) := by decide +kernel
theorem dX11_init_1 : decode cX11_init 1 = .ok (.invokespecial 1, 3) := by decide +kernel
theorem dX11_init_4 : decode cX11_init 4 = .ok (.aload_n 0, 1) := by decide +kernel
theorem dX11_init_5 : decode cX11_init 5 = .ok (.new 7, 3) := by decide +kernel
theorem dX11_init_8 : decode cX11_init 8 = .ok (.dup, 1) := by decide +kernel
theorem dX11_init_9 : decode cX11_init 9 = .ok (.invokespecial 9, 3) := by decide +kernel
theorem dX11_init_12 : decode cX11_init 12 = .ok (.putfield 10, 3) := by decide +kernel
theorem dX11_init_15 : decode cX11_init 15 = .ok (.aload_n 0, 1) := by decide +kernel
theorem dX11_init_16 : decode cX11_init 16 = .ok (.new 16, 3) := by decide +kernel
theorem dX11_init_19 : decode cX11_init 19 = .ok (.dup, 1) := by decide +kernel
theorem dX11_init_20 : decode cX11_init 20 = .ok (.invokespecial 18, 3) := by decide +kernel
theorem dX11_init_23 : decode cX11_init 23 = .ok (.putfield 19, 3) := by decide +kernel
theorem dX11_init_26 : decode cX11_init 26 = .ok (.aload_n 0, 1) := by decide +kernel
theorem dX11_init_27 : decode cX11_init 27 = .ok (.new 23, 3) := by decide +kernel
theorem dX11_init_30 : decode cX11_init 30 = .ok (.dup, 1) := by decide +kernel
theorem dX11_init_31 : decode cX11_init 31 = .ok (.invokespecial 25, 3) := by decide +kernel
theorem dX11_init_34 : decode cX11_init 34 = .ok (.putfield 26, 3) := by decide +kernel
theorem dX11_init_37 : decode cX11_init 37 = .ok (.aload_n 0, 1) := by decide +kernel
theorem dX11_init_38 : decode cX11_init 38 = .ok (.new 30, 3) := by decide +kernel
theorem dX11_init_41 : decode cX11_init 41 = .ok (.dup, 1) := by decide +kernel
theorem dX11_init_42 : decode cX11_init 42 = .ok (.invokespecial 32, 3) := by decide +kernel
theorem dX11_init_45 : decode cX11_init 45 = .ok (.putfield 33, 3) := by decide +kernel
theorem dX11_init_48 : decode cX11_init 48 = .ok (.aload_n 0, 1) := by decide +kernel
theorem dX11_init_49 : decode cX11_init 49 = .ok (.new 37, 3) := by decide +kernel
theorem dX11_init_52 : decode cX11_init 52 = .ok (.dup, 1) := by decide +kernel
theorem dX11_init_53 : decode cX11_init 53 = .ok (.invokespecial 39, 3) := by decide +kernel
theorem dX11_init_56 : decode cX11_init 56 = .ok (.putfield 40, 3) := by decide +kernel
theorem dX11_init_59 : decode cX11_init 59 = .ok (.aload_n 0, 1) := by decide +kernel
theorem dX11_init_60 : decode cX11_init 60 = .ok (.iconst 0, 1) := by decide +kernel
theorem dX11_init_61 : decode cX11_init 61 = .ok (.putfield 44, 3) := by decide +kernel
theorem dX11_init_64 : decode cX11_init 64 = .ok (.return_, 1) := by decide +kernel
theorem dX11_letter_0 : decode cX11_letter 0 = .ok (.iload_n 1, 1) := by decide +kernel
theorem dX11_letter_1 : decode cX11_letter 1 = .ok (.iconst 1, 1) := by decide +kernel
theorem dX11_letter_2 : decode cX11_letter 2 = .ok (.if_icmp .lt 9, 3) := by decide +kernel
theorem dX11_letter_5 : decode cX11_letter 5 = .ok (.iload_n 1, 1) := by decide +kernel
theorem dX11_letter_6 : decode cX11_letter 6 = .ok (.bipush 126, 2) := by decide +kernel
theorem dX11_letter_8 : decode cX11_letter 8 = .ok (.if_icmp .le 6, 3) := by decide +kernel
theorem dX11_letter_11 : decode cX11_letter 11 = .ok (.bipush (-102), 2) := by decide +kernel
theorem dX11_letter_13 : decode cX11_letter 13 = .ok (.ireturn, 1) := by decide +kernel
theorem dX11_letter_14 : decode cX11_letter 14 = .ok (.aload_n 0, 1) := by decide +kernel
theorem dX11_letter_15 : decode cX11_letter 15 = .ok (.getfield 10, 3) := by decide +kernel
theorem dX11_letter_18 : decode cX11_letter 18 = .ok (.iload_n 1, 1) := by decide +kernel
theorem dX11_letter_19 : decode cX11_letter 19 = .ok (.invokevirtual 48, 3) := by decide +kernel
theorem dX11_letter_22 : decode cX11_letter 22 = .ok (.ifCond .eq 13, 3) := by decide +kernel
theorem dX11_letter_25 : decode cX11_letter 25 = .ok (.aload_n 0, 1) := by decide +kernel
theorem dX11_letter_26 : decode cX11_letter 26 = .ok (.getfield 10, 3) := by decide +kernel
theorem dX11_letter_29 : decode cX11_letter 29 = .ok (.getfield 52, 3) := by decide +kernel
theorem dX11_letter_32 : decode cX11_letter 32 = .ok (.goto 5, 3) := by decide +kernel
theorem dX11_letter_35 : decode cX11_letter 35 = .ok (.bipush (-104), 2) := by decide +kernel
theorem dX11_letter_37 : decode cX11_letter 37 = .ok (.ireturn, 1) := by decide +kernel
theorem dX11_blank_0 : decode cX11_blank 0 = .ok (.aload_n 0, 1) := by decide +kernel
theorem dX11_blank_1 : decode cX11_blank 1 = .ok (.getfield 10, 3) := by decide +kernel
theorem dX11_blank_4 : decode cX11_blank 4 = .ok (.getfield 52, 3) := by decide +kernel
theorem dX11_blank_7 : decode cX11_blank 7 = .ok (.istore_n 1, 1) := by decide +kernel
theorem dX11_blank_8 : decode cX11_blank 8 = .ok (.aload_n 0, 1) := by decide +kernel
theorem dX11_blank_9 : decode cX11_blank 9 = .ok (.getfield 10, 3) := by decide +kernel
theorem dX11_blank_12 : decode cX11_blank 12 = .ok (.invokevirtual 55, 3) := by decide +kernel
theorem dX11_blank_15 : decode cX11_blank 15 = .ok (.iload_n 1, 1) := by decide +kernel
theorem dX11_blank_16 : decode cX11_blank 16 = .ok (.ireturn, 1) := by decide +kernel
theorem dX11_fault_0 : decode cX11_fault 0 = .ok (.aload_n 0, 1) := by decide +kernel
theorem dX11_fault_1 : decode cX11_fault 1 = .ok (.getfield 10, 3) := by decide +kernel
theorem dX11_fault_4 : decode cX11_fault 4 = .ok (.invokevirtual 58, 3) := by decide +kernel
theorem dX11_fault_7 : decode cX11_fault 7 = .ok (.ireturn, 1) := by decide +kernel
theorem dX11_drawer_0 : decode cX11_drawer 0 = .ok (.aload_n 0, 1) := by decide +kernel
theorem dX11_drawer_1 : decode cX11_drawer 1 = .ok (.getfield 10, 3) := by decide +kernel
theorem dX11_drawer_4 : decode cX11_drawer 4 = .ok (.invokevirtual 62, 3) := by decide +kernel
theorem dX11_drawer_7 : decode cX11_drawer 7 = .ok (.ifCond .ne 6, 3) := by decide +kernel
theorem dX11_drawer_10 : decode cX11_drawer 10 = .ok (.bipush (-103), 2) := by decide +kernel
theorem dX11_drawer_12 : decode cX11_drawer 12 = .ok (.ireturn, 1) := by decide +kernel
theorem dX11_drawer_13 : decode cX11_drawer 13 = .ok (.aload_n 0, 1) := by decide +kernel
theorem dX11_drawer_14 : decode cX11_drawer 14 = .ok (.getfield 19, 3) := by decide +kernel
theorem dX11_drawer_17 : decode cX11_drawer 17 = .ok (.aload_n 0, 1) := by decide +kernel
theorem dX11_drawer_18 : decode cX11_drawer 18 = .ok (.getfield 10, 3) := by decide +kernel
theorem dX11_drawer_21 : decode cX11_drawer 21 = .ok (.invokevirtual 66, 3) := by decide +kernel
theorem dX11_drawer_24 : decode cX11_drawer 24 = .ok (.aload_n 0, 1) := by decide +kernel
theorem dX11_drawer_25 : decode cX11_drawer 25 = .ok (.getfield 10, 3) := by decide +kernel
theorem dX11_drawer_28 : decode cX11_drawer 28 = .ok (.invokevirtual 55, 3) := by decide +kernel
theorem dX11_drawer_31 : decode cX11_drawer 31 = .ok (.aload_n 0, 1) := by decide +kernel
theorem dX11_drawer_32 : decode cX11_drawer 32 = .ok (.getfield 26, 3) := by decide +kernel
theorem dX11_drawer_35 : decode cX11_drawer 35 = .ok (.iconst 0, 1) := by decide +kernel
theorem dX11_drawer_36 : decode cX11_drawer 36 = .ok (.putfield 70, 3) := by decide +kernel
theorem dX11_drawer_39 : decode cX11_drawer 39 = .ok (.aload_n 0, 1) := by decide +kernel
theorem dX11_drawer_40 : decode cX11_drawer 40 = .ok (.dup, 1) := by decide +kernel
theorem dX11_drawer_41 : decode cX11_drawer 41 = .ok (.getfield 44, 3) := by decide +kernel
theorem dX11_drawer_44 : decode cX11_drawer 44 = .ok (.iconst 1, 1) := by decide +kernel
theorem dX11_drawer_45 : decode cX11_drawer 45 = .ok (.iadd, 1) := by decide +kernel
theorem dX11_drawer_46 : decode cX11_drawer 46 = .ok (.putfield 44, 3) := by decide +kernel
theorem dX11_drawer_49 : decode cX11_drawer 49 = .ok (.aload_n 0, 1) := by decide +kernel
theorem dX11_drawer_50 : decode cX11_drawer 50 = .ok (.getfield 19, 3) := by decide +kernel
theorem dX11_drawer_53 : decode cX11_drawer 53 = .ok (.getfield 74, 3) := by decide +kernel
theorem dX11_drawer_56 : decode cX11_drawer 56 = .ok (.ireturn, 1) := by decide +kernel
theorem dX11_single_0 : decode cX11_single 0 = .ok (.aload_n 0, 1) := by decide +kernel
theorem dX11_single_1 : decode cX11_single 1 = .ok (.getfield 19, 3) := by decide +kernel
theorem dX11_single_4 : decode cX11_single 4 = .ok (.iload_n 1, 1) := by decide +kernel
theorem dX11_single_5 : decode cX11_single 5 = .ok (.invokevirtual 77, 3) := by decide +kernel
theorem dX11_single_8 : decode cX11_single 8 = .ok (.ifCond .ne 6, 3) := by decide +kernel
theorem dX11_single_11 : decode cX11_single 11 = .ok (.bipush (-101), 2) := by decide +kernel
theorem dX11_single_13 : decode cX11_single 13 = .ok (.ireturn, 1) := by decide +kernel
theorem dX11_single_14 : decode cX11_single 14 = .ok (.aload_n 0, 1) := by decide +kernel
theorem dX11_single_15 : decode cX11_single 15 = .ok (.getfield 19, 3) := by decide +kernel
theorem dX11_single_18 : decode cX11_single 18 = .ok (.getfield 80, 3) := by decide +kernel
theorem dX11_single_21 : decode cX11_single 21 = .ok (.iload_n 1, 1) := by decide +kernel
theorem dX11_single_22 : decode cX11_single 22 = .ok (.aaload, 1) := by decide +kernel
theorem dX11_single_23 : decode cX11_single 23 = .ok (.astore_n 3, 1) := by decide +kernel
theorem dX11_single_24 : decode cX11_single 24 = .ok (.iload_n 2, 1) := by decide +kernel
theorem dX11_single_25 : decode cX11_single 25 = .ok (.tableswitch 175 0 10 #[59, 64, 69, 74, 79, 84, 93, 102, 111, 128, 144], 59) := by decide +kernel
theorem dX11_single_84 : decode cX11_single 84 = .ok (.aload_n 3, 1) := by decide +kernel
theorem dX11_single_85 : decode cX11_single 85 = .ok (.invokevirtual 84, 3) := by decide +kernel
theorem dX11_single_88 : decode cX11_single 88 = .ok (.ireturn, 1) := by decide +kernel
theorem dX11_single_89 : decode cX11_single 89 = .ok (.aload_n 3, 1) := by decide +kernel
theorem dX11_single_90 : decode cX11_single 90 = .ok (.getfield 89, 3) := by decide +kernel
theorem dX11_single_93 : decode cX11_single 93 = .ok (.ireturn, 1) := by decide +kernel
theorem dX11_single_94 : decode cX11_single 94 = .ok (.aload_n 3, 1) := by decide +kernel
theorem dX11_single_95 : decode cX11_single 95 = .ok (.getfield 92, 3) := by decide +kernel
theorem dX11_single_98 : decode cX11_single 98 = .ok (.ireturn, 1) := by decide +kernel
theorem dX11_single_99 : decode cX11_single 99 = .ok (.aload_n 3, 1) := by decide +kernel
theorem dX11_single_100 : decode cX11_single 100 = .ok (.getfield 93, 3) := by decide +kernel
theorem dX11_single_103 : decode cX11_single 103 = .ok (.ireturn, 1) := by decide +kernel
theorem dX11_single_104 : decode cX11_single 104 = .ok (.aload_n 3, 1) := by decide +kernel
theorem dX11_single_105 : decode cX11_single 105 = .ok (.getfield 96, 3) := by decide +kernel
theorem dX11_single_108 : decode cX11_single 108 = .ok (.ireturn, 1) := by decide +kernel
theorem dX11_single_109 : decode cX11_single 109 = .ok (.aload_n 0, 1) := by decide +kernel
theorem dX11_single_110 : decode cX11_single 110 = .ok (.getfield 19, 3) := by decide +kernel
theorem dX11_single_113 : decode cX11_single 113 = .ok (.iload_n 1, 1) := by decide +kernel
theorem dX11_single_114 : decode cX11_single 114 = .ok (.invokevirtual 99, 3) := by decide +kernel
theorem dX11_single_117 : decode cX11_single 117 = .ok (.ireturn, 1) := by decide +kernel
theorem dX11_single_118 : decode cX11_single 118 = .ok (.aload_n 0, 1) := by decide +kernel
theorem dX11_single_119 : decode cX11_single 119 = .ok (.getfield 19, 3) := by decide +kernel
theorem dX11_single_122 : decode cX11_single 122 = .ok (.iload_n 1, 1) := by decide +kernel
theorem dX11_single_123 : decode cX11_single 123 = .ok (.invokevirtual 103, 3) := by decide +kernel
theorem dX11_single_126 : decode cX11_single 126 = .ok (.ireturn, 1) := by decide +kernel
theorem dX11_single_127 : decode cX11_single 127 = .ok (.aload_n 0, 1) := by decide +kernel
theorem dX11_single_128 : decode cX11_single 128 = .ok (.getfield 19, 3) := by decide +kernel
theorem dX11_single_131 : decode cX11_single 131 = .ok (.iload_n 1, 1) := by decide +kernel
theorem dX11_single_132 : decode cX11_single 132 = .ok (.invokevirtual 106, 3) := by decide +kernel
theorem dX11_single_135 : decode cX11_single 135 = .ok (.ireturn, 1) := by decide +kernel
theorem dX11_single_136 : decode cX11_single 136 = .ok (.aload_n 0, 1) := by decide +kernel
theorem dX11_single_137 : decode cX11_single 137 = .ok (.getfield 19, 3) := by decide +kernel
theorem dX11_single_140 : decode cX11_single 140 = .ok (.iload_n 1, 1) := by decide +kernel
theorem dX11_single_141 : decode cX11_single 141 = .ok (.aload_n 0, 1) := by decide +kernel
theorem dX11_single_142 : decode cX11_single 142 = .ok (.getfield 19, 3) := by decide +kernel
theorem dX11_single_145 : decode cX11_single 145 = .ok (.iload_n 1, 1) := by decide +kernel
theorem dX11_single_146 : decode cX11_single 146 = .ok (.invokevirtual 106, 3) := by decide +kernel
theorem dX11_single_149 : decode cX11_single 149 = .ok (.invokevirtual 109, 3) := by decide +kernel
theorem dX11_single_152 : decode cX11_single 152 = .ok (.ireturn, 1) := by decide +kernel
theorem dX11_single_153 : decode cX11_single 153 = .ok (.aload_n 0, 1) := by decide +kernel
theorem dX11_single_154 : decode cX11_single 154 = .ok (.getfield 19, 3) := by decide +kernel
theorem dX11_single_157 : decode cX11_single 157 = .ok (.getfield 113, 3) := by decide +kernel
theorem dX11_single_160 : decode cX11_single 160 = .ok (.aload_n 0, 1) := by decide +kernel
theorem dX11_single_161 : decode cX11_single 161 = .ok (.getfield 19, 3) := by decide +kernel
theorem dX11_single_164 : decode cX11_single 164 = .ok (.iload_n 1, 1) := by decide +kernel
theorem dX11_single_165 : decode cX11_single 165 = .ok (.invokevirtual 117, 3) := by decide +kernel
theorem dX11_single_168 : decode cX11_single 168 = .ok (.ireturn, 1) := by decide +kernel
theorem dX11_single_169 : decode cX11_single 169 = .ok (.aload_n 0, 1) := by decide +kernel
theorem dX11_single_170 : decode cX11_single 170 = .ok (.getfield 19, 3) := by decide +kernel
theorem dX11_single_173 : decode cX11_single 173 = .ok (.getfield 113, 3) := by decide +kernel
theorem dX11_single_176 : decode cX11_single 176 = .ok (.aload_n 0, 1) := by decide +kernel
theorem dX11_single_177 : decode cX11_single 177 = .ok (.getfield 19, 3) := by decide +kernel
theorem dX11_single_180 : decode cX11_single 180 = .ok (.iload_n 1, 1) := by decide +kernel
theorem dX11_single_181 : decode cX11_single 181 = .ok (.aload_n 0, 1) := by decide +kernel
theorem dX11_single_182 : decode cX11_single 182 = .ok (.getfield 19, 3) := by decide +kernel
theorem dX11_single_185 : decode cX11_single 185 = .ok (.getfield 113, 3) := by decide +kernel
theorem dX11_single_188 : decode cX11_single 188 = .ok (.aload_n 0, 1) := by decide +kernel
theorem dX11_single_189 : decode cX11_single 189 = .ok (.getfield 19, 3) := by decide +kernel
theorem dX11_single_192 : decode cX11_single 192 = .ok (.iload_n 1, 1) := by decide +kernel
theorem dX11_single_193 : decode cX11_single 193 = .ok (.invokevirtual 117, 3) := by decide +kernel
theorem dX11_single_196 : decode cX11_single 196 = .ok (.invokevirtual 123, 3) := by decide +kernel
theorem dX11_single_199 : decode cX11_single 199 = .ok (.ireturn, 1) := by decide +kernel
theorem dX11_single_200 : decode cX11_single 200 = .ok (.bipush (-102), 2) := by decide +kernel
theorem dX11_single_202 : decode cX11_single 202 = .ok (.ireturn, 1) := by decide +kernel
theorem dX11_as_0 : decode cX11_as 0 = .ok (.aload_n 0, 1) := by decide +kernel
theorem dX11_as_1 : decode cX11_as 1 = .ok (.getfield 19, 3) := by decide +kernel
theorem dX11_as_4 : decode cX11_as 4 = .ok (.iload_n 1, 1) := by decide +kernel
theorem dX11_as_5 : decode cX11_as 5 = .ok (.invokevirtual 77, 3) := by decide +kernel
theorem dX11_as_8 : decode cX11_as 8 = .ok (.ifCond .ne 6, 3) := by decide +kernel
theorem dX11_as_11 : decode cX11_as 11 = .ok (.bipush (-101), 2) := by decide +kernel
theorem dX11_as_13 : decode cX11_as 13 = .ok (.ireturn, 1) := by decide +kernel
theorem dX11_as_14 : decode cX11_as 14 = .ok (.iload_n 2, 1) := by decide +kernel
theorem dX11_as_15 : decode cX11_as 15 = .ok (.ifCond .lt 8, 3) := by decide +kernel
theorem dX11_as_18 : decode cX11_as 18 = .ok (.iload_n 2, 1) := by decide +kernel
theorem dX11_as_19 : decode cX11_as 19 = .ok (.iconst 5, 1) := by decide +kernel
theorem dX11_as_20 : decode cX11_as 20 = .ok (.if_icmp .lt 6, 3) := by decide +kernel
theorem dX11_as_23 : decode cX11_as 23 = .ok (.bipush (-102), 2) := by decide +kernel
theorem dX11_as_25 : decode cX11_as 25 = .ok (.ireturn, 1) := by decide +kernel
theorem dX11_as_26 : decode cX11_as 26 = .ok (.aload_n 0, 1) := by decide +kernel
theorem dX11_as_27 : decode cX11_as 27 = .ok (.getfield 19, 3) := by decide +kernel
theorem dX11_as_30 : decode cX11_as 30 = .ok (.getfield 80, 3) := by decide +kernel
theorem dX11_as_33 : decode cX11_as 33 = .ok (.iload_n 1, 1) := by decide +kernel
theorem dX11_as_34 : decode cX11_as 34 = .ok (.aaload, 1) := by decide +kernel
theorem dX11_as_35 : decode cX11_as 35 = .ok (.iload_n 2, 1) := by decide +kernel
theorem dX11_as_36 : decode cX11_as 36 = .ok (.invokestatic 127, 3) := by decide +kernel
theorem dX11_as_39 : decode cX11_as 39 = .ok (.ifCond .eq 7, 3) := by decide +kernel
theorem dX11_as_42 : decode cX11_as 42 = .ok (.iload_n 1, 1) := by decide +kernel
theorem dX11_as_43 : decode cX11_as 43 = .ok (.goto 4, 3) := by decide +kernel
theorem dX11_as_46 : decode cX11_as 46 = .ok (.iconst (-1), 1) := by decide +kernel
theorem dX11_as_47 : decode cX11_as 47 = .ok (.ireturn, 1) := by decide +kernel
theorem dX11_likeness_0 : decode cX11_likeness 0 = .ok (.aload_n 0, 1) := by decide +kernel
theorem dX11_likeness_1 : decode cX11_likeness 1 = .ok (.getfield 19, 3) := by decide +kernel
theorem dX11_likeness_4 : decode cX11_likeness 4 = .ok (.iload_n 1, 1) := by decide +kernel
theorem dX11_likeness_5 : decode cX11_likeness 5 = .ok (.iload_n 2, 1) := by decide +kernel
theorem dX11_likeness_6 : decode cX11_likeness 6 = .ok (.invokevirtual 131, 3) := by decide +kernel
theorem dX11_likeness_9 : decode cX11_likeness 9 = .ok (.ifCond .eq 15, 3) := by decide +kernel
theorem dX11_likeness_12 : decode cX11_likeness 12 = .ok (.aload_n 0, 1) := by decide +kernel
theorem dX11_likeness_13 : decode cX11_likeness 13 = .ok (.getfield 19, 3) := by decide +kernel
theorem dX11_likeness_16 : decode cX11_likeness 16 = .ok (.iload_n 1, 1) := by decide +kernel
theorem dX11_likeness_17 : decode cX11_likeness 17 = .ok (.iload_n 2, 1) := by decide +kernel
theorem dX11_likeness_18 : decode cX11_likeness 18 = .ok (.invokevirtual 135, 3) := by decide +kernel
theorem dX11_likeness_21 : decode cX11_likeness 21 = .ok (.goto 5, 3) := by decide +kernel
theorem dX11_likeness_24 : decode cX11_likeness 24 = .ok (.bipush (-101), 2) := by decide +kernel
theorem dX11_likeness_26 : decode cX11_likeness 26 = .ok (.ireturn, 1) := by decide +kernel
theorem dX11_apart_0 : decode cX11_apart 0 = .ok (.aload_n 0, 1) := by decide +kernel
theorem dX11_apart_1 : decode cX11_apart 1 = .ok (.getfield 19, 3) := by decide +kernel
theorem dX11_apart_4 : decode cX11_apart 4 = .ok (.iload_n 1, 1) := by decide +kernel
theorem dX11_apart_5 : decode cX11_apart 5 = .ok (.iload_n 2, 1) := by decide +kernel
theorem dX11_apart_6 : decode cX11_apart 6 = .ok (.invokevirtual 131, 3) := by decide +kernel
theorem dX11_apart_9 : decode cX11_apart 9 = .ok (.ifCond .eq 27, 3) := by decide +kernel
theorem dX11_apart_12 : decode cX11_apart 12 = .ok (.aload_n 0, 1) := by decide +kernel
theorem dX11_apart_13 : decode cX11_apart 13 = .ok (.getfield 19, 3) := by decide +kernel
theorem dX11_apart_16 : decode cX11_apart 16 = .ok (.getfield 80, 3) := by decide +kernel
theorem dX11_apart_19 : decode cX11_apart 19 = .ok (.iload_n 1, 1) := by decide +kernel
theorem dX11_apart_20 : decode cX11_apart 20 = .ok (.aaload, 1) := by decide +kernel
theorem dX11_apart_21 : decode cX11_apart 21 = .ok (.aload_n 0, 1) := by decide +kernel
theorem dX11_apart_22 : decode cX11_apart 22 = .ok (.getfield 19, 3) := by decide +kernel
theorem dX11_apart_25 : decode cX11_apart 25 = .ok (.getfield 80, 3) := by decide +kernel
theorem dX11_apart_28 : decode cX11_apart 28 = .ok (.iload_n 2, 1) := by decide +kernel
theorem dX11_apart_29 : decode cX11_apart 29 = .ok (.aaload, 1) := by decide +kernel
theorem dX11_apart_30 : decode cX11_apart 30 = .ok (.invokevirtual 138, 3) := by decide +kernel
theorem dX11_apart_33 : decode cX11_apart 33 = .ok (.goto 5, 3) := by decide +kernel
theorem dX11_apart_36 : decode cX11_apart 36 = .ok (.bipush (-101), 2) := by decide +kernel
theorem dX11_apart_38 : decode cX11_apart 38 = .ok (.ireturn, 1) := by decide +kernel
theorem dX11_carry_0 : decode cX11_carry 0 = .ok (.aload_n 0, 1) := by decide +kernel
theorem dX11_carry_1 : decode cX11_carry 1 = .ok (.getfield 19, 3) := by decide +kernel
theorem dX11_carry_4 : decode cX11_carry 4 = .ok (.iload_n 1, 1) := by decide +kernel
theorem dX11_carry_5 : decode cX11_carry 5 = .ok (.invokevirtual 77, 3) := by decide +kernel
theorem dX11_carry_8 : decode cX11_carry 8 = .ok (.ifCond .eq 10, 3) := by decide +kernel
theorem dX11_carry_11 : decode cX11_carry 11 = .ok (.iload_n 2, 1) := by decide +kernel
theorem dX11_carry_12 : decode cX11_carry 12 = .ok (.invokestatic 142, 3) := by decide +kernel
theorem dX11_carry_15 : decode cX11_carry 15 = .ok (.ifCond .ne 6, 3) := by decide +kernel
theorem dX11_carry_18 : decode cX11_carry 18 = .ok (.bipush (-101), 2) := by decide +kernel
theorem dX11_carry_20 : decode cX11_carry 20 = .ok (.ireturn, 1) := by decide +kernel
theorem dX11_carry_21 : decode cX11_carry 21 = .ok (.aload_n 0, 1) := by decide +kernel
theorem dX11_carry_22 : decode cX11_carry 22 = .ok (.getfield 19, 3) := by decide +kernel
theorem dX11_carry_25 : decode cX11_carry 25 = .ok (.iload_n 1, 1) := by decide +kernel
theorem dX11_carry_26 : decode cX11_carry 26 = .ok (.invokevirtual 145, 3) := by decide +kernel
theorem dX11_carry_29 : decode cX11_carry 29 = .ok (.ifCond .eq 6, 3) := by decide +kernel
theorem dX11_carry_32 : decode cX11_carry 32 = .ok (.bipush (-103), 2) := by decide +kernel
theorem dX11_carry_34 : decode cX11_carry 34 = .ok (.ireturn, 1) := by decide +kernel
theorem dX11_carry_35 : decode cX11_carry 35 = .ok (.aload_n 0, 1) := by decide +kernel
theorem dX11_carry_36 : decode cX11_carry 36 = .ok (.getfield 19, 3) := by decide +kernel
theorem dX11_carry_39 : decode cX11_carry 39 = .ok (.iload_n 1, 1) := by decide +kernel
theorem dX11_carry_40 : decode cX11_carry 40 = .ok (.iload_n 2, 1) := by decide +kernel
theorem dX11_carry_41 : decode cX11_carry 41 = .ok (.invokevirtual 148, 3) := by decide +kernel
theorem dX11_carry_44 : decode cX11_carry 44 = .ok (.ireturn, 1) := by decide +kernel
theorem dX11_bring_0 : decode cX11_bring 0 = .ok (.aload_n 0, 1) := by decide +kernel
theorem dX11_bring_1 : decode cX11_bring 1 = .ok (.getfield 19, 3) := by decide +kernel
theorem dX11_bring_4 : decode cX11_bring 4 = .ok (.iload_n 1, 1) := by decide +kernel
theorem dX11_bring_5 : decode cX11_bring 5 = .ok (.iload_n 2, 1) := by decide +kernel
theorem dX11_bring_6 : decode cX11_bring 6 = .ok (.invokevirtual 131, 3) := by decide +kernel
theorem dX11_bring_9 : decode cX11_bring 9 = .ok (.ifCond .ne 6, 3) := by decide +kernel
theorem dX11_bring_12 : decode cX11_bring 12 = .ok (.bipush (-101), 2) := by decide +kernel
theorem dX11_bring_14 : decode cX11_bring 14 = .ok (.ireturn, 1) := by decide +kernel
theorem dX11_bring_15 : decode cX11_bring 15 = .ok (.aload_n 0, 1) := by decide +kernel
theorem dX11_bring_16 : decode cX11_bring 16 = .ok (.getfield 19, 3) := by decide +kernel
theorem dX11_bring_19 : decode cX11_bring 19 = .ok (.iload_n 1, 1) := by decide +kernel
theorem dX11_bring_20 : decode cX11_bring 20 = .ok (.iload_n 2, 1) := by decide +kernel
theorem dX11_bring_21 : decode cX11_bring 21 = .ok (.invokevirtual 151, 3) := by decide +kernel
theorem dX11_bring_24 : decode cX11_bring 24 = .ok (.ifCond .ne 6, 3) := by decide +kernel
theorem dX11_bring_27 : decode cX11_bring 27 = .ok (.bipush (-103), 2) := by decide +kernel
theorem dX11_bring_29 : decode cX11_bring 29 = .ok (.ireturn, 1) := by decide +kernel
theorem dX11_bring_30 : decode cX11_bring 30 = .ok (.aload_n 0, 1) := by decide +kernel
theorem dX11_bring_31 : decode cX11_bring 31 = .ok (.getfield 19, 3) := by decide +kernel
theorem dX11_bring_34 : decode cX11_bring 34 = .ok (.iload_n 1, 1) := by decide +kernel
theorem dX11_bring_35 : decode cX11_bring 35 = .ok (.iload_n 2, 1) := by decide +kernel
theorem dX11_bring_36 : decode cX11_bring 36 = .ok (.invokevirtual 154, 3) := by decide +kernel
theorem dX11_bring_39 : decode cX11_bring 39 = .ok (.aload_n 0, 1) := by decide +kernel
theorem dX11_bring_40 : decode cX11_bring 40 = .ok (.getfield 19, 3) := by decide +kernel
theorem dX11_bring_43 : decode cX11_bring 43 = .ok (.dup, 1) := by decide +kernel
theorem dX11_bring_44 : decode cX11_bring 44 = .ok (.getfield 158, 3) := by decide +kernel
theorem dX11_bring_47 : decode cX11_bring 47 = .ok (.iconst 1, 1) := by decide +kernel
theorem dX11_bring_48 : decode cX11_bring 48 = .ok (.iadd, 1) := by decide +kernel
theorem dX11_bring_49 : decode cX11_bring 49 = .ok (.putfield 158, 3) := by decide +kernel
theorem dX11_bring_52 : decode cX11_bring 52 = .ok (.aload_n 0, 1) := by decide +kernel
theorem dX11_bring_53 : decode cX11_bring 53 = .ok (.getfield 19, 3) := by decide +kernel
theorem dX11_bring_56 : decode cX11_bring 56 = .ok (.iload_n 1, 1) := by decide +kernel
theorem dX11_bring_57 : decode cX11_bring 57 = .ok (.iload_n 2, 1) := by decide +kernel
theorem dX11_bring_58 : decode cX11_bring 58 = .ok (.invokevirtual 135, 3) := by decide +kernel
theorem dX11_bring_61 : decode cX11_bring 61 = .ok (.ireturn, 1) := by decide +kernel
theorem dX11_part_0 : decode cX11_part 0 = .ok (.aload_n 0, 1) := by decide +kernel
theorem dX11_part_1 : decode cX11_part 1 = .ok (.getfield 19, 3) := by decide +kernel
theorem dX11_part_4 : decode cX11_part 4 = .ok (.iload_n 1, 1) := by decide +kernel
theorem dX11_part_5 : decode cX11_part 5 = .ok (.invokevirtual 77, 3) := by decide +kernel
theorem dX11_part_8 : decode cX11_part 8 = .ok (.ifCond .ne 6, 3) := by decide +kernel
theorem dX11_part_11 : decode cX11_part 11 = .ok (.bipush (-101), 2) := by decide +kernel
theorem dX11_part_13 : decode cX11_part 13 = .ok (.ireturn, 1) := by decide +kernel
theorem dX11_part_14 : decode cX11_part 14 = .ok (.aload_n 0, 1) := by decide +kernel
theorem dX11_part_15 : decode cX11_part 15 = .ok (.getfield 19, 3) := by decide +kernel
theorem dX11_part_18 : decode cX11_part 18 = .ok (.iload_n 1, 1) := by decide +kernel
theorem dX11_part_19 : decode cX11_part 19 = .ok (.invokevirtual 145, 3) := by decide +kernel
theorem dX11_part_22 : decode cX11_part 22 = .ok (.ifCond .ne 6, 3) := by decide +kernel
theorem dX11_part_25 : decode cX11_part 25 = .ok (.bipush (-103), 2) := by decide +kernel
theorem dX11_part_27 : decode cX11_part 27 = .ok (.ireturn, 1) := by decide +kernel
theorem dX11_part_28 : decode cX11_part 28 = .ok (.aload_n 0, 1) := by decide +kernel
theorem dX11_part_29 : decode cX11_part 29 = .ok (.getfield 19, 3) := by decide +kernel
theorem dX11_part_32 : decode cX11_part 32 = .ok (.getfield 80, 3) := by decide +kernel
theorem dX11_part_35 : decode cX11_part 35 = .ok (.iload_n 1, 1) := by decide +kernel
theorem dX11_part_36 : decode cX11_part 36 = .ok (.aaload, 1) := by decide +kernel
theorem dX11_part_37 : decode cX11_part 37 = .ok (.getfield 96, 3) := by decide +kernel
theorem dX11_part_40 : decode cX11_part 40 = .ok (.istore_n 2, 1) := by decide +kernel
theorem dX11_part_41 : decode cX11_part 41 = .ok (.aload_n 0, 1) := by decide +kernel
theorem dX11_part_42 : decode cX11_part 42 = .ok (.getfield 19, 3) := by decide +kernel
theorem dX11_part_45 : decode cX11_part 45 = .ok (.iload_n 1, 1) := by decide +kernel
theorem dX11_part_46 : decode cX11_part 46 = .ok (.invokevirtual 161, 3) := by decide +kernel
theorem dX11_part_49 : decode cX11_part 49 = .ok (.aload_n 0, 1) := by decide +kernel
theorem dX11_part_50 : decode cX11_part 50 = .ok (.getfield 19, 3) := by decide +kernel
theorem dX11_part_53 : decode cX11_part 53 = .ok (.dup, 1) := by decide +kernel
theorem dX11_part_54 : decode cX11_part 54 = .ok (.getfield 165, 3) := by decide +kernel
theorem dX11_part_57 : decode cX11_part 57 = .ok (.iconst 1, 1) := by decide +kernel
theorem dX11_part_58 : decode cX11_part 58 = .ok (.iadd, 1) := by decide +kernel
theorem dX11_part_59 : decode cX11_part 59 = .ok (.putfield 165, 3) := by decide +kernel
theorem dX11_part_62 : decode cX11_part 62 = .ok (.iload_n 2, 1) := by decide +kernel
theorem dX11_part_63 : decode cX11_part 63 = .ok (.ireturn, 1) := by decide +kernel
theorem dX11_shrink_0 : decode cX11_shrink 0 = .ok (.aload_n 0, 1) := by decide +kernel
theorem dX11_shrink_1 : decode cX11_shrink 1 = .ok (.getfield 19, 3) := by decide +kernel
theorem dX11_shrink_4 : decode cX11_shrink 4 = .ok (.iload_n 1, 1) := by decide +kernel
theorem dX11_shrink_5 : decode cX11_shrink 5 = .ok (.invokevirtual 77, 3) := by decide +kernel
theorem dX11_shrink_8 : decode cX11_shrink 8 = .ok (.ifCond .ne 6, 3) := by decide +kernel
theorem dX11_shrink_11 : decode cX11_shrink 11 = .ok (.bipush (-101), 2) := by decide +kernel
theorem dX11_shrink_13 : decode cX11_shrink 13 = .ok (.ireturn, 1) := by decide +kernel
theorem dX11_shrink_14 : decode cX11_shrink 14 = .ok (.iload_n 2, 1) := by decide +kernel
theorem dX11_shrink_15 : decode cX11_shrink 15 = .ok (.ifCond .lt 9, 3) := by decide +kernel
theorem dX11_shrink_18 : decode cX11_shrink 18 = .ok (.iload_n 2, 1) := by decide +kernel
theorem dX11_shrink_19 : decode cX11_shrink 19 = .ok (.bipush 10, 2) := by decide +kernel
theorem dX11_shrink_21 : decode cX11_shrink 21 = .ok (.if_icmp .lt 6, 3) := by decide +kernel
theorem dX11_shrink_24 : decode cX11_shrink 24 = .ok (.bipush (-102), 2) := by decide +kernel
theorem dX11_shrink_26 : decode cX11_shrink 26 = .ok (.ireturn, 1) := by decide +kernel
theorem dX11_shrink_27 : decode cX11_shrink 27 = .ok (.aload_n 0, 1) := by decide +kernel
theorem dX11_shrink_28 : decode cX11_shrink 28 = .ok (.getfield 19, 3) := by decide +kernel
theorem dX11_shrink_31 : decode cX11_shrink 31 = .ok (.iload_n 1, 1) := by decide +kernel
theorem dX11_shrink_32 : decode cX11_shrink 32 = .ok (.invokevirtual 145, 3) := by decide +kernel
theorem dX11_shrink_35 : decode cX11_shrink 35 = .ok (.ifCond .eq 6, 3) := by decide +kernel
theorem dX11_shrink_38 : decode cX11_shrink 38 = .ok (.bipush (-103), 2) := by decide +kernel
theorem dX11_shrink_40 : decode cX11_shrink 40 = .ok (.ireturn, 1) := by decide +kernel
theorem dX11_shrink_41 : decode cX11_shrink 41 = .ok (.aload_n 0, 1) := by decide +kernel
theorem dX11_shrink_42 : decode cX11_shrink 42 = .ok (.getfield 19, 3) := by decide +kernel
theorem dX11_shrink_45 : decode cX11_shrink 45 = .ok (.getfield 80, 3) := by decide +kernel
theorem dX11_shrink_48 : decode cX11_shrink 48 = .ok (.iload_n 1, 1) := by decide +kernel
theorem dX11_shrink_49 : decode cX11_shrink 49 = .ok (.aaload, 1) := by decide +kernel
theorem dX11_shrink_50 : decode cX11_shrink 50 = .ok (.getfield 92, 3) := by decide +kernel
theorem dX11_shrink_53 : decode cX11_shrink 53 = .ok (.istore_n 3, 1) := by decide +kernel
theorem dX11_shrink_54 : decode cX11_shrink 54 = .ok (.aload_n 0, 1) := by decide +kernel
theorem dX11_shrink_55 : decode cX11_shrink 55 = .ok (.getfield 19, 3) := by decide +kernel
theorem dX11_shrink_58 : decode cX11_shrink 58 = .ok (.getfield 80, 3) := by decide +kernel
theorem dX11_shrink_61 : decode cX11_shrink 61 = .ok (.iload_n 1, 1) := by decide +kernel
theorem dX11_shrink_62 : decode cX11_shrink 62 = .ok (.aaload, 1) := by decide +kernel
theorem dX11_shrink_63 : decode cX11_shrink 63 = .ok (.iload_n 2, 1) := by decide +kernel
theorem dX11_shrink_64 : decode cX11_shrink 64 = .ok (.putfield 92, 3) := by decide +kernel
theorem dX11_shrink_67 : decode cX11_shrink 67 = .ok (.iload_n 3, 1) := by decide +kernel
theorem dX11_shrink_68 : decode cX11_shrink 68 = .ok (.ireturn, 1) := by decide +kernel
theorem dX11_may_0 : decode cX11_may 0 = .ok (.aload_n 0, 1) := by decide +kernel
theorem dX11_may_1 : decode cX11_may 1 = .ok (.getfield 19, 3) := by decide +kernel
theorem dX11_may_4 : decode cX11_may 4 = .ok (.invokevirtual 168, 3) := by decide +kernel
theorem dX11_may_7 : decode cX11_may 7 = .ok (.ifCond .eq 6, 3) := by decide +kernel
theorem dX11_may_10 : decode cX11_may 10 = .ok (.bipush (-103), 2) := by decide +kernel
theorem dX11_may_12 : decode cX11_may 12 = .ok (.ireturn, 1) := by decide +kernel
theorem dX11_may_13 : decode cX11_may 13 = .ok (.aload_n 0, 1) := by decide +kernel
theorem dX11_may_14 : decode cX11_may 14 = .ok (.getfield 19, 3) := by decide +kernel
theorem dX11_may_17 : decode cX11_may 17 = .ok (.invokevirtual 171, 3) := by decide +kernel
theorem dX11_may_20 : decode cX11_may 20 = .ok (.aload_n 0, 1) := by decide +kernel
theorem dX11_may_21 : decode cX11_may 21 = .ok (.getfield 19, 3) := by decide +kernel
theorem dX11_may_24 : decode cX11_may 24 = .ok (.dup, 1) := by decide +kernel
theorem dX11_may_25 : decode cX11_may 25 = .ok (.getfield 174, 3) := by decide +kernel
theorem dX11_may_28 : decode cX11_may 28 = .ok (.iconst 1, 1) := by decide +kernel
theorem dX11_may_29 : decode cX11_may 29 = .ok (.iadd, 1) := by decide +kernel
theorem dX11_may_30 : decode cX11_may 30 = .ok (.putfield 174, 3) := by decide +kernel
theorem dX11_may_33 : decode cX11_may 33 = .ok (.aload_n 0, 1) := by decide +kernel
theorem dX11_may_34 : decode cX11_may 34 = .ok (.getfield 19, 3) := by decide +kernel
theorem dX11_may_37 : decode cX11_may 37 = .ok (.invokevirtual 177, 3) := by decide +kernel
theorem dX11_may_40 : decode cX11_may 40 = .ok (.ireturn, 1) := by decide +kernel
theorem dX11_most_0 : decode cX11_most 0 = .ok (.iload_n 1, 1) := by decide +kernel
theorem dX11_most_1 : decode cX11_most 1 = .ok (.invokestatic 180, 3) := by decide +kernel
theorem dX11_most_4 : decode cX11_most 4 = .ok (.ifCond .ne 6, 3) := by decide +kernel
theorem dX11_most_7 : decode cX11_most 7 = .ok (.bipush (-102), 2) := by decide +kernel
theorem dX11_most_9 : decode cX11_most 9 = .ok (.ireturn, 1) := by decide +kernel
theorem dX11_most_10 : decode cX11_most 10 = .ok (.aload_n 0, 1) := by decide +kernel
theorem dX11_most_11 : decode cX11_most 11 = .ok (.getfield 19, 3) := by decide +kernel
theorem dX11_most_14 : decode cX11_most 14 = .ok (.invokevirtual 168, 3) := by decide +kernel
theorem dX11_most_17 : decode cX11_most 17 = .ok (.ifCond .eq 6, 3) := by decide +kernel
theorem dX11_most_20 : decode cX11_most 20 = .ok (.bipush (-103), 2) := by decide +kernel
theorem dX11_most_22 : decode cX11_most 22 = .ok (.ireturn, 1) := by decide +kernel
theorem dX11_most_23 : decode cX11_most 23 = .ok (.aload_n 0, 1) := by decide +kernel
theorem dX11_most_24 : decode cX11_most 24 = .ok (.getfield 33, 3) := by decide +kernel
theorem dX11_most_27 : decode cX11_most 27 = .ok (.aload_n 0, 1) := by decide +kernel
theorem dX11_most_28 : decode cX11_most 28 = .ok (.getfield 19, 3) := by decide +kernel
theorem dX11_most_31 : decode cX11_most 31 = .ok (.iconst 0, 1) := by decide +kernel
theorem dX11_most_32 : decode cX11_most 32 = .ok (.bipush 30, 2) := by decide +kernel
theorem dX11_most_34 : decode cX11_most 34 = .ok (.invokevirtual 183, 3) := by decide +kernel
theorem dX11_most_37 : decode cX11_most 37 = .ok (.aload_n 0, 1) := by decide +kernel
theorem dX11_most_38 : decode cX11_most 38 = .ok (.iload_n 1, 1) := by decide +kernel
theorem dX11_most_39 : decode cX11_most 39 = .ok (.invokevirtual 187, 3) := by decide +kernel
theorem dX11_most_42 : decode cX11_most 42 = .ok (.ireturn, 1) := by decide +kernel
theorem dX11_best_0 : decode cX11_best 0 = .ok (.iload_n 1, 1) := by decide +kernel
theorem dX11_best_1 : decode cX11_best 1 = .ok (.ifCond .lt 16, 3) := by decide +kernel
theorem dX11_best_4 : decode cX11_best 4 = .ok (.iload_n 1, 1) := by decide +kernel
theorem dX11_best_5 : decode cX11_best 5 = .ok (.bipush 30, 2) := by decide +kernel
theorem dX11_best_7 : decode cX11_best 7 = .ok (.if_icmp .gt 10, 3) := by decide +kernel
theorem dX11_best_10 : decode cX11_best 10 = .ok (.iload_n 2, 1) := by decide +kernel
theorem dX11_best_11 : decode cX11_best 11 = .ok (.invokestatic 180, 3) := by decide +kernel
theorem dX11_best_14 : decode cX11_best 14 = .ok (.ifCond .ne 6, 3) := by decide +kernel
theorem dX11_best_17 : decode cX11_best 17 = .ok (.bipush (-102), 2) := by decide +kernel
theorem dX11_best_19 : decode cX11_best 19 = .ok (.ireturn, 1) := by decide +kernel
theorem dX11_best_20 : decode cX11_best 20 = .ok (.aload_n 0, 1) := by decide +kernel
theorem dX11_best_21 : decode cX11_best 21 = .ok (.getfield 19, 3) := by decide +kernel
theorem dX11_best_24 : decode cX11_best 24 = .ok (.invokevirtual 168, 3) := by decide +kernel
theorem dX11_best_27 : decode cX11_best 27 = .ok (.ifCond .eq 6, 3) := by decide +kernel
theorem dX11_best_30 : decode cX11_best 30 = .ok (.bipush (-103), 2) := by decide +kernel
theorem dX11_best_32 : decode cX11_best 32 = .ok (.ireturn, 1) := by decide +kernel
theorem dX11_best_33 : decode cX11_best 33 = .ok (.aload_n 0, 1) := by decide +kernel
theorem dX11_best_34 : decode cX11_best 34 = .ok (.getfield 33, 3) := by decide +kernel
theorem dX11_best_37 : decode cX11_best 37 = .ok (.aload_n 0, 1) := by decide +kernel
theorem dX11_best_38 : decode cX11_best 38 = .ok (.getfield 19, 3) := by decide +kernel
theorem dX11_best_41 : decode cX11_best 41 = .ok (.iconst 1, 1) := by decide +kernel
theorem dX11_best_42 : decode cX11_best 42 = .ok (.iload_n 1, 1) := by decide +kernel
theorem dX11_best_43 : decode cX11_best 43 = .ok (.invokevirtual 183, 3) := by decide +kernel
theorem dX11_best_46 : decode cX11_best 46 = .ok (.aload_n 0, 1) := by decide +kernel
theorem dX11_best_47 : decode cX11_best 47 = .ok (.iload_n 2, 1) := by decide +kernel
theorem dX11_best_48 : decode cX11_best 48 = .ok (.invokevirtual 190, 3) := by decide +kernel
theorem dX11_best_51 : decode cX11_best 51 = .ok (.ireturn, 1) := by decide +kernel
theorem dX11_stable_0 : decode cX11_stable 0 = .ok (.iload_n 1, 1) := by decide +kernel
theorem dX11_stable_1 : decode cX11_stable 1 = .ok (.invokestatic 180, 3) := by decide +kernel
theorem dX11_stable_4 : decode cX11_stable 4 = .ok (.ifCond .ne 6, 3) := by decide +kernel
theorem dX11_stable_7 : decode cX11_stable 7 = .ok (.bipush (-102), 2) := by decide +kernel
theorem dX11_stable_9 : decode cX11_stable 9 = .ok (.ireturn, 1) := by decide +kernel
theorem dX11_stable_10 : decode cX11_stable 10 = .ok (.aload_n 0, 1) := by decide +kernel
theorem dX11_stable_11 : decode cX11_stable 11 = .ok (.getfield 19, 3) := by decide +kernel
theorem dX11_stable_14 : decode cX11_stable 14 = .ok (.invokevirtual 168, 3) := by decide +kernel
theorem dX11_stable_17 : decode cX11_stable 17 = .ok (.ifCond .eq 6, 3) := by decide +kernel
theorem dX11_stable_20 : decode cX11_stable 20 = .ok (.bipush (-103), 2) := by decide +kernel
theorem dX11_stable_22 : decode cX11_stable 22 = .ok (.ireturn, 1) := by decide +kernel
theorem dX11_stable_23 : decode cX11_stable 23 = .ok (.aload_n 0, 1) := by decide +kernel
theorem dX11_stable_24 : decode cX11_stable 24 = .ok (.getfield 33, 3) := by decide +kernel
theorem dX11_stable_27 : decode cX11_stable 27 = .ok (.aload_n 0, 1) := by decide +kernel
theorem dX11_stable_28 : decode cX11_stable 28 = .ok (.getfield 19, 3) := by decide +kernel
theorem dX11_stable_31 : decode cX11_stable 31 = .ok (.iconst 2, 1) := by decide +kernel
theorem dX11_stable_32 : decode cX11_stable 32 = .ok (.bipush 30, 2) := by decide +kernel
theorem dX11_stable_34 : decode cX11_stable 34 = .ok (.invokevirtual 183, 3) := by decide +kernel
theorem dX11_stable_37 : decode cX11_stable 37 = .ok (.aload_n 0, 1) := by decide +kernel
theorem dX11_stable_38 : decode cX11_stable 38 = .ok (.iload_n 1, 1) := by decide +kernel
theorem dX11_stable_39 : decode cX11_stable 39 = .ok (.invokevirtual 193, 3) := by decide +kernel
theorem dX11_stable_42 : decode cX11_stable 42 = .ok (.ireturn, 1) := by decide +kernel
theorem dX11_happy_0 : decode cX11_happy 0 = .ok (.aload_n 0, 1) := by decide +kernel
theorem dX11_happy_1 : decode cX11_happy 1 = .ok (.getfield 19, 3) := by decide +kernel
theorem dX11_happy_4 : decode cX11_happy 4 = .ok (.iload_n 1, 1) := by decide +kernel
theorem dX11_happy_5 : decode cX11_happy 5 = .ok (.invokevirtual 77, 3) := by decide +kernel
theorem dX11_happy_8 : decode cX11_happy 8 = .ok (.ifCond .ne 6, 3) := by decide +kernel
theorem dX11_happy_11 : decode cX11_happy 11 = .ok (.bipush (-101), 2) := by decide +kernel
theorem dX11_happy_13 : decode cX11_happy 13 = .ok (.ireturn, 1) := by decide +kernel
theorem dX11_happy_14 : decode cX11_happy 14 = .ok (.aload_n 0, 1) := by decide +kernel
theorem dX11_happy_15 : decode cX11_happy 15 = .ok (.getfield 19, 3) := by decide +kernel
theorem dX11_happy_18 : decode cX11_happy 18 = .ok (.iload_n 1, 1) := by decide +kernel
theorem dX11_happy_19 : decode cX11_happy 19 = .ok (.invokevirtual 145, 3) := by decide +kernel
theorem dX11_happy_22 : decode cX11_happy 22 = .ok (.ifCond .ne 6, 3) := by decide +kernel
theorem dX11_happy_25 : decode cX11_happy 25 = .ok (.bipush (-103), 2) := by decide +kernel
theorem dX11_happy_27 : decode cX11_happy 27 = .ok (.ireturn, 1) := by decide +kernel
theorem dX11_happy_28 : decode cX11_happy 28 = .ok (.aload_n 0, 1) := by decide +kernel
theorem dX11_happy_29 : decode cX11_happy 29 = .ok (.getfield 19, 3) := by decide +kernel
theorem dX11_happy_32 : decode cX11_happy 32 = .ok (.getfield 80, 3) := by decide +kernel
theorem dX11_happy_35 : decode cX11_happy 35 = .ok (.iload_n 1, 1) := by decide +kernel
theorem dX11_happy_36 : decode cX11_happy 36 = .ok (.aaload, 1) := by decide +kernel
theorem dX11_happy_37 : decode cX11_happy 37 = .ok (.getfield 96, 3) := by decide +kernel
theorem dX11_happy_40 : decode cX11_happy 40 = .ok (.istore_n 2, 1) := by decide +kernel
theorem dX11_happy_41 : decode cX11_happy 41 = .ok (.aload_n 0, 1) := by decide +kernel
theorem dX11_happy_42 : decode cX11_happy 42 = .ok (.getfield 19, 3) := by decide +kernel
theorem dX11_happy_45 : decode cX11_happy 45 = .ok (.iload_n 1, 1) := by decide +kernel
theorem dX11_happy_46 : decode cX11_happy 46 = .ok (.invokevirtual 103, 3) := by decide +kernel
theorem dX11_happy_49 : decode cX11_happy 49 = .ok (.iload_n 2, 1) := by decide +kernel
theorem dX11_happy_50 : decode cX11_happy 50 = .ok (.if_icmp .ne 19, 3) := by decide +kernel
theorem dX11_happy_53 : decode cX11_happy 53 = .ok (.aload_n 0, 1) := by decide +kernel
theorem dX11_happy_54 : decode cX11_happy 54 = .ok (.getfield 19, 3) := by decide +kernel
theorem dX11_happy_57 : decode cX11_happy 57 = .ok (.iload_n 2, 1) := by decide +kernel
theorem dX11_happy_58 : decode cX11_happy 58 = .ok (.invokevirtual 103, 3) := by decide +kernel
theorem dX11_happy_61 : decode cX11_happy 61 = .ok (.iload_n 1, 1) := by decide +kernel
theorem dX11_happy_62 : decode cX11_happy 62 = .ok (.if_icmp .ne 7, 3) := by decide +kernel
theorem dX11_happy_65 : decode cX11_happy 65 = .ok (.iconst 1, 1) := by decide +kernel
theorem dX11_happy_66 : decode cX11_happy 66 = .ok (.goto 4, 3) := by decide +kernel
theorem dX11_happy_69 : decode cX11_happy 69 = .ok (.iconst 0, 1) := by decide +kernel
theorem dX11_happy_70 : decode cX11_happy 70 = .ok (.ireturn, 1) := by decide +kernel
theorem dX11_round_0 : decode cX11_round 0 = .ok (.iload_n 1, 1) := by decide +kernel
theorem dX11_round_1 : decode cX11_round 1 = .ok (.invokestatic 142, 3) := by decide +kernel
theorem dX11_round_4 : decode cX11_round 4 = .ok (.ifCond .eq 13, 3) := by decide +kernel
theorem dX11_round_7 : decode cX11_round 7 = .ok (.aload_n 0, 1) := by decide +kernel
theorem dX11_round_8 : decode cX11_round 8 = .ok (.getfield 19, 3) := by decide +kernel
theorem dX11_round_11 : decode cX11_round 11 = .ok (.invokevirtual 168, 3) := by decide +kernel
theorem dX11_round_14 : decode cX11_round 14 = .ok (.ifCond .eq 6, 3) := by decide +kernel
theorem dX11_round_17 : decode cX11_round 17 = .ok (.bipush (-101), 2) := by decide +kernel
theorem dX11_round_19 : decode cX11_round 19 = .ok (.ireturn, 1) := by decide +kernel
theorem dX11_round_20 : decode cX11_round 20 = .ok (.aload_n 0, 1) := by decide +kernel
theorem dX11_round_21 : decode cX11_round 21 = .ok (.getfield 19, 3) := by decide +kernel
theorem dX11_round_24 : decode cX11_round 24 = .ok (.iload_n 1, 1) := by decide +kernel
theorem dX11_round_25 : decode cX11_round 25 = .ok (.invokevirtual 196, 3) := by decide +kernel
theorem dX11_round_28 : decode cX11_round 28 = .ok (.ireturn, 1) := by decide +kernel
theorem dX11_odds_0 : decode cX11_odds 0 = .ok (.iload_n 1, 1) := by decide +kernel
theorem dX11_odds_1 : decode cX11_odds 1 = .ok (.ifCond .eq 11, 3) := by decide +kernel
theorem dX11_odds_4 : decode cX11_odds 4 = .ok (.iload_n 1, 1) := by decide +kernel
theorem dX11_odds_5 : decode cX11_odds 5 = .ok (.iconst 1, 1) := by decide +kernel
theorem dX11_odds_6 : decode cX11_odds 6 = .ok (.if_icmp .eq 6, 3) := by decide +kernel
theorem dX11_odds_9 : decode cX11_odds 9 = .ok (.bipush (-102), 2) := by decide +kernel
theorem dX11_odds_11 : decode cX11_odds 11 = .ok (.ireturn, 1) := by decide +kernel
theorem dX11_odds_12 : decode cX11_odds 12 = .ok (.aload_n 0, 1) := by decide +kernel
theorem dX11_odds_13 : decode cX11_odds 13 = .ok (.getfield 19, 3) := by decide +kernel
theorem dX11_odds_16 : decode cX11_odds 16 = .ok (.invokevirtual 168, 3) := by decide +kernel
theorem dX11_odds_19 : decode cX11_odds 19 = .ok (.ifCond .eq 6, 3) := by decide +kernel
theorem dX11_odds_22 : decode cX11_odds 22 = .ok (.bipush (-103), 2) := by decide +kernel
theorem dX11_odds_24 : decode cX11_odds 24 = .ok (.ireturn, 1) := by decide +kernel
theorem dX11_odds_25 : decode cX11_odds 25 = .ok (.aload_n 0, 1) := by decide +kernel
theorem dX11_odds_26 : decode cX11_odds 26 = .ok (.getfield 19, 3) := by decide +kernel
theorem dX11_odds_29 : decode cX11_odds 29 = .ok (.invokevirtual 199, 3) := by decide +kernel
theorem dX11_odds_32 : decode cX11_odds 32 = .ok (.istore_n 2, 1) := by decide +kernel
theorem dX11_odds_33 : decode cX11_odds 33 = .ok (.aload_n 0, 1) := by decide +kernel
theorem dX11_odds_34 : decode cX11_odds 34 = .ok (.getfield 19, 3) := by decide +kernel
theorem dX11_odds_37 : decode cX11_odds 37 = .ok (.invokevirtual 202, 3) := by decide +kernel
theorem dX11_odds_40 : decode cX11_odds 40 = .ok (.istore_n 3, 1) := by decide +kernel
theorem dX11_odds_41 : decode cX11_odds 41 = .ok (.iload_n 3, 1) := by decide +kernel
theorem dX11_odds_42 : decode cX11_odds 42 = .ok (.ifCond .ne 13, 3) := by decide +kernel
theorem dX11_odds_45 : decode cX11_odds 45 = .ok (.iload_n 1, 1) := by decide +kernel
theorem dX11_odds_46 : decode cX11_odds 46 = .ok (.ifCond .ne 7, 3) := by decide +kernel
theorem dX11_odds_49 : decode cX11_odds 49 = .ok (.iconst 0, 1) := by decide +kernel
theorem dX11_odds_50 : decode cX11_odds 50 = .ok (.goto 4, 3) := by decide +kernel
theorem dX11_odds_53 : decode cX11_odds 53 = .ok (.iconst 1, 1) := by decide +kernel
theorem dX11_odds_54 : decode cX11_odds 54 = .ok (.ireturn, 1) := by decide +kernel
theorem dX11_odds_55 : decode cX11_odds 55 = .ok (.iload_n 2, 1) := by decide +kernel
theorem dX11_odds_56 : decode cX11_odds 56 = .ok (.iload_n 3, 1) := by decide +kernel
theorem dX11_odds_57 : decode cX11_odds 57 = .ok (.invokestatic 205, 3) := by decide +kernel
theorem dX11_odds_60 : decode cX11_odds 60 = .ok (.istore 4, 2) := by decide +kernel
theorem dX11_odds_62 : decode cX11_odds 62 = .ok (.iload_n 1, 1) := by decide +kernel
theorem dX11_odds_63 : decode cX11_odds 63 = .ok (.ifCond .ne 10, 3) := by decide +kernel
theorem dX11_odds_66 : decode cX11_odds 66 = .ok (.iload_n 2, 1) := by decide +kernel
theorem dX11_odds_67 : decode cX11_odds 67 = .ok (.iload 4, 2) := by decide +kernel
theorem dX11_odds_69 : decode cX11_odds 69 = .ok (.idiv, 1) := by decide +kernel
theorem dX11_odds_70 : decode cX11_odds 70 = .ok (.goto 7, 3) := by decide +kernel
theorem dX11_odds_73 : decode cX11_odds 73 = .ok (.iload_n 3, 1) := by decide +kernel
theorem dX11_odds_74 : decode cX11_odds 74 = .ok (.iload 4, 2) := by decide +kernel
theorem dX11_odds_76 : decode cX11_odds 76 = .ok (.idiv, 1) := by decide +kernel
theorem dX11_odds_77 : decode cX11_odds 77 = .ok (.ireturn, 1) := by decide +kernel
theorem dX11_see_0 : decode cX11_see 0 = .ok (.aload_n 0, 1) := by decide +kernel
theorem dX11_see_1 : decode cX11_see 1 = .ok (.getfield 19, 3) := by decide +kernel
theorem dX11_see_4 : decode cX11_see 4 = .ok (.iload_n 1, 1) := by decide +kernel
theorem dX11_see_5 : decode cX11_see 5 = .ok (.iload_n 2, 1) := by decide +kernel
theorem dX11_see_6 : decode cX11_see 6 = .ok (.invokevirtual 131, 3) := by decide +kernel
theorem dX11_see_9 : decode cX11_see 9 = .ok (.ifCond .ne 6, 3) := by decide +kernel
theorem dX11_see_12 : decode cX11_see 12 = .ok (.bipush (-101), 2) := by decide +kernel
theorem dX11_see_14 : decode cX11_see 14 = .ok (.ireturn, 1) := by decide +kernel
theorem dX11_see_15 : decode cX11_see 15 = .ok (.iload_n 3, 1) := by decide +kernel
theorem dX11_see_16 : decode cX11_see 16 = .ok (.iconst (-1), 1) := by decide +kernel
theorem dX11_see_17 : decode cX11_see 17 = .ok (.if_icmp .eq 16, 3) := by decide +kernel
theorem dX11_see_20 : decode cX11_see 20 = .ok (.iload_n 3, 1) := by decide +kernel
theorem dX11_see_21 : decode cX11_see 21 = .ok (.ifCond .lt 9, 3) := by decide +kernel
theorem dX11_see_24 : decode cX11_see 24 = .ok (.iload_n 3, 1) := by decide +kernel
theorem dX11_see_25 : decode cX11_see 25 = .ok (.bipush 18, 2) := by decide +kernel
theorem dX11_see_27 : decode cX11_see 27 = .ok (.if_icmp .le 6, 3) := by decide +kernel
theorem dX11_see_30 : decode cX11_see 30 = .ok (.bipush (-102), 2) := by decide +kernel
theorem dX11_see_32 : decode cX11_see 32 = .ok (.ireturn, 1) := by decide +kernel
theorem dX11_see_33 : decode cX11_see 33 = .ok (.aload_n 0, 1) := by decide +kernel
theorem dX11_see_34 : decode cX11_see 34 = .ok (.getfield 19, 3) := by decide +kernel
theorem dX11_see_37 : decode cX11_see 37 = .ok (.getfield 113, 3) := by decide +kernel
theorem dX11_see_40 : decode cX11_see 40 = .ok (.iload_n 1, 1) := by decide +kernel
theorem dX11_see_41 : decode cX11_see 41 = .ok (.iload_n 2, 1) := by decide +kernel
theorem dX11_see_42 : decode cX11_see 42 = .ok (.iload_n 3, 1) := by decide +kernel
theorem dX11_see_43 : decode cX11_see 43 = .ok (.invokevirtual 208, 3) := by decide +kernel
theorem dX11_see_46 : decode cX11_see 46 = .ok (.ifCond .eq 16, 3) := by decide +kernel
theorem dX11_see_49 : decode cX11_see 49 = .ok (.aload_n 0, 1) := by decide +kernel
theorem dX11_see_50 : decode cX11_see 50 = .ok (.getfield 19, 3) := by decide +kernel
theorem dX11_see_53 : decode cX11_see 53 = .ok (.getfield 113, 3) := by decide +kernel
theorem dX11_see_56 : decode cX11_see 56 = .ok (.getfield 212, 3) := by decide +kernel
theorem dX11_see_59 : decode cX11_see 59 = .ok (.goto 5, 3) := by decide +kernel
theorem dX11_see_62 : decode cX11_see 62 = .ok (.bipush (-104), 2) := by decide +kernel
theorem dX11_see_64 : decode cX11_see 64 = .ok (.ireturn, 1) := by decide +kernel
theorem dX11_forget_0 : decode cX11_forget 0 = .ok (.aload_n 0, 1) := by decide +kernel
theorem dX11_forget_1 : decode cX11_forget 1 = .ok (.getfield 19, 3) := by decide +kernel
theorem dX11_forget_4 : decode cX11_forget 4 = .ok (.getfield 113, 3) := by decide +kernel
theorem dX11_forget_7 : decode cX11_forget 7 = .ok (.getfield 212, 3) := by decide +kernel
theorem dX11_forget_10 : decode cX11_forget 10 = .ok (.istore_n 1, 1) := by decide +kernel
theorem dX11_forget_11 : decode cX11_forget 11 = .ok (.aload_n 0, 1) := by decide +kernel
theorem dX11_forget_12 : decode cX11_forget 12 = .ok (.getfield 19, 3) := by decide +kernel
theorem dX11_forget_15 : decode cX11_forget 15 = .ok (.getfield 113, 3) := by decide +kernel
theorem dX11_forget_18 : decode cX11_forget 18 = .ok (.invokevirtual 213, 3) := by decide +kernel
theorem dX11_forget_21 : decode cX11_forget 21 = .ok (.iload_n 1, 1) := by decide +kernel
theorem dX11_forget_22 : decode cX11_forget 22 = .ok (.ireturn, 1) := by decide +kernel
theorem dX11_winters_0 : decode cX11_winters 0 = .ok (.iload_n 1, 1) := by decide +kernel
theorem dX11_winters_1 : decode cX11_winters 1 = .ok (.iconst 1, 1) := by decide +kernel
theorem dX11_winters_2 : decode cX11_winters 2 = .ok (.if_icmp .lt 22, 3) := by decide +kernel
theorem dX11_winters_5 : decode cX11_winters 5 = .ok (.iload_n 1, 1) := by decide +kernel
theorem dX11_winters_6 : decode cX11_winters 6 = .ok (.bipush 60, 2) := by decide +kernel
theorem dX11_winters_8 : decode cX11_winters 8 = .ok (.if_icmp .gt 16, 3) := by decide +kernel
theorem dX11_winters_11 : decode cX11_winters 11 = .ok (.iload_n 2, 1) := by decide +kernel
theorem dX11_winters_12 : decode cX11_winters 12 = .ok (.ifCond .lt 12, 3) := by decide +kernel
theorem dX11_winters_15 : decode cX11_winters 15 = .ok (.iload_n 3, 1) := by decide +kernel
theorem dX11_winters_16 : decode cX11_winters 16 = .ok (.ifCond .lt 8, 3) := by decide +kernel
theorem dX11_winters_19 : decode cX11_winters 19 = .ok (.iload_n 3, 1) := by decide +kernel
theorem dX11_winters_20 : decode cX11_winters 20 = .ok (.iconst 2, 1) := by decide +kernel
theorem dX11_winters_21 : decode cX11_winters 21 = .ok (.if_icmp .le 6, 3) := by decide +kernel
theorem dX11_winters_24 : decode cX11_winters 24 = .ok (.bipush (-102), 2) := by decide +kernel
theorem dX11_winters_26 : decode cX11_winters 26 = .ok (.ireturn, 1) := by decide +kernel
theorem dX11_winters_27 : decode cX11_winters 27 = .ok (.aload_n 0, 1) := by decide +kernel
theorem dX11_winters_28 : decode cX11_winters 28 = .ok (.getfield 19, 3) := by decide +kernel
theorem dX11_winters_31 : decode cX11_winters 31 = .ok (.invokevirtual 168, 3) := by decide +kernel
theorem dX11_winters_34 : decode cX11_winters 34 = .ok (.ifCond .eq 6, 3) := by decide +kernel
theorem dX11_winters_37 : decode cX11_winters 37 = .ok (.bipush (-103), 2) := by decide +kernel
theorem dX11_winters_39 : decode cX11_winters 39 = .ok (.ireturn, 1) := by decide +kernel
theorem dX11_winters_40 : decode cX11_winters 40 = .ok (.aload_n 0, 1) := by decide +kernel
theorem dX11_winters_41 : decode cX11_winters 41 = .ok (.getfield 40, 3) := by decide +kernel
theorem dX11_winters_44 : decode cX11_winters 44 = .ok (.aload_n 0, 1) := by decide +kernel
theorem dX11_winters_45 : decode cX11_winters 45 = .ok (.getfield 19, 3) := by decide +kernel
theorem dX11_winters_48 : decode cX11_winters 48 = .ok (.iload_n 1, 1) := by decide +kernel
theorem dX11_winters_49 : decode cX11_winters 49 = .ok (.iload_n 2, 1) := by decide +kernel
theorem dX11_winters_50 : decode cX11_winters 50 = .ok (.invokevirtual 214, 3) := by decide +kernel
theorem dX11_winters_53 : decode cX11_winters 53 = .ok (.iload_n 3, 1) := by decide +kernel
theorem dX11_winters_54 : decode cX11_winters 54 = .ok (.lookupswitch 42 #[(0, 26), (1, 34)], 26) := by decide +kernel
theorem dX11_winters_80 : decode cX11_winters 80 = .ok (.aload_n 0, 1) := by decide +kernel
theorem dX11_winters_81 : decode cX11_winters 81 = .ok (.getfield 40, 3) := by decide +kernel
theorem dX11_winters_84 : decode cX11_winters 84 = .ok (.getfield 217, 3) := by decide +kernel
theorem dX11_winters_87 : decode cX11_winters 87 = .ok (.ireturn, 1) := by decide +kernel
theorem dX11_winters_88 : decode cX11_winters 88 = .ok (.aload_n 0, 1) := by decide +kernel
theorem dX11_winters_89 : decode cX11_winters 89 = .ok (.getfield 40, 3) := by decide +kernel
theorem dX11_winters_92 : decode cX11_winters 92 = .ok (.getfield 219, 3) := by decide +kernel
theorem dX11_winters_95 : decode cX11_winters 95 = .ok (.ireturn, 1) := by decide +kernel
theorem dX11_winters_96 : decode cX11_winters 96 = .ok (.aload_n 0, 1) := by decide +kernel
theorem dX11_winters_97 : decode cX11_winters 97 = .ok (.getfield 40, 3) := by decide +kernel
theorem dX11_winters_100 : decode cX11_winters 100 = .ok (.getfield 222, 3) := by decide +kernel
theorem dX11_winters_103 : decode cX11_winters 103 = .ok (.l2i, 1) := by decide +kernel
theorem dX11_winters_104 : decode cX11_winters 104 = .ok (.ireturn, 1) := by decide +kernel
theorem dX11_image_0 : decode cX11_image 0 = .ok (.aload_n 0, 1) := by decide +kernel
theorem dX11_image_1 : decode cX11_image 1 = .ok (.getfield 19, 3) := by decide +kernel
theorem dX11_image_4 : decode cX11_image 4 = .ok (.invokevirtual 168, 3) := by decide +kernel
theorem dX11_image_7 : decode cX11_image 7 = .ok (.ifCond .eq 6, 3) := by decide +kernel
theorem dX11_image_10 : decode cX11_image 10 = .ok (.bipush (-103), 2) := by decide +kernel
theorem dX11_image_12 : decode cX11_image 12 = .ok (.ireturn, 1) := by decide +kernel
theorem dX11_image_13 : decode cX11_image 13 = .ok (.aload_n 0, 1) := by decide +kernel
theorem dX11_image_14 : decode cX11_image 14 = .ok (.getfield 26, 3) := by decide +kernel
theorem dX11_image_17 : decode cX11_image 17 = .ok (.aload_n 0, 1) := by decide +kernel
theorem dX11_image_18 : decode cX11_image 18 = .ok (.getfield 19, 3) := by decide +kernel
theorem dX11_image_21 : decode cX11_image 21 = .ok (.invokevirtual 226, 3) := by decide +kernel
theorem dX11_image_24 : decode cX11_image 24 = .ok (.aload_n 0, 1) := by decide +kernel
theorem dX11_image_25 : decode cX11_image 25 = .ok (.getfield 19, 3) := by decide +kernel
theorem dX11_image_28 : decode cX11_image 28 = .ok (.getfield 230, 3) := by decide +kernel
theorem dX11_image_31 : decode cX11_image 31 = .ok (.ireturn, 1) := by decide +kernel
theorem dX11_restore_0 : decode cX11_restore 0 = .ok (.aload_n 0, 1) := by decide +kernel
theorem dX11_restore_1 : decode cX11_restore 1 = .ok (.getfield 26, 3) := by decide +kernel
theorem dX11_restore_4 : decode cX11_restore 4 = .ok (.getfield 70, 3) := by decide +kernel
theorem dX11_restore_7 : decode cX11_restore 7 = .ok (.ifCond .ne 6, 3) := by decide +kernel
theorem dX11_restore_10 : decode cX11_restore 10 = .ok (.bipush (-103), 2) := by decide +kernel
theorem dX11_restore_12 : decode cX11_restore 12 = .ok (.ireturn, 1) := by decide +kernel
theorem dX11_restore_13 : decode cX11_restore 13 = .ok (.aload_n 0, 1) := by decide +kernel
theorem dX11_restore_14 : decode cX11_restore 14 = .ok (.getfield 26, 3) := by decide +kernel
theorem dX11_restore_17 : decode cX11_restore 17 = .ok (.aload_n 0, 1) := by decide +kernel
theorem dX11_restore_18 : decode cX11_restore 18 = .ok (.getfield 19, 3) := by decide +kernel
theorem dX11_restore_21 : decode cX11_restore 21 = .ok (.invokevirtual 233, 3) := by decide +kernel
theorem dX11_restore_24 : decode cX11_restore 24 = .ok (.aload_n 0, 1) := by decide +kernel
theorem dX11_restore_25 : decode cX11_restore 25 = .ok (.getfield 19, 3) := by decide +kernel
theorem dX11_restore_28 : decode cX11_restore 28 = .ok (.getfield 230, 3) := by decide +kernel
theorem dX11_restore_31 : decode cX11_restore 31 = .ok (.ireturn, 1) := by decide +kernel
theorem dX11_count_0 : decode cX11_count 0 = .ok (.iload_n 1, 1) := by decide +kernel
theorem dX11_count_1 : decode cX11_count 1 = .ok (.tableswitch 173 0 12 #[67, 75, 83, 91, 99, 108, 117, 125, 133, 141, 149, 160, 168], 67) := by decide +kernel
theorem dX11_count_68 : decode cX11_count 68 = .ok (.aload_n 0, 1) := by decide +kernel
theorem dX11_count_69 : decode cX11_count 69 = .ok (.getfield 19, 3) := by decide +kernel
theorem dX11_count_72 : decode cX11_count 72 = .ok (.getfield 74, 3) := by decide +kernel
theorem dX11_count_75 : decode cX11_count 75 = .ok (.ireturn, 1) := by decide +kernel
theorem dX11_count_76 : decode cX11_count 76 = .ok (.aload_n 0, 1) := by decide +kernel
theorem dX11_count_77 : decode cX11_count 77 = .ok (.getfield 19, 3) := by decide +kernel
theorem dX11_count_80 : decode cX11_count 80 = .ok (.invokevirtual 177, 3) := by decide +kernel
theorem dX11_count_83 : decode cX11_count 83 = .ok (.ireturn, 1) := by decide +kernel
theorem dX11_count_84 : decode cX11_count 84 = .ok (.aload_n 0, 1) := by decide +kernel
theorem dX11_count_85 : decode cX11_count 85 = .ok (.getfield 19, 3) := by decide +kernel
theorem dX11_count_88 : decode cX11_count 88 = .ok (.invokevirtual 236, 3) := by decide +kernel
theorem dX11_count_91 : decode cX11_count 91 = .ok (.ireturn, 1) := by decide +kernel
theorem dX11_count_92 : decode cX11_count 92 = .ok (.aload_n 0, 1) := by decide +kernel
theorem dX11_count_93 : decode cX11_count 93 = .ok (.getfield 19, 3) := by decide +kernel
theorem dX11_count_96 : decode cX11_count 96 = .ok (.invokevirtual 239, 3) := by decide +kernel
theorem dX11_count_99 : decode cX11_count 99 = .ok (.ireturn, 1) := by decide +kernel
theorem dX11_count_100 : decode cX11_count 100 = .ok (.aload_n 0, 1) := by decide +kernel
theorem dX11_count_101 : decode cX11_count 101 = .ok (.getfield 19, 3) := by decide +kernel
theorem dX11_count_104 : decode cX11_count 104 = .ok (.iconst 0, 1) := by decide +kernel
theorem dX11_count_105 : decode cX11_count 105 = .ok (.invokevirtual 242, 3) := by decide +kernel
theorem dX11_count_108 : decode cX11_count 108 = .ok (.ireturn, 1) := by decide +kernel
theorem dX11_count_109 : decode cX11_count 109 = .ok (.aload_n 0, 1) := by decide +kernel
theorem dX11_count_110 : decode cX11_count 110 = .ok (.getfield 19, 3) := by decide +kernel
theorem dX11_count_113 : decode cX11_count 113 = .ok (.iconst 1, 1) := by decide +kernel
theorem dX11_count_114 : decode cX11_count 114 = .ok (.invokevirtual 242, 3) := by decide +kernel
theorem dX11_count_117 : decode cX11_count 117 = .ok (.ireturn, 1) := by decide +kernel
theorem dX11_count_118 : decode cX11_count 118 = .ok (.aload_n 0, 1) := by decide +kernel
theorem dX11_count_119 : decode cX11_count 119 = .ok (.getfield 19, 3) := by decide +kernel
theorem dX11_count_122 : decode cX11_count 122 = .ok (.getfield 230, 3) := by decide +kernel
theorem dX11_count_125 : decode cX11_count 125 = .ok (.ireturn, 1) := by decide +kernel
theorem dX11_count_126 : decode cX11_count 126 = .ok (.aload_n 0, 1) := by decide +kernel
theorem dX11_count_127 : decode cX11_count 127 = .ok (.getfield 19, 3) := by decide +kernel
theorem dX11_count_130 : decode cX11_count 130 = .ok (.getfield 158, 3) := by decide +kernel
theorem dX11_count_133 : decode cX11_count 133 = .ok (.ireturn, 1) := by decide +kernel
theorem dX11_count_134 : decode cX11_count 134 = .ok (.aload_n 0, 1) := by decide +kernel
theorem dX11_count_135 : decode cX11_count 135 = .ok (.getfield 19, 3) := by decide +kernel
theorem dX11_count_138 : decode cX11_count 138 = .ok (.getfield 165, 3) := by decide +kernel
theorem dX11_count_141 : decode cX11_count 141 = .ok (.ireturn, 1) := by decide +kernel
theorem dX11_count_142 : decode cX11_count 142 = .ok (.aload_n 0, 1) := by decide +kernel
theorem dX11_count_143 : decode cX11_count 143 = .ok (.getfield 19, 3) := by decide +kernel
theorem dX11_count_146 : decode cX11_count 146 = .ok (.getfield 174, 3) := by decide +kernel
theorem dX11_count_149 : decode cX11_count 149 = .ok (.ireturn, 1) := by decide +kernel
theorem dX11_count_150 : decode cX11_count 150 = .ok (.aload_n 0, 1) := by decide +kernel
theorem dX11_count_151 : decode cX11_count 151 = .ok (.getfield 19, 3) := by decide +kernel
theorem dX11_count_154 : decode cX11_count 154 = .ok (.getfield 113, 3) := by decide +kernel
theorem dX11_count_157 : decode cX11_count 157 = .ok (.getfield 212, 3) := by decide +kernel
theorem dX11_count_160 : decode cX11_count 160 = .ok (.ireturn, 1) := by decide +kernel
theorem dX11_count_161 : decode cX11_count 161 = .ok (.aload_n 0, 1) := by decide +kernel
theorem dX11_count_162 : decode cX11_count 162 = .ok (.getfield 10, 3) := by decide +kernel
theorem dX11_count_165 : decode cX11_count 165 = .ok (.getfield 52, 3) := by decide +kernel
theorem dX11_count_168 : decode cX11_count 168 = .ok (.ireturn, 1) := by decide +kernel
theorem dX11_count_169 : decode cX11_count 169 = .ok (.aload_n 0, 1) := by decide +kernel
theorem dX11_count_170 : decode cX11_count 170 = .ok (.getfield 44, 3) := by decide +kernel
theorem dX11_count_173 : decode cX11_count 173 = .ok (.ireturn, 1) := by decide +kernel
theorem dX11_count_174 : decode cX11_count 174 = .ok (.bipush (-102), 2) := by decide +kernel
theorem dX11_count_176 : decode cX11_count 176 = .ok (.ireturn, 1) := by decide +kernel
theorem dX11_digest_0 : decode cX11_digest 0 = .ok (.ldc2_w 245, 3) := by decide +kernel
theorem dX11_digest_3 : decode cX11_digest 3 = .ok (.lstore_n 1, 1) := by decide +kernel
theorem dX11_digest_4 : decode cX11_digest 4 = .ok (.iconst 0, 1) := by decide +kernel
theorem dX11_digest_5 : decode cX11_digest 5 = .ok (.istore_n 3, 1) := by decide +kernel
theorem dX11_digest_6 : decode cX11_digest 6 = .ok (.iload_n 3, 1) := by decide +kernel
theorem dX11_digest_7 : decode cX11_digest 7 = .ok (.aload_n 0, 1) := by decide +kernel
theorem dX11_digest_8 : decode cX11_digest 8 = .ok (.getfield 19, 3) := by decide +kernel
theorem dX11_digest_11 : decode cX11_digest 11 = .ok (.getfield 74, 3) := by decide +kernel
theorem dX11_digest_14 : decode cX11_digest 14 = .ok (.if_icmp .ge 85, 3) := by decide +kernel
theorem dX11_digest_17 : decode cX11_digest 17 = .ok (.iconst 0, 1) := by decide +kernel
theorem dX11_digest_18 : decode cX11_digest 18 = .ok (.istore 4, 2) := by decide +kernel
theorem dX11_digest_20 : decode cX11_digest 20 = .ok (.iload 4, 2) := by decide +kernel
theorem dX11_digest_22 : decode cX11_digest 22 = .ok (.bipush 11, 2) := by decide +kernel
theorem dX11_digest_24 : decode cX11_digest 24 = .ok (.if_icmp .ge 22, 3) := by decide +kernel
theorem dX11_digest_27 : decode cX11_digest 27 = .ok (.lload_n 1, 1) := by decide +kernel
theorem dX11_digest_28 : decode cX11_digest 28 = .ok (.aload_n 0, 1) := by decide +kernel
theorem dX11_digest_29 : decode cX11_digest 29 = .ok (.iload_n 3, 1) := by decide +kernel
theorem dX11_digest_30 : decode cX11_digest 30 = .ok (.iload 4, 2) := by decide +kernel
theorem dX11_digest_32 : decode cX11_digest 32 = .ok (.invokevirtual 247, 3) := by decide +kernel
theorem dX11_digest_35 : decode cX11_digest 35 = .ok (.i2l, 1) := by decide +kernel
theorem dX11_digest_36 : decode cX11_digest 36 = .ok (.invokestatic 250, 3) := by decide +kernel
theorem dX11_digest_39 : decode cX11_digest 39 = .ok (.lstore_n 1, 1) := by decide +kernel
theorem dX11_digest_40 : decode cX11_digest 40 = .ok (.iinc 4 1, 3) := by decide +kernel
theorem dX11_digest_43 : decode cX11_digest 43 = .ok (.goto (-23), 3) := by decide +kernel
theorem dX11_digest_46 : decode cX11_digest 46 = .ok (.iconst 0, 1) := by decide +kernel
theorem dX11_digest_47 : decode cX11_digest 47 = .ok (.istore 4, 2) := by decide +kernel
theorem dX11_digest_49 : decode cX11_digest 49 = .ok (.iload 4, 2) := by decide +kernel
theorem dX11_digest_51 : decode cX11_digest 51 = .ok (.aload_n 0, 1) := by decide +kernel
theorem dX11_digest_52 : decode cX11_digest 52 = .ok (.getfield 19, 3) := by decide +kernel
theorem dX11_digest_55 : decode cX11_digest 55 = .ok (.getfield 74, 3) := by decide +kernel
theorem dX11_digest_58 : decode cX11_digest 58 = .ok (.if_icmp .ge 35, 3) := by decide +kernel
theorem dX11_digest_61 : decode cX11_digest 61 = .ok (.iload 4, 2) := by decide +kernel
theorem dX11_digest_63 : decode cX11_digest 63 = .ok (.iload_n 3, 1) := by decide +kernel
theorem dX11_digest_64 : decode cX11_digest 64 = .ok (.if_icmp .ne 7, 3) := by decide +kernel
theorem dX11_digest_67 : decode cX11_digest 67 = .ok (.lload_n 1, 1) := by decide +kernel
theorem dX11_digest_68 : decode cX11_digest 68 = .ok (.goto 18, 3) := by decide +kernel
theorem dX11_digest_71 : decode cX11_digest 71 = .ok (.lload_n 1, 1) := by decide +kernel
theorem dX11_digest_72 : decode cX11_digest 72 = .ok (.aload_n 0, 1) := by decide +kernel
theorem dX11_digest_73 : decode cX11_digest 73 = .ok (.getfield 19, 3) := by decide +kernel
theorem dX11_digest_76 : decode cX11_digest 76 = .ok (.iload_n 3, 1) := by decide +kernel
theorem dX11_digest_77 : decode cX11_digest 77 = .ok (.iload 4, 2) := by decide +kernel
theorem dX11_digest_79 : decode cX11_digest 79 = .ok (.invokevirtual 135, 3) := by decide +kernel
theorem dX11_digest_82 : decode cX11_digest 82 = .ok (.i2l, 1) := by decide +kernel
theorem dX11_digest_83 : decode cX11_digest 83 = .ok (.invokestatic 250, 3) := by decide +kernel
theorem dX11_digest_86 : decode cX11_digest 86 = .ok (.lstore_n 1, 1) := by decide +kernel
theorem dX11_digest_87 : decode cX11_digest 87 = .ok (.iinc 4 1, 3) := by decide +kernel
theorem dX11_digest_90 : decode cX11_digest 90 = .ok (.goto (-41), 3) := by decide +kernel
theorem dX11_digest_93 : decode cX11_digest 93 = .ok (.iinc 3 1, 3) := by decide +kernel
theorem dX11_digest_96 : decode cX11_digest 96 = .ok (.goto (-90), 3) := by decide +kernel
theorem dX11_digest_99 : decode cX11_digest 99 = .ok (.aload_n 0, 1) := by decide +kernel
theorem dX11_digest_100 : decode cX11_digest 100 = .ok (.getfield 19, 3) := by decide +kernel
theorem dX11_digest_103 : decode cX11_digest 103 = .ok (.invokevirtual 168, 3) := by decide +kernel
theorem dX11_digest_106 : decode cX11_digest 106 = .ok (.ifCond .ne 57, 3) := by decide +kernel
theorem dX11_digest_109 : decode cX11_digest 109 = .ok (.aload_n 0, 1) := by decide +kernel
theorem dX11_digest_110 : decode cX11_digest 110 = .ok (.lload_n 1, 1) := by decide +kernel
theorem dX11_digest_111 : decode cX11_digest 111 = .ok (.invokevirtual 254, 3) := by decide +kernel
theorem dX11_digest_114 : decode cX11_digest 114 = .ok (.lstore_n 1, 1) := by decide +kernel
theorem dX11_digest_115 : decode cX11_digest 115 = .ok (.iconst 0, 1) := by decide +kernel
theorem dX11_digest_116 : decode cX11_digest 116 = .ok (.istore_n 3, 1) := by decide +kernel
theorem dX11_digest_117 : decode cX11_digest 117 = .ok (.iload_n 3, 1) := by decide +kernel
theorem dX11_digest_118 : decode cX11_digest 118 = .ok (.bipush 6, 2) := by decide +kernel
theorem dX11_digest_120 : decode cX11_digest 120 = .ok (.if_icmp .ge 23, 3) := by decide +kernel
theorem dX11_digest_123 : decode cX11_digest 123 = .ok (.lload_n 1, 1) := by decide +kernel
theorem dX11_digest_124 : decode cX11_digest 124 = .ok (.aload_n 0, 1) := by decide +kernel
theorem dX11_digest_125 : decode cX11_digest 125 = .ok (.getfield 19, 3) := by decide +kernel
theorem dX11_digest_128 : decode cX11_digest 128 = .ok (.iload_n 3, 1) := by decide +kernel
theorem dX11_digest_129 : decode cX11_digest 129 = .ok (.invokevirtual 196, 3) := by decide +kernel
theorem dX11_digest_132 : decode cX11_digest 132 = .ok (.i2l, 1) := by decide +kernel
theorem dX11_digest_133 : decode cX11_digest 133 = .ok (.invokestatic 250, 3) := by decide +kernel
theorem dX11_digest_136 : decode cX11_digest 136 = .ok (.lstore_n 1, 1) := by decide +kernel
theorem dX11_digest_137 : decode cX11_digest 137 = .ok (.iinc 3 1, 3) := by decide +kernel
theorem dX11_digest_140 : decode cX11_digest 140 = .ok (.goto (-23), 3) := by decide +kernel
theorem dX11_digest_143 : decode cX11_digest 143 = .ok (.lload_n 1, 1) := by decide +kernel
theorem dX11_digest_144 : decode cX11_digest 144 = .ok (.aload_n 0, 1) := by decide +kernel
theorem dX11_digest_145 : decode cX11_digest 145 = .ok (.iconst 0, 1) := by decide +kernel
theorem dX11_digest_146 : decode cX11_digest 146 = .ok (.invokevirtual 258, 3) := by decide +kernel
theorem dX11_digest_149 : decode cX11_digest 149 = .ok (.i2l, 1) := by decide +kernel
theorem dX11_digest_150 : decode cX11_digest 150 = .ok (.invokestatic 250, 3) := by decide +kernel
theorem dX11_digest_153 : decode cX11_digest 153 = .ok (.aload_n 0, 1) := by decide +kernel
theorem dX11_digest_154 : decode cX11_digest 154 = .ok (.iconst 1, 1) := by decide +kernel
theorem dX11_digest_155 : decode cX11_digest 155 = .ok (.invokevirtual 258, 3) := by decide +kernel
theorem dX11_digest_158 : decode cX11_digest 158 = .ok (.i2l, 1) := by decide +kernel
theorem dX11_digest_159 : decode cX11_digest 159 = .ok (.invokestatic 250, 3) := by decide +kernel
theorem dX11_digest_162 : decode cX11_digest 162 = .ok (.lstore_n 1, 1) := by decide +kernel
theorem dX11_digest_163 : decode cX11_digest 163 = .ok (.iconst 0, 1) := by decide +kernel
theorem dX11_digest_164 : decode cX11_digest 164 = .ok (.istore_n 3, 1) := by decide +kernel
theorem dX11_digest_165 : decode cX11_digest 165 = .ok (.iload_n 3, 1) := by decide +kernel
theorem dX11_digest_166 : decode cX11_digest 166 = .ok (.aload_n 0, 1) := by decide +kernel
theorem dX11_digest_167 : decode cX11_digest 167 = .ok (.getfield 10, 3) := by decide +kernel
theorem dX11_digest_170 : decode cX11_digest 170 = .ok (.getfield 52, 3) := by decide +kernel
theorem dX11_digest_173 : decode cX11_digest 173 = .ok (.if_icmp .ge 24, 3) := by decide +kernel
theorem dX11_digest_176 : decode cX11_digest 176 = .ok (.lload_n 1, 1) := by decide +kernel
theorem dX11_digest_177 : decode cX11_digest 177 = .ok (.aload_n 0, 1) := by decide +kernel
theorem dX11_digest_178 : decode cX11_digest 178 = .ok (.getfield 10, 3) := by decide +kernel
theorem dX11_digest_181 : decode cX11_digest 181 = .ok (.getfield 261, 3) := by decide +kernel
theorem dX11_digest_184 : decode cX11_digest 184 = .ok (.iload_n 3, 1) := by decide +kernel
theorem dX11_digest_185 : decode cX11_digest 185 = .ok (.iaload, 1) := by decide +kernel
theorem dX11_digest_186 : decode cX11_digest 186 = .ok (.i2l, 1) := by decide +kernel
theorem dX11_digest_187 : decode cX11_digest 187 = .ok (.invokestatic 250, 3) := by decide +kernel
theorem dX11_digest_190 : decode cX11_digest 190 = .ok (.lstore_n 1, 1) := by decide +kernel
theorem dX11_digest_191 : decode cX11_digest 191 = .ok (.iinc 3 1, 3) := by decide +kernel
theorem dX11_digest_194 : decode cX11_digest 194 = .ok (.goto (-29), 3) := by decide +kernel
theorem dX11_digest_197 : decode cX11_digest 197 = .ok (.iconst 0, 1) := by decide +kernel
theorem dX11_digest_198 : decode cX11_digest 198 = .ok (.istore_n 3, 1) := by decide +kernel
theorem dX11_digest_199 : decode cX11_digest 199 = .ok (.iload_n 3, 1) := by decide +kernel
theorem dX11_digest_200 : decode cX11_digest 200 = .ok (.bipush 13, 2) := by decide +kernel
theorem dX11_digest_202 : decode cX11_digest 202 = .ok (.if_icmp .ge 20, 3) := by decide +kernel
theorem dX11_digest_205 : decode cX11_digest 205 = .ok (.lload_n 1, 1) := by decide +kernel
theorem dX11_digest_206 : decode cX11_digest 206 = .ok (.aload_n 0, 1) := by decide +kernel
theorem dX11_digest_207 : decode cX11_digest 207 = .ok (.iload_n 3, 1) := by decide +kernel
theorem dX11_digest_208 : decode cX11_digest 208 = .ok (.invokevirtual 265, 3) := by decide +kernel
theorem dX11_digest_211 : decode cX11_digest 211 = .ok (.i2l, 1) := by decide +kernel
theorem dX11_digest_212 : decode cX11_digest 212 = .ok (.invokestatic 250, 3) := by decide +kernel
theorem dX11_digest_215 : decode cX11_digest 215 = .ok (.lstore_n 1, 1) := by decide +kernel
theorem dX11_digest_216 : decode cX11_digest 216 = .ok (.iinc 3 1, 3) := by decide +kernel
theorem dX11_digest_219 : decode cX11_digest 219 = .ok (.goto (-20), 3) := by decide +kernel
theorem dX11_digest_222 : decode cX11_digest 222 = .ok (.lload_n 1, 1) := by decide +kernel
theorem dX11_digest_223 : decode cX11_digest 223 = .ok (.lreturn, 1) := by decide +kernel
theorem dX11_withRows_0 : decode cX11_withRows 0 = .ok (.aload_n 0, 1) := by decide +kernel
theorem dX11_withRows_1 : decode cX11_withRows 1 = .ok (.getfield 33, 3) := by decide +kernel
theorem dX11_withRows_4 : decode cX11_withRows 4 = .ok (.aload_n 0, 1) := by decide +kernel
theorem dX11_withRows_5 : decode cX11_withRows 5 = .ok (.getfield 19, 3) := by decide +kernel
theorem dX11_withRows_8 : decode cX11_withRows 8 = .ok (.iconst 0, 1) := by decide +kernel
theorem dX11_withRows_9 : decode cX11_withRows 9 = .ok (.bipush 30, 2) := by decide +kernel
theorem dX11_withRows_11 : decode cX11_withRows 11 = .ok (.invokevirtual 183, 3) := by decide +kernel
theorem dX11_withRows_14 : decode cX11_withRows 14 = .ok (.lload_n 1, 1) := by decide +kernel
theorem dX11_withRows_15 : decode cX11_withRows 15 = .ok (.aload_n 0, 1) := by decide +kernel
theorem dX11_withRows_16 : decode cX11_withRows 16 = .ok (.iconst 0, 1) := by decide +kernel
theorem dX11_withRows_17 : decode cX11_withRows 17 = .ok (.invokevirtual 187, 3) := by decide +kernel
theorem dX11_withRows_20 : decode cX11_withRows 20 = .ok (.i2l, 1) := by decide +kernel
theorem dX11_withRows_21 : decode cX11_withRows 21 = .ok (.invokestatic 250, 3) := by decide +kernel
theorem dX11_withRows_24 : decode cX11_withRows 24 = .ok (.aload_n 0, 1) := by decide +kernel
theorem dX11_withRows_25 : decode cX11_withRows 25 = .ok (.iconst 1, 1) := by decide +kernel
theorem dX11_withRows_26 : decode cX11_withRows 26 = .ok (.invokevirtual 187, 3) := by decide +kernel
theorem dX11_withRows_29 : decode cX11_withRows 29 = .ok (.i2l, 1) := by decide +kernel
theorem dX11_withRows_30 : decode cX11_withRows 30 = .ok (.invokestatic 250, 3) := by decide +kernel
theorem dX11_withRows_33 : decode cX11_withRows 33 = .ok (.lstore_n 3, 1) := by decide +kernel
theorem dX11_withRows_34 : decode cX11_withRows 34 = .ok (.iconst 0, 1) := by decide +kernel
theorem dX11_withRows_35 : decode cX11_withRows 35 = .ok (.istore 5, 2) := by decide +kernel
theorem dX11_withRows_37 : decode cX11_withRows 37 = .ok (.iload 5, 2) := by decide +kernel
theorem dX11_withRows_39 : decode cX11_withRows 39 = .ok (.bipush 7, 2) := by decide +kernel
theorem dX11_withRows_41 : decode cX11_withRows 41 = .ok (.if_icmp .ge 24, 3) := by decide +kernel
theorem dX11_withRows_44 : decode cX11_withRows 44 = .ok (.lload_n 3, 1) := by decide +kernel
theorem dX11_withRows_45 : decode cX11_withRows 45 = .ok (.aload_n 0, 1) := by decide +kernel
theorem dX11_withRows_46 : decode cX11_withRows 46 = .ok (.bipush 10, 2) := by decide +kernel
theorem dX11_withRows_48 : decode cX11_withRows 48 = .ok (.iload 5, 2) := by decide +kernel
theorem dX11_withRows_50 : decode cX11_withRows 50 = .ok (.iadd, 1) := by decide +kernel
theorem dX11_withRows_51 : decode cX11_withRows 51 = .ok (.invokevirtual 187, 3) := by decide +kernel
theorem dX11_withRows_54 : decode cX11_withRows 54 = .ok (.i2l, 1) := by decide +kernel
theorem dX11_withRows_55 : decode cX11_withRows 55 = .ok (.invokestatic 250, 3) := by decide +kernel
theorem dX11_withRows_58 : decode cX11_withRows 58 = .ok (.lstore_n 3, 1) := by decide +kernel
theorem dX11_withRows_59 : decode cX11_withRows 59 = .ok (.iinc 5 1, 3) := by decide +kernel
theorem dX11_withRows_62 : decode cX11_withRows 62 = .ok (.goto (-25), 3) := by decide +kernel
theorem dX11_withRows_65 : decode cX11_withRows 65 = .ok (.aload_n 0, 1) := by decide +kernel
theorem dX11_withRows_66 : decode cX11_withRows 66 = .ok (.getfield 33, 3) := by decide +kernel
theorem dX11_withRows_69 : decode cX11_withRows 69 = .ok (.aload_n 0, 1) := by decide +kernel
theorem dX11_withRows_70 : decode cX11_withRows 70 = .ok (.getfield 19, 3) := by decide +kernel
theorem dX11_withRows_73 : decode cX11_withRows 73 = .ok (.iconst 1, 1) := by decide +kernel
theorem dX11_withRows_74 : decode cX11_withRows 74 = .ok (.iconst 4, 1) := by decide +kernel
theorem dX11_withRows_75 : decode cX11_withRows 75 = .ok (.invokevirtual 183, 3) := by decide +kernel
theorem dX11_withRows_78 : decode cX11_withRows 78 = .ok (.lload_n 3, 1) := by decide +kernel
theorem dX11_withRows_79 : decode cX11_withRows 79 = .ok (.aload_n 0, 1) := by decide +kernel
theorem dX11_withRows_80 : decode cX11_withRows 80 = .ok (.iconst 0, 1) := by decide +kernel
theorem dX11_withRows_81 : decode cX11_withRows 81 = .ok (.invokevirtual 190, 3) := by decide +kernel
theorem dX11_withRows_84 : decode cX11_withRows 84 = .ok (.i2l, 1) := by decide +kernel
theorem dX11_withRows_85 : decode cX11_withRows 85 = .ok (.invokestatic 250, 3) := by decide +kernel
theorem dX11_withRows_88 : decode cX11_withRows 88 = .ok (.aload_n 0, 1) := by decide +kernel
theorem dX11_withRows_89 : decode cX11_withRows 89 = .ok (.iconst 1, 1) := by decide +kernel
theorem dX11_withRows_90 : decode cX11_withRows 90 = .ok (.invokevirtual 190, 3) := by decide +kernel
theorem dX11_withRows_93 : decode cX11_withRows 93 = .ok (.i2l, 1) := by decide +kernel
theorem dX11_withRows_94 : decode cX11_withRows 94 = .ok (.invokestatic 250, 3) := by decide +kernel
theorem dX11_withRows_97 : decode cX11_withRows 97 = .ok (.lstore_n 3, 1) := by decide +kernel
theorem dX11_withRows_98 : decode cX11_withRows 98 = .ok (.aload_n 0, 1) := by decide +kernel
theorem dX11_withRows_99 : decode cX11_withRows 99 = .ok (.getfield 33, 3) := by decide +kernel
theorem dX11_withRows_102 : decode cX11_withRows 102 = .ok (.aload_n 0, 1) := by decide +kernel
theorem dX11_withRows_103 : decode cX11_withRows 103 = .ok (.getfield 19, 3) := by decide +kernel
theorem dX11_withRows_106 : decode cX11_withRows 106 = .ok (.iconst 2, 1) := by decide +kernel
theorem dX11_withRows_107 : decode cX11_withRows 107 = .ok (.bipush 30, 2) := by decide +kernel
theorem dX11_withRows_109 : decode cX11_withRows 109 = .ok (.invokevirtual 183, 3) := by decide +kernel
theorem dX11_withRows_112 : decode cX11_withRows 112 = .ok (.lload_n 3, 1) := by decide +kernel
theorem dX11_withRows_113 : decode cX11_withRows 113 = .ok (.aload_n 0, 1) := by decide +kernel
theorem dX11_withRows_114 : decode cX11_withRows 114 = .ok (.iconst 0, 1) := by decide +kernel
theorem dX11_withRows_115 : decode cX11_withRows 115 = .ok (.invokevirtual 193, 3) := by decide +kernel
theorem dX11_withRows_118 : decode cX11_withRows 118 = .ok (.i2l, 1) := by decide +kernel
theorem dX11_withRows_119 : decode cX11_withRows 119 = .ok (.invokestatic 250, 3) := by decide +kernel
theorem dX11_withRows_122 : decode cX11_withRows 122 = .ok (.aload_n 0, 1) := by decide +kernel
theorem dX11_withRows_123 : decode cX11_withRows 123 = .ok (.iconst 1, 1) := by decide +kernel
theorem dX11_withRows_124 : decode cX11_withRows 124 = .ok (.invokevirtual 193, 3) := by decide +kernel
theorem dX11_withRows_127 : decode cX11_withRows 127 = .ok (.i2l, 1) := by decide +kernel
theorem dX11_withRows_128 : decode cX11_withRows 128 = .ok (.invokestatic 250, 3) := by decide +kernel
theorem dX11_withRows_131 : decode cX11_withRows 131 = .ok (.lreturn, 1) := by decide +kernel
theorem dX11_with_0 : decode cX11_with 0 = .ok (.ldc2_w 268, 3) := by decide +kernel
theorem dX11_with_3 : decode cX11_with 3 = .ok (.lload_n 0, 1) := by decide +kernel
theorem dX11_with_4 : decode cX11_with 4 = .ok (.lmul, 1) := by decide +kernel
theorem dX11_with_5 : decode cX11_with 5 = .ok (.lload_n 2, 1) := by decide +kernel
theorem dX11_with_6 : decode cX11_with 6 = .ok (.ladd, 1) := by decide +kernel
theorem dX11_with_7 : decode cX11_with 7 = .ok (.lreturn, 1) := by decide +kernel
theorem dX11_mostTold_0 : decode cX11_mostTold 0 = .ok (.iload_n 1, 1) := by decide +kernel
theorem dX11_mostTold_1 : decode cX11_mostTold 1 = .ok (.lookupswitch 43 #[(0, 27), (1, 35)], 27) := by decide +kernel
theorem dX11_mostTold_28 : decode cX11_mostTold 28 = .ok (.aload_n 0, 1) := by decide +kernel
theorem dX11_mostTold_29 : decode cX11_mostTold 29 = .ok (.getfield 33, 3) := by decide +kernel
theorem dX11_mostTold_32 : decode cX11_mostTold 32 = .ok (.getfield 270, 3) := by decide +kernel
theorem dX11_mostTold_35 : decode cX11_mostTold 35 = .ok (.ireturn, 1) := by decide +kernel
theorem dX11_mostTold_36 : decode cX11_mostTold 36 = .ok (.aload_n 0, 1) := by decide +kernel
theorem dX11_mostTold_37 : decode cX11_mostTold 37 = .ok (.getfield 33, 3) := by decide +kernel
theorem dX11_mostTold_40 : decode cX11_mostTold 40 = .ok (.getfield 271, 3) := by decide +kernel
theorem dX11_mostTold_43 : decode cX11_mostTold 43 = .ok (.ireturn, 1) := by decide +kernel
theorem dX11_mostTold_44 : decode cX11_mostTold 44 = .ok (.aload_n 0, 1) := by decide +kernel
theorem dX11_mostTold_45 : decode cX11_mostTold 45 = .ok (.getfield 33, 3) := by decide +kernel
theorem dX11_mostTold_48 : decode cX11_mostTold 48 = .ok (.iload_n 1, 1) := by decide +kernel
theorem dX11_mostTold_49 : decode cX11_mostTold 49 = .ok (.bipush 10, 2) := by decide +kernel
theorem dX11_mostTold_51 : decode cX11_mostTold 51 = .ok (.isub, 1) := by decide +kernel
theorem dX11_mostTold_52 : decode cX11_mostTold 52 = .ok (.invokevirtual 272, 3) := by decide +kernel
theorem dX11_mostTold_55 : decode cX11_mostTold 55 = .ok (.ireturn, 1) := by decide +kernel
theorem dX11_bestTold_0 : decode cX11_bestTold 0 = .ok (.iload_n 1, 1) := by decide +kernel
theorem dX11_bestTold_1 : decode cX11_bestTold 1 = .ok (.lookupswitch 43 #[(0, 27), (1, 35)], 27) := by decide +kernel
theorem dX11_bestTold_28 : decode cX11_bestTold 28 = .ok (.aload_n 0, 1) := by decide +kernel
theorem dX11_bestTold_29 : decode cX11_bestTold 29 = .ok (.getfield 33, 3) := by decide +kernel
theorem dX11_bestTold_32 : decode cX11_bestTold 32 = .ok (.getfield 271, 3) := by decide +kernel
theorem dX11_bestTold_35 : decode cX11_bestTold 35 = .ok (.ireturn, 1) := by decide +kernel
theorem dX11_bestTold_36 : decode cX11_bestTold 36 = .ok (.aload_n 0, 1) := by decide +kernel
theorem dX11_bestTold_37 : decode cX11_bestTold 37 = .ok (.getfield 33, 3) := by decide +kernel
theorem dX11_bestTold_40 : decode cX11_bestTold 40 = .ok (.getfield 275, 3) := by decide +kernel
theorem dX11_bestTold_43 : decode cX11_bestTold 43 = .ok (.ireturn, 1) := by decide +kernel
theorem dX11_bestTold_44 : decode cX11_bestTold 44 = .ok (.aload_n 0, 1) := by decide +kernel
theorem dX11_bestTold_45 : decode cX11_bestTold 45 = .ok (.getfield 33, 3) := by decide +kernel
theorem dX11_bestTold_48 : decode cX11_bestTold 48 = .ok (.iload_n 1, 1) := by decide +kernel
theorem dX11_bestTold_49 : decode cX11_bestTold 49 = .ok (.bipush 10, 2) := by decide +kernel
theorem dX11_bestTold_51 : decode cX11_bestTold 51 = .ok (.isub, 1) := by decide +kernel
theorem dX11_bestTold_52 : decode cX11_bestTold 52 = .ok (.invokevirtual 272, 3) := by decide +kernel
theorem dX11_bestTold_55 : decode cX11_bestTold 55 = .ok (.ireturn, 1) := by decide +kernel
theorem dX11_stableTold_0 : decode cX11_stableTold 0 = .ok (.iload_n 1, 1) := by decide +kernel
theorem dX11_stableTold_1 : decode cX11_stableTold 1 = .ok (.lookupswitch 43 #[(0, 27), (1, 35)], 27) := by decide +kernel
theorem dX11_stableTold_28 : decode cX11_stableTold 28 = .ok (.aload_n 0, 1) := by decide +kernel
theorem dX11_stableTold_29 : decode cX11_stableTold 29 = .ok (.getfield 33, 3) := by decide +kernel
theorem dX11_stableTold_32 : decode cX11_stableTold 32 = .ok (.getfield 276, 3) := by decide +kernel
theorem dX11_stableTold_35 : decode cX11_stableTold 35 = .ok (.ireturn, 1) := by decide +kernel
theorem dX11_stableTold_36 : decode cX11_stableTold 36 = .ok (.aload_n 0, 1) := by decide +kernel
theorem dX11_stableTold_37 : decode cX11_stableTold 37 = .ok (.getfield 33, 3) := by decide +kernel
theorem dX11_stableTold_40 : decode cX11_stableTold 40 = .ok (.getfield 270, 3) := by decide +kernel
theorem dX11_stableTold_43 : decode cX11_stableTold 43 = .ok (.ireturn, 1) := by decide +kernel
theorem dX11_stableTold_44 : decode cX11_stableTold 44 = .ok (.aload_n 0, 1) := by decide +kernel
theorem dX11_stableTold_45 : decode cX11_stableTold 45 = .ok (.getfield 33, 3) := by decide +kernel
theorem dX11_stableTold_48 : decode cX11_stableTold 48 = .ok (.iload_n 1, 1) := by decide +kernel
theorem dX11_stableTold_49 : decode cX11_stableTold 49 = .ok (.bipush 10, 2) := by decide +kernel
theorem dX11_stableTold_51 : decode cX11_stableTold 51 = .ok (.isub, 1) := by decide +kernel
theorem dX11_stableTold_52 : decode cX11_stableTold 52 = .ok (.invokevirtual 272, 3) := by decide +kernel
theorem dX11_stableTold_55 : decode cX11_stableTold 55 = .ok (.ireturn, 1) := by decide +kernel
theorem dX11_isRowQuestion_0 : decode cX11_isRowQuestion 0 = .ok (.iload_n 0, 1) := by decide +kernel
theorem dX11_isRowQuestion_1 : decode cX11_isRowQuestion 1 = .ok (.ifCond .eq 20, 3) := by decide +kernel
theorem dX11_isRowQuestion_4 : decode cX11_isRowQuestion 4 = .ok (.iload_n 0, 1) := by decide +kernel
theorem dX11_isRowQuestion_5 : decode cX11_isRowQuestion 5 = .ok (.iconst 1, 1) := by decide +kernel
theorem dX11_isRowQuestion_6 : decode cX11_isRowQuestion 6 = .ok (.if_icmp .eq 15, 3) := by decide +kernel
theorem dX11_isRowQuestion_9 : decode cX11_isRowQuestion 9 = .ok (.iload_n 0, 1) := by decide +kernel
theorem dX11_isRowQuestion_10 : decode cX11_isRowQuestion 10 = .ok (.bipush 10, 2) := by decide +kernel
theorem dX11_isRowQuestion_12 : decode cX11_isRowQuestion 12 = .ok (.if_icmp .lt 13, 3) := by decide +kernel
theorem dX11_isRowQuestion_15 : decode cX11_isRowQuestion 15 = .ok (.iload_n 0, 1) := by decide +kernel
theorem dX11_isRowQuestion_16 : decode cX11_isRowQuestion 16 = .ok (.bipush 17, 2) := by decide +kernel
theorem dX11_isRowQuestion_18 : decode cX11_isRowQuestion 18 = .ok (.if_icmp .ge 7, 3) := by decide +kernel
theorem dX11_isRowQuestion_21 : decode cX11_isRowQuestion 21 = .ok (.iconst 1, 1) := by decide +kernel
theorem dX11_isRowQuestion_22 : decode cX11_isRowQuestion 22 = .ok (.goto 4, 3) := by decide +kernel
theorem dX11_isRowQuestion_25 : decode cX11_isRowQuestion 25 = .ok (.iconst 0, 1) := by decide +kernel
theorem dX11_isRowQuestion_26 : decode cX11_isRowQuestion 26 = .ok (.ireturn, 1) := by decide +kernel
theorem dX11_isStation_0 : decode cX11_isStation 0 = .ok (.iload_n 0, 1) := by decide +kernel
theorem dX11_isStation_1 : decode cX11_isStation 1 = .ok (.ifCond .lt 13, 3) := by decide +kernel
theorem dX11_isStation_4 : decode cX11_isStation 4 = .ok (.iload_n 0, 1) := by decide +kernel
theorem dX11_isStation_5 : decode cX11_isStation 5 = .ok (.bipush 6, 2) := by decide +kernel
theorem dX11_isStation_7 : decode cX11_isStation 7 = .ok (.if_icmp .ge 7, 3) := by decide +kernel
theorem dX11_isStation_10 : decode cX11_isStation 10 = .ok (.iconst 1, 1) := by decide +kernel
theorem dX11_isStation_11 : decode cX11_isStation 11 = .ok (.goto 4, 3) := by decide +kernel
theorem dX11_isStation_14 : decode cX11_isStation 14 = .ok (.iconst 0, 1) := by decide +kernel
theorem dX11_isStation_15 : decode cX11_isStation 15 = .ok (.ireturn, 1) := by decide +kernel
theorem dX11_isOfKind_0 : decode cX11_isOfKind 0 = .ok (.iload_n 1, 1) := by decide +kernel
theorem dX11_isOfKind_1 : decode cX11_isOfKind 1 = .ok (.tableswitch 57 0 4 #[35, 37, 42, 47, 52], 35) := by decide +kernel
theorem dX11_isOfKind_36 : decode cX11_isOfKind 36 = .ok (.iconst 1, 1) := by decide +kernel
theorem dX11_isOfKind_37 : decode cX11_isOfKind 37 = .ok (.ireturn, 1) := by decide +kernel
theorem dX11_isOfKind_38 : decode cX11_isOfKind 38 = .ok (.aload_n 0, 1) := by decide +kernel
theorem dX11_isOfKind_39 : decode cX11_isOfKind 39 = .ok (.instanceof 279, 3) := by decide +kernel
theorem dX11_isOfKind_42 : decode cX11_isOfKind 42 = .ok (.ireturn, 1) := by decide +kernel
theorem dX11_isOfKind_43 : decode cX11_isOfKind 43 = .ok (.aload_n 0, 1) := by decide +kernel
theorem dX11_isOfKind_44 : decode cX11_isOfKind 44 = .ok (.instanceof 281, 3) := by decide +kernel
theorem dX11_isOfKind_47 : decode cX11_isOfKind 47 = .ok (.ireturn, 1) := by decide +kernel
theorem dX11_isOfKind_48 : decode cX11_isOfKind 48 = .ok (.aload_n 0, 1) := by decide +kernel
theorem dX11_isOfKind_49 : decode cX11_isOfKind 49 = .ok (.instanceof 283, 3) := by decide +kernel
theorem dX11_isOfKind_52 : decode cX11_isOfKind 52 = .ok (.ireturn, 1) := by decide +kernel
theorem dX11_isOfKind_53 : decode cX11_isOfKind 53 = .ok (.aload_n 0, 1) := by decide +kernel
theorem dX11_isOfKind_54 : decode cX11_isOfKind 54 = .ok (.instanceof 285, 3) := by decide +kernel
theorem dX11_isOfKind_57 : decode cX11_isOfKind 57 = .ok (.ireturn, 1) := by decide +kernel
theorem dX11_isOfKind_58 : decode cX11_isOfKind 58 = .ok (.iconst 0, 1) := by decide +kernel
theorem dX11_isOfKind_59 : decode cX11_isOfKind 59 = .ok (.ireturn, 1) := by decide +kernel
theorem dX11_commonDivisor_0 : decode cX11_commonDivisor 0 = .ok (.iload_n 1, 1) := by decide +kernel
theorem dX11_commonDivisor_1 : decode cX11_commonDivisor 1 = .ok (.istore_n 2, 1) := by decide +kernel
theorem dX11_commonDivisor_2 : decode cX11_commonDivisor 2 = .ok (.iload_n 2, 1) := by decide +kernel
theorem dX11_commonDivisor_3 : decode cX11_commonDivisor 3 = .ok (.iconst 1, 1) := by decide +kernel
theorem dX11_commonDivisor_4 : decode cX11_commonDivisor 4 = .ok (.if_icmp .le 23, 3) := by decide +kernel
theorem dX11_commonDivisor_7 : decode cX11_commonDivisor 7 = .ok (.iload_n 0, 1) := by decide +kernel
theorem dX11_commonDivisor_8 : decode cX11_commonDivisor 8 = .ok (.iload_n 2, 1) := by decide +kernel
theorem dX11_commonDivisor_9 : decode cX11_commonDivisor 9 = .ok (.irem, 1) := by decide +kernel
theorem dX11_commonDivisor_10 : decode cX11_commonDivisor 10 = .ok (.ifCond .ne 11, 3) := by decide +kernel
theorem dX11_commonDivisor_13 : decode cX11_commonDivisor 13 = .ok (.iload_n 1, 1) := by decide +kernel
theorem dX11_commonDivisor_14 : decode cX11_commonDivisor 14 = .ok (.iload_n 2, 1) := by decide +kernel
theorem dX11_commonDivisor_15 : decode cX11_commonDivisor 15 = .ok (.irem, 1) := by decide +kernel
theorem dX11_commonDivisor_16 : decode cX11_commonDivisor 16 = .ok (.ifCond .ne 5, 3) := by decide +kernel
theorem dX11_commonDivisor_19 : decode cX11_commonDivisor 19 = .ok (.iload_n 2, 1) := by decide +kernel
theorem dX11_commonDivisor_20 : decode cX11_commonDivisor 20 = .ok (.ireturn, 1) := by decide +kernel
theorem dX11_commonDivisor_21 : decode cX11_commonDivisor 21 = .ok (.iinc 2 (-1), 3) := by decide +kernel
theorem dX11_commonDivisor_24 : decode cX11_commonDivisor 24 = .ok (.goto (-22), 3) := by decide +kernel
theorem dX11_commonDivisor_27 : decode cX11_commonDivisor 27 = .ok (.iconst 1, 1) := by decide +kernel
theorem dX11_commonDivisor_28 : decode cX11_commonDivisor 28 = .ok (.ireturn, 1) := by decide +kernel
end
section
theorem dX12_init_0 : decode cX12_init 0 = .ok (.aload_n 0, 1) := by decide +kernel
theorem dX12_init_1 : decode cX12_init 1 = .ok (.invokespecial 1, 3) := by decide +kernel
theorem dX12_init_4 : decode cX12_init 4 = .ok (.aload_n 0, 1) := by decide +kernel
theorem dX12_init_5 : decode cX12_init 5 = .ok (.bipush 36, 2) := by decide +kernel
theorem dX12_init_7 : decode cX12_init 7 = .ok (.newarray .int, 2) := by decide +kernel
theorem dX12_init_9 : decode cX12_init 9 = .ok (.putfield 7, 3) := by decide +kernel
theorem dX12_init_12 : decode cX12_init 12 = .ok (.aload_n 0, 1) := by decide +kernel
theorem dX12_init_13 : decode cX12_init 13 = .ok (.bipush 14, 2) := by decide +kernel
theorem dX12_init_15 : decode cX12_init 15 = .ok (.newarray .int, 2) := by decide +kernel
theorem dX12_init_17 : decode cX12_init 17 = .ok (.putfield 13, 3) := by decide +kernel
theorem dX12_init_20 : decode cX12_init 20 = .ok (.aload_n 0, 1) := by decide +kernel
theorem dX12_init_21 : decode cX12_init 21 = .ok (.bipush 7, 2) := by decide +kernel
theorem dX12_init_23 : decode cX12_init 23 = .ok (.newarray .int, 2) := by decide +kernel
theorem dX12_init_25 : decode cX12_init 25 = .ok (.putfield 16, 3) := by decide +kernel
theorem dX12_init_28 : decode cX12_init 28 = .ok (.aload_n 0, 1) := by decide +kernel
theorem dX12_init_29 : decode cX12_init 29 = .ok (.bipush 7, 2) := by decide +kernel
theorem dX12_init_31 : decode cX12_init 31 = .ok (.newarray .int, 2) := by decide +kernel
theorem dX12_init_33 : decode cX12_init 33 = .ok (.putfield 19, 3) := by decide +kernel
theorem dX12_init_36 : decode cX12_init 36 = .ok (.aload_n 0, 1) := by decide +kernel
theorem dX12_init_37 : decode cX12_init 37 = .ok (.bipush 7, 2) := by decide +kernel
theorem dX12_init_39 : decode cX12_init 39 = .ok (.newarray .int, 2) := by decide +kernel
theorem dX12_init_41 : decode cX12_init 41 = .ok (.putfield 22, 3) := by decide +kernel
theorem dX12_init_44 : decode cX12_init 44 = .ok (.aload_n 0, 1) := by decide +kernel
theorem dX12_init_45 : decode cX12_init 45 = .ok (.bipush 7, 2) := by decide +kernel
theorem dX12_init_47 : decode cX12_init 47 = .ok (.newarray .int, 2) := by decide +kernel
theorem dX12_init_49 : decode cX12_init 49 = .ok (.putfield 25, 3) := by decide +kernel
theorem dX12_init_52 : decode cX12_init 52 = .ok (.aload_n 0, 1) := by decide +kernel
theorem dX12_init_53 : decode cX12_init 53 = .ok (.bipush 7, 2) := by decide +kernel
theorem dX12_init_55 : decode cX12_init 55 = .ok (.newarray .int, 2) := by decide +kernel
theorem dX12_init_57 : decode cX12_init 57 = .ok (.putfield 28, 3) := by decide +kernel
theorem dX12_init_60 : decode cX12_init 60 = .ok (.aload_n 0, 1) := by decide +kernel
theorem dX12_init_61 : decode cX12_init 61 = .ok (.bipush 7, 2) := by decide +kernel
theorem dX12_init_63 : decode cX12_init 63 = .ok (.newarray .int, 2) := by decide +kernel
theorem dX12_init_65 : decode cX12_init 65 = .ok (.putfield 31, 3) := by decide +kernel
theorem dX12_init_68 : decode cX12_init 68 = .ok (.aload_n 0, 1) := by decide +kernel
theorem dX12_init_69 : decode cX12_init 69 = .ok (.bipush 24, 2) := by decide +kernel
theorem dX12_init_71 : decode cX12_init 71 = .ok (.newarray .int, 2) := by decide +kernel
theorem dX12_init_73 : decode cX12_init 73 = .ok (.putfield 34, 3) := by decide +kernel
theorem dX12_init_76 : decode cX12_init 76 = .ok (.aload_n 0, 1) := by decide +kernel
theorem dX12_init_77 : decode cX12_init 77 = .ok (.bipush 20, 2) := by decide +kernel
theorem dX12_init_79 : decode cX12_init 79 = .ok (.newarray .int, 2) := by decide +kernel
theorem dX12_init_81 : decode cX12_init 81 = .ok (.putfield 37, 3) := by decide +kernel
theorem dX12_init_84 : decode cX12_init 84 = .ok (.aload_n 0, 1) := by decide +kernel
theorem dX12_init_85 : decode cX12_init 85 = .ok (.bipush 7, 2) := by decide +kernel
theorem dX12_init_87 : decode cX12_init 87 = .ok (.newarray .int, 2) := by decide +kernel
theorem dX12_init_89 : decode cX12_init 89 = .ok (.putfield 40, 3) := by decide +kernel
theorem dX12_init_92 : decode cX12_init 92 = .ok (.aload_n 0, 1) := by decide +kernel
theorem dX12_init_93 : decode cX12_init 93 = .ok (.bipush 7, 2) := by decide +kernel
theorem dX12_init_95 : decode cX12_init 95 = .ok (.newarray .int, 2) := by decide +kernel
theorem dX12_init_97 : decode cX12_init 97 = .ok (.putfield 43, 3) := by decide +kernel
theorem dX12_init_100 : decode cX12_init 100 = .ok (.aload_n 0, 1) := by decide +kernel
theorem dX12_init_101 : decode cX12_init 101 = .ok (.bipush 7, 2) := by decide +kernel
theorem dX12_init_103 : decode cX12_init 103 = .ok (.newarray .int, 2) := by decide +kernel
theorem dX12_init_105 : decode cX12_init 105 = .ok (.putfield 46, 3) := by decide +kernel
theorem dX12_init_108 : decode cX12_init 108 = .ok (.aload_n 0, 1) := by decide +kernel
theorem dX12_init_109 : decode cX12_init 109 = .ok (.bipush 24, 2) := by decide +kernel
theorem dX12_init_111 : decode cX12_init 111 = .ok (.newarray .int, 2) := by decide +kernel
theorem dX12_init_113 : decode cX12_init 113 = .ok (.putfield 49, 3) := by decide +kernel
theorem dX12_init_116 : decode cX12_init 116 = .ok (.aload_n 0, 1) := by decide +kernel
theorem dX12_init_117 : decode cX12_init 117 = .ok (.iconst (-1), 1) := by decide +kernel
theorem dX12_init_118 : decode cX12_init 118 = .ok (.putfield 52, 3) := by decide +kernel
theorem dX12_init_121 : decode cX12_init 121 = .ok (.return_, 1) := by decide +kernel
theorem dX12_in_0 : decode cX12_in 0 = .ok (.lload_n 0, 1) := by decide +kernel
theorem dX12_in_1 : decode cX12_in 1 = .ok (.lload_n 2, 1) := by decide +kernel
theorem dX12_in_2 : decode cX12_in 2 = .ok (.lcmp, 1) := by decide +kernel
theorem dX12_in_3 : decode cX12_in 3 = .ok (.ifCond .lt 14, 3) := by decide +kernel
theorem dX12_in_6 : decode cX12_in 6 = .ok (.lload_n 0, 1) := by decide +kernel
theorem dX12_in_7 : decode cX12_in 7 = .ok (.lload 4, 2) := by decide +kernel
theorem dX12_in_9 : decode cX12_in 9 = .ok (.lcmp, 1) := by decide +kernel
theorem dX12_in_10 : decode cX12_in 10 = .ok (.ifCond .gt 7, 3) := by decide +kernel
theorem dX12_in_13 : decode cX12_in 13 = .ok (.iconst 1, 1) := by decide +kernel
theorem dX12_in_14 : decode cX12_in 14 = .ok (.goto 4, 3) := by decide +kernel
theorem dX12_in_17 : decode cX12_in 17 = .ok (.iconst 0, 1) := by decide +kernel
theorem dX12_in_18 : decode cX12_in 18 = .ok (.ireturn, 1) := by decide +kernel
theorem dX12_copy_0 : decode cX12_copy 0 = .ok (.iconst 0, 1) := by decide +kernel
theorem dX12_copy_1 : decode cX12_copy 1 = .ok (.istore_n 2, 1) := by decide +kernel
theorem dX12_copy_2 : decode cX12_copy 2 = .ok (.iload_n 2, 1) := by decide +kernel
theorem dX12_copy_3 : decode cX12_copy 3 = .ok (.aload_n 0, 1) := by decide +kernel
theorem dX12_copy_4 : decode cX12_copy 4 = .ok (.arraylength, 1) := by decide +kernel
theorem dX12_copy_5 : decode cX12_copy 5 = .ok (.if_icmp .ge 15, 3) := by decide +kernel
theorem dX12_copy_8 : decode cX12_copy 8 = .ok (.aload_n 1, 1) := by decide +kernel
theorem dX12_copy_9 : decode cX12_copy 9 = .ok (.iload_n 2, 1) := by decide +kernel
theorem dX12_copy_10 : decode cX12_copy 10 = .ok (.aload_n 0, 1) := by decide +kernel
theorem dX12_copy_11 : decode cX12_copy 11 = .ok (.iload_n 2, 1) := by decide +kernel
theorem dX12_copy_12 : decode cX12_copy 12 = .ok (.iaload, 1) := by decide +kernel
theorem dX12_copy_13 : decode cX12_copy 13 = .ok (.iastore, 1) := by decide +kernel
theorem dX12_copy_14 : decode cX12_copy 14 = .ok (.iinc 2 1, 3) := by decide +kernel
theorem dX12_copy_17 : decode cX12_copy 17 = .ok (.goto (-15), 3) := by decide +kernel
theorem dX12_copy_20 : decode cX12_copy 20 = .ok (.return_, 1) := by decide +kernel
theorem dX12_far_0 : decode cX12_far 0 = .ok (.iload_n 0, 1) := by decide +kernel
theorem dX12_far_1 : decode cX12_far 1 = .ok (.iload_n 1, 1) := by decide +kernel
theorem dX12_far_2 : decode cX12_far 2 = .ok (.if_icmp .ge 9, 3) := by decide +kernel
theorem dX12_far_5 : decode cX12_far 5 = .ok (.iload_n 1, 1) := by decide +kernel
theorem dX12_far_6 : decode cX12_far 6 = .ok (.iload_n 0, 1) := by decide +kernel
theorem dX12_far_7 : decode cX12_far 7 = .ok (.isub, 1) := by decide +kernel
theorem dX12_far_8 : decode cX12_far 8 = .ok (.goto 6, 3) := by decide +kernel
theorem dX12_far_11 : decode cX12_far 11 = .ok (.iload_n 0, 1) := by decide +kernel
theorem dX12_far_12 : decode cX12_far 12 = .ok (.iload_n 1, 1) := by decide +kernel
theorem dX12_far_13 : decode cX12_far 13 = .ok (.isub, 1) := by decide +kernel
theorem dX12_far_14 : decode cX12_far 14 = .ok (.ireturn, 1) := by decide +kernel
theorem dX12_ones_0 : decode cX12_ones 0 = .ok (.iconst 0, 1) := by decide +kernel
theorem dX12_ones_1 : decode cX12_ones 1 = .ok (.istore_n 1, 1) := by decide +kernel
theorem dX12_ones_2 : decode cX12_ones 2 = .ok (.iconst 0, 1) := by decide +kernel
theorem dX12_ones_3 : decode cX12_ones 3 = .ok (.istore_n 2, 1) := by decide +kernel
theorem dX12_ones_4 : decode cX12_ones 4 = .ok (.iload_n 2, 1) := by decide +kernel
theorem dX12_ones_5 : decode cX12_ones 5 = .ok (.bipush 10, 2) := by decide +kernel
theorem dX12_ones_7 : decode cX12_ones 7 = .ok (.if_icmp .ge 17, 3) := by decide +kernel
theorem dX12_ones_10 : decode cX12_ones 10 = .ok (.iload_n 1, 1) := by decide +kernel
theorem dX12_ones_11 : decode cX12_ones 11 = .ok (.iload_n 0, 1) := by decide +kernel
theorem dX12_ones_12 : decode cX12_ones 12 = .ok (.iload_n 2, 1) := by decide +kernel
theorem dX12_ones_13 : decode cX12_ones 13 = .ok (.ishr, 1) := by decide +kernel
theorem dX12_ones_14 : decode cX12_ones 14 = .ok (.iconst 1, 1) := by decide +kernel
theorem dX12_ones_15 : decode cX12_ones 15 = .ok (.iand, 1) := by decide +kernel
theorem dX12_ones_16 : decode cX12_ones 16 = .ok (.iadd, 1) := by decide +kernel
theorem dX12_ones_17 : decode cX12_ones 17 = .ok (.istore_n 1, 1) := by decide +kernel
theorem dX12_ones_18 : decode cX12_ones 18 = .ok (.iinc 2 1, 3) := by decide +kernel
theorem dX12_ones_21 : decode cX12_ones 21 = .ok (.goto (-17), 3) := by decide +kernel
theorem dX12_ones_24 : decode cX12_ones 24 = .ok (.iload_n 1, 1) := by decide +kernel
theorem dX12_ones_25 : decode cX12_ones 25 = .ok (.ireturn, 1) := by decide +kernel
theorem dX12_common_0 : decode cX12_common 0 = .ok (.iload_n 0, 1) := by decide +kernel
theorem dX12_common_1 : decode cX12_common 1 = .ok (.istore_n 2, 1) := by decide +kernel
theorem dX12_common_2 : decode cX12_common 2 = .ok (.iload_n 1, 1) := by decide +kernel
theorem dX12_common_3 : decode cX12_common 3 = .ok (.istore_n 3, 1) := by decide +kernel
theorem dX12_common_4 : decode cX12_common 4 = .ok (.iload_n 3, 1) := by decide +kernel
theorem dX12_common_5 : decode cX12_common 5 = .ok (.ifCond .le 16, 3) := by decide +kernel
theorem dX12_common_8 : decode cX12_common 8 = .ok (.iload_n 2, 1) := by decide +kernel
theorem dX12_common_9 : decode cX12_common 9 = .ok (.iload_n 3, 1) := by decide +kernel
theorem dX12_common_10 : decode cX12_common 10 = .ok (.irem, 1) := by decide +kernel
theorem dX12_common_11 : decode cX12_common 11 = .ok (.istore 4, 2) := by decide +kernel
theorem dX12_common_13 : decode cX12_common 13 = .ok (.iload_n 3, 1) := by decide +kernel
theorem dX12_common_14 : decode cX12_common 14 = .ok (.istore_n 2, 1) := by decide +kernel
theorem dX12_common_15 : decode cX12_common 15 = .ok (.iload 4, 2) := by decide +kernel
theorem dX12_common_17 : decode cX12_common 17 = .ok (.istore_n 3, 1) := by decide +kernel
theorem dX12_common_18 : decode cX12_common 18 = .ok (.goto (-14), 3) := by decide +kernel
theorem dX12_common_21 : decode cX12_common 21 = .ok (.iload_n 2, 1) := by decide +kernel
theorem dX12_common_22 : decode cX12_common 22 = .ok (.ireturn, 1) := by decide +kernel
theorem dX12_letter_0 : decode cX12_letter 0 = .ok (.iload_n 1, 1) := by decide +kernel
theorem dX12_letter_1 : decode cX12_letter 1 = .ok (.i2l, 1) := by decide +kernel
theorem dX12_letter_2 : decode cX12_letter 2 = .ok (.lconst 1, 1) := by decide +kernel
theorem dX12_letter_3 : decode cX12_letter 3 = .ok (.ldc2_w 56, 3) := by decide +kernel
theorem dX12_letter_6 : decode cX12_letter 6 = .ok (.invokestatic 58, 3) := by decide +kernel
theorem dX12_letter_9 : decode cX12_letter 9 = .ok (.ifCond .ne 6, 3) := by decide +kernel
theorem dX12_letter_12 : decode cX12_letter 12 = .ok (.bipush (-102), 2) := by decide +kernel
theorem dX12_letter_14 : decode cX12_letter 14 = .ok (.ireturn, 1) := by decide +kernel
theorem dX12_letter_15 : decode cX12_letter 15 = .ok (.aload_n 0, 1) := by decide +kernel
theorem dX12_letter_16 : decode cX12_letter 16 = .ok (.getfield 62, 3) := by decide +kernel
theorem dX12_letter_19 : decode cX12_letter 19 = .ok (.bipush 36, 2) := by decide +kernel
theorem dX12_letter_21 : decode cX12_letter 21 = .ok (.if_icmp .ne 6, 3) := by decide +kernel
theorem dX12_letter_24 : decode cX12_letter 24 = .ok (.bipush (-104), 2) := by decide +kernel
theorem dX12_letter_26 : decode cX12_letter 26 = .ok (.ireturn, 1) := by decide +kernel
theorem dX12_letter_27 : decode cX12_letter 27 = .ok (.aload_n 0, 1) := by decide +kernel
theorem dX12_letter_28 : decode cX12_letter 28 = .ok (.getfield 7, 3) := by decide +kernel
theorem dX12_letter_31 : decode cX12_letter 31 = .ok (.aload_n 0, 1) := by decide +kernel
theorem dX12_letter_32 : decode cX12_letter 32 = .ok (.getfield 62, 3) := by decide +kernel
theorem dX12_letter_35 : decode cX12_letter 35 = .ok (.iload_n 1, 1) := by decide +kernel
theorem dX12_letter_36 : decode cX12_letter 36 = .ok (.iastore, 1) := by decide +kernel
theorem dX12_letter_37 : decode cX12_letter 37 = .ok (.aload_n 0, 1) := by decide +kernel
theorem dX12_letter_38 : decode cX12_letter 38 = .ok (.dup, 1) := by decide +kernel
theorem dX12_letter_39 : decode cX12_letter 39 = .ok (.getfield 62, 3) := by decide +kernel
theorem dX12_letter_42 : decode cX12_letter 42 = .ok (.iconst 1, 1) := by decide +kernel
theorem dX12_letter_43 : decode cX12_letter 43 = .ok (.iadd, 1) := by decide +kernel
theorem dX12_letter_44 : decode cX12_letter 44 = .ok (.putfield 62, 3) := by decide +kernel
theorem dX12_letter_47 : decode cX12_letter 47 = .ok (.aload_n 0, 1) := by decide +kernel
theorem dX12_letter_48 : decode cX12_letter 48 = .ok (.getfield 62, 3) := by decide +kernel
theorem dX12_letter_51 : decode cX12_letter 51 = .ok (.ireturn, 1) := by decide +kernel
theorem dX12_blank_0 : decode cX12_blank 0 = .ok (.aload_n 0, 1) := by decide +kernel
theorem dX12_blank_1 : decode cX12_blank 1 = .ok (.getfield 62, 3) := by decide +kernel
theorem dX12_blank_4 : decode cX12_blank 4 = .ok (.istore_n 1, 1) := by decide +kernel
theorem dX12_blank_5 : decode cX12_blank 5 = .ok (.aload_n 0, 1) := by decide +kernel
theorem dX12_blank_6 : decode cX12_blank 6 = .ok (.iconst 0, 1) := by decide +kernel
theorem dX12_blank_7 : decode cX12_blank 7 = .ok (.putfield 62, 3) := by decide +kernel
theorem dX12_blank_10 : decode cX12_blank 10 = .ok (.iload_n 1, 1) := by decide +kernel
theorem dX12_blank_11 : decode cX12_blank 11 = .ok (.ireturn, 1) := by decide +kernel
theorem dX12_kindBy_0 : decode cX12_kindBy 0 = .ok (.iload_n 0, 1) := by decide +kernel
theorem dX12_kindBy_1 : decode cX12_kindBy 1 = .ok (.tableswitch 77 103 115 #[69, 77, 77, 77, 71, 77, 75, 77, 77, 77, 77, 73, 67], 67) := by decide +kernel
theorem dX12_kindBy_68 : decode cX12_kindBy 68 = .ok (.iconst 0, 1) := by decide +kernel
theorem dX12_kindBy_69 : decode cX12_kindBy 69 = .ok (.ireturn, 1) := by decide +kernel
theorem dX12_kindBy_70 : decode cX12_kindBy 70 = .ok (.iconst 1, 1) := by decide +kernel
theorem dX12_kindBy_71 : decode cX12_kindBy 71 = .ok (.ireturn, 1) := by decide +kernel
theorem dX12_kindBy_72 : decode cX12_kindBy 72 = .ok (.iconst 2, 1) := by decide +kernel
theorem dX12_kindBy_73 : decode cX12_kindBy 73 = .ok (.ireturn, 1) := by decide +kernel
theorem dX12_kindBy_74 : decode cX12_kindBy 74 = .ok (.iconst 3, 1) := by decide +kernel
theorem dX12_kindBy_75 : decode cX12_kindBy 75 = .ok (.ireturn, 1) := by decide +kernel
theorem dX12_kindBy_76 : decode cX12_kindBy 76 = .ok (.iconst 4, 1) := by decide +kernel
theorem dX12_kindBy_77 : decode cX12_kindBy 77 = .ok (.ireturn, 1) := by decide +kernel
theorem dX12_kindBy_78 : decode cX12_kindBy 78 = .ok (.iconst (-1), 1) := by decide +kernel
theorem dX12_kindBy_79 : decode cX12_kindBy 79 = .ok (.ireturn, 1) := by decide +kernel
theorem dX12_isGood_0 : decode cX12_isGood 0 = .ok (.iload_n 0, 1) := by decide +kernel
theorem dX12_isGood_1 : decode cX12_isGood 1 = .ok (.iconst 5, 1) := by decide +kernel
theorem dX12_isGood_2 : decode cX12_isGood 2 = .ok (.irem, 1) := by decide +kernel
theorem dX12_isGood_3 : decode cX12_isGood 3 = .ok (.tableswitch 79 0 3 #[29, 43, 55, 67], 29) := by decide +kernel
theorem dX12_isGood_32 : decode cX12_isGood 32 = .ok (.iload_n 1, 1) := by decide +kernel
theorem dX12_isGood_33 : decode cX12_isGood 33 = .ok (.invokestatic 65, 3) := by decide +kernel
theorem dX12_isGood_36 : decode cX12_isGood 36 = .ok (.iconst (-1), 1) := by decide +kernel
theorem dX12_isGood_37 : decode cX12_isGood 37 = .ok (.if_icmp .eq 7, 3) := by decide +kernel
theorem dX12_isGood_40 : decode cX12_isGood 40 = .ok (.iconst 1, 1) := by decide +kernel
theorem dX12_isGood_41 : decode cX12_isGood 41 = .ok (.goto 4, 3) := by decide +kernel
theorem dX12_isGood_44 : decode cX12_isGood 44 = .ok (.iconst 0, 1) := by decide +kernel
theorem dX12_isGood_45 : decode cX12_isGood 45 = .ok (.ireturn, 1) := by decide +kernel
theorem dX12_isGood_46 : decode cX12_isGood 46 = .ok (.iload_n 1, 1) := by decide +kernel
theorem dX12_isGood_47 : decode cX12_isGood 47 = .ok (.i2l, 1) := by decide +kernel
theorem dX12_isGood_48 : decode cX12_isGood 48 = .ok (.ldc2_w 69, 3) := by decide +kernel
theorem dX12_isGood_51 : decode cX12_isGood 51 = .ok (.ldc2_w 71, 3) := by decide +kernel
theorem dX12_isGood_54 : decode cX12_isGood 54 = .ok (.invokestatic 58, 3) := by decide +kernel
theorem dX12_isGood_57 : decode cX12_isGood 57 = .ok (.ireturn, 1) := by decide +kernel
theorem dX12_isGood_58 : decode cX12_isGood 58 = .ok (.iload_n 1, 1) := by decide +kernel
theorem dX12_isGood_59 : decode cX12_isGood 59 = .ok (.i2l, 1) := by decide +kernel
theorem dX12_isGood_60 : decode cX12_isGood 60 = .ok (.ldc2_w 69, 3) := by decide +kernel
theorem dX12_isGood_63 : decode cX12_isGood 63 = .ok (.ldc2_w 73, 3) := by decide +kernel
theorem dX12_isGood_66 : decode cX12_isGood 66 = .ok (.invokestatic 58, 3) := by decide +kernel
theorem dX12_isGood_69 : decode cX12_isGood 69 = .ok (.ireturn, 1) := by decide +kernel
theorem dX12_isGood_70 : decode cX12_isGood 70 = .ok (.iload_n 1, 1) := by decide +kernel
theorem dX12_isGood_71 : decode cX12_isGood 71 = .ok (.i2l, 1) := by decide +kernel
theorem dX12_isGood_72 : decode cX12_isGood 72 = .ok (.ldc2_w 69, 3) := by decide +kernel
theorem dX12_isGood_75 : decode cX12_isGood 75 = .ok (.ldc2_w 75, 3) := by decide +kernel
theorem dX12_isGood_78 : decode cX12_isGood 78 = .ok (.invokestatic 58, 3) := by decide +kernel
theorem dX12_isGood_81 : decode cX12_isGood 81 = .ok (.ireturn, 1) := by decide +kernel
theorem dX12_isGood_82 : decode cX12_isGood 82 = .ok (.iload_n 1, 1) := by decide +kernel
theorem dX12_isGood_83 : decode cX12_isGood 83 = .ok (.bipush 44, 2) := by decide +kernel
theorem dX12_isGood_85 : decode cX12_isGood 85 = .ok (.if_icmp .ne 13, 3) := by decide +kernel
theorem dX12_isGood_88 : decode cX12_isGood 88 = .ok (.iload_n 0, 1) := by decide +kernel
theorem dX12_isGood_89 : decode cX12_isGood 89 = .ok (.bipush 34, 2) := by decide +kernel
theorem dX12_isGood_91 : decode cX12_isGood 91 = .ok (.if_icmp .ge 7, 3) := by decide +kernel
theorem dX12_isGood_94 : decode cX12_isGood 94 = .ok (.iconst 1, 1) := by decide +kernel
theorem dX12_isGood_95 : decode cX12_isGood 95 = .ok (.goto 4, 3) := by decide +kernel
theorem dX12_isGood_98 : decode cX12_isGood 98 = .ok (.iconst 0, 1) := by decide +kernel
theorem dX12_isGood_99 : decode cX12_isGood 99 = .ok (.ireturn, 1) := by decide +kernel
theorem dX12_faultOf_0 : decode cX12_faultOf 0 = .ok (.iconst 0, 1) := by decide +kernel
theorem dX12_faultOf_1 : decode cX12_faultOf 1 = .ok (.istore_n 1, 1) := by decide +kernel
theorem dX12_faultOf_2 : decode cX12_faultOf 2 = .ok (.iload_n 1, 1) := by decide +kernel
theorem dX12_faultOf_3 : decode cX12_faultOf 3 = .ok (.aload_n 0, 1) := by decide +kernel
theorem dX12_faultOf_4 : decode cX12_faultOf 4 = .ok (.getfield 62, 3) := by decide +kernel
theorem dX12_faultOf_7 : decode cX12_faultOf 7 = .ok (.if_icmp .ge 22, 3) := by decide +kernel
theorem dX12_faultOf_10 : decode cX12_faultOf 10 = .ok (.iload_n 1, 1) := by decide +kernel
theorem dX12_faultOf_11 : decode cX12_faultOf 11 = .ok (.aload_n 0, 1) := by decide +kernel
theorem dX12_faultOf_12 : decode cX12_faultOf 12 = .ok (.getfield 7, 3) := by decide +kernel
theorem dX12_faultOf_15 : decode cX12_faultOf 15 = .ok (.iload_n 1, 1) := by decide +kernel
theorem dX12_faultOf_16 : decode cX12_faultOf 16 = .ok (.iaload, 1) := by decide +kernel
theorem dX12_faultOf_17 : decode cX12_faultOf 17 = .ok (.invokestatic 77, 3) := by decide +kernel
theorem dX12_faultOf_20 : decode cX12_faultOf 20 = .ok (.ifCond .eq 9, 3) := by decide +kernel
theorem dX12_faultOf_23 : decode cX12_faultOf 23 = .ok (.iinc 1 1, 3) := by decide +kernel
theorem dX12_faultOf_26 : decode cX12_faultOf 26 = .ok (.goto (-24), 3) := by decide +kernel
theorem dX12_faultOf_29 : decode cX12_faultOf 29 = .ok (.iload_n 1, 1) := by decide +kernel
theorem dX12_faultOf_30 : decode cX12_faultOf 30 = .ok (.ireturn, 1) := by decide +kernel
theorem dX12_fault_0 : decode cX12_fault 0 = .ok (.aload_n 0, 1) := by decide +kernel
theorem dX12_fault_1 : decode cX12_fault 1 = .ok (.invokevirtual 81, 3) := by decide +kernel
theorem dX12_fault_4 : decode cX12_fault 4 = .ok (.ireturn, 1) := by decide +kernel
theorem dX12_drawer_0 : decode cX12_drawer 0 = .ok (.aload_n 0, 1) := by decide +kernel
theorem dX12_drawer_1 : decode cX12_drawer 1 = .ok (.getfield 62, 3) := by decide +kernel
theorem dX12_drawer_4 : decode cX12_drawer 4 = .ok (.bipush 9, 2) := by decide +kernel
theorem dX12_drawer_6 : decode cX12_drawer 6 = .ok (.if_icmp .lt 24, 3) := by decide +kernel
theorem dX12_drawer_9 : decode cX12_drawer 9 = .ok (.aload_n 0, 1) := by decide +kernel
theorem dX12_drawer_10 : decode cX12_drawer 10 = .ok (.getfield 62, 3) := by decide +kernel
theorem dX12_drawer_13 : decode cX12_drawer 13 = .ok (.iconst 5, 1) := by decide +kernel
theorem dX12_drawer_14 : decode cX12_drawer 14 = .ok (.irem, 1) := by decide +kernel
theorem dX12_drawer_15 : decode cX12_drawer 15 = .ok (.iconst 4, 1) := by decide +kernel
theorem dX12_drawer_16 : decode cX12_drawer 16 = .ok (.if_icmp .ne 14, 3) := by decide +kernel
theorem dX12_drawer_19 : decode cX12_drawer 19 = .ok (.aload_n 0, 1) := by decide +kernel
theorem dX12_drawer_20 : decode cX12_drawer 20 = .ok (.invokevirtual 81, 3) := by decide +kernel
theorem dX12_drawer_23 : decode cX12_drawer 23 = .ok (.aload_n 0, 1) := by decide +kernel
theorem dX12_drawer_24 : decode cX12_drawer 24 = .ok (.getfield 62, 3) := by decide +kernel
theorem dX12_drawer_27 : decode cX12_drawer 27 = .ok (.if_icmp .ge 6, 3) := by decide +kernel
theorem dX12_drawer_30 : decode cX12_drawer 30 = .ok (.bipush (-103), 2) := by decide +kernel
theorem dX12_drawer_32 : decode cX12_drawer 32 = .ok (.ireturn, 1) := by decide +kernel
theorem dX12_drawer_33 : decode cX12_drawer 33 = .ok (.aload_n 0, 1) := by decide +kernel
theorem dX12_drawer_34 : decode cX12_drawer 34 = .ok (.aload_n 0, 1) := by decide +kernel
theorem dX12_drawer_35 : decode cX12_drawer 35 = .ok (.getfield 62, 3) := by decide +kernel
theorem dX12_drawer_38 : decode cX12_drawer 38 = .ok (.iconst 1, 1) := by decide +kernel
theorem dX12_drawer_39 : decode cX12_drawer 39 = .ok (.iadd, 1) := by decide +kernel
theorem dX12_drawer_40 : decode cX12_drawer 40 = .ok (.iconst 5, 1) := by decide +kernel
theorem dX12_drawer_41 : decode cX12_drawer 41 = .ok (.idiv, 1) := by decide +kernel
theorem dX12_drawer_42 : decode cX12_drawer 42 = .ok (.putfield 85, 3) := by decide +kernel
theorem dX12_drawer_45 : decode cX12_drawer 45 = .ok (.iconst 0, 1) := by decide +kernel
theorem dX12_drawer_46 : decode cX12_drawer 46 = .ok (.istore_n 1, 1) := by decide +kernel
theorem dX12_drawer_47 : decode cX12_drawer 47 = .ok (.iload_n 1, 1) := by decide +kernel
theorem dX12_drawer_48 : decode cX12_drawer 48 = .ok (.aload_n 0, 1) := by decide +kernel
theorem dX12_drawer_49 : decode cX12_drawer 49 = .ok (.getfield 85, 3) := by decide +kernel
theorem dX12_drawer_52 : decode cX12_drawer 52 = .ok (.if_icmp .ge 96, 3) := by decide +kernel
theorem dX12_drawer_55 : decode cX12_drawer 55 = .ok (.aload_n 0, 1) := by decide +kernel
theorem dX12_drawer_56 : decode cX12_drawer 56 = .ok (.getfield 13, 3) := by decide +kernel
theorem dX12_drawer_59 : decode cX12_drawer 59 = .ok (.iconst 2, 1) := by decide +kernel
theorem dX12_drawer_60 : decode cX12_drawer 60 = .ok (.iload_n 1, 1) := by decide +kernel
theorem dX12_drawer_61 : decode cX12_drawer 61 = .ok (.imul, 1) := by decide +kernel
theorem dX12_drawer_62 : decode cX12_drawer 62 = .ok (.aload_n 0, 1) := by decide +kernel
theorem dX12_drawer_63 : decode cX12_drawer 63 = .ok (.getfield 7, 3) := by decide +kernel
theorem dX12_drawer_66 : decode cX12_drawer 66 = .ok (.iconst 5, 1) := by decide +kernel
theorem dX12_drawer_67 : decode cX12_drawer 67 = .ok (.iload_n 1, 1) := by decide +kernel
theorem dX12_drawer_68 : decode cX12_drawer 68 = .ok (.imul, 1) := by decide +kernel
theorem dX12_drawer_69 : decode cX12_drawer 69 = .ok (.iaload, 1) := by decide +kernel
theorem dX12_drawer_70 : decode cX12_drawer 70 = .ok (.invokestatic 65, 3) := by decide +kernel
theorem dX12_drawer_73 : decode cX12_drawer 73 = .ok (.iastore, 1) := by decide +kernel
theorem dX12_drawer_74 : decode cX12_drawer 74 = .ok (.aload_n 0, 1) := by decide +kernel
theorem dX12_drawer_75 : decode cX12_drawer 75 = .ok (.getfield 13, 3) := by decide +kernel
theorem dX12_drawer_78 : decode cX12_drawer 78 = .ok (.iconst 2, 1) := by decide +kernel
theorem dX12_drawer_79 : decode cX12_drawer 79 = .ok (.iload_n 1, 1) := by decide +kernel
theorem dX12_drawer_80 : decode cX12_drawer 80 = .ok (.imul, 1) := by decide +kernel
theorem dX12_drawer_81 : decode cX12_drawer 81 = .ok (.iconst 1, 1) := by decide +kernel
theorem dX12_drawer_82 : decode cX12_drawer 82 = .ok (.iadd, 1) := by decide +kernel
theorem dX12_drawer_83 : decode cX12_drawer 83 = .ok (.aload_n 0, 1) := by decide +kernel
theorem dX12_drawer_84 : decode cX12_drawer 84 = .ok (.getfield 7, 3) := by decide +kernel
theorem dX12_drawer_87 : decode cX12_drawer 87 = .ok (.iconst 5, 1) := by decide +kernel
theorem dX12_drawer_88 : decode cX12_drawer 88 = .ok (.iload_n 1, 1) := by decide +kernel
theorem dX12_drawer_89 : decode cX12_drawer 89 = .ok (.imul, 1) := by decide +kernel
theorem dX12_drawer_90 : decode cX12_drawer 90 = .ok (.iconst 1, 1) := by decide +kernel
theorem dX12_drawer_91 : decode cX12_drawer 91 = .ok (.iadd, 1) := by decide +kernel
theorem dX12_drawer_92 : decode cX12_drawer 92 = .ok (.iaload, 1) := by decide +kernel
theorem dX12_drawer_93 : decode cX12_drawer 93 = .ok (.bipush 48, 2) := by decide +kernel
theorem dX12_drawer_95 : decode cX12_drawer 95 = .ok (.isub, 1) := by decide +kernel
theorem dX12_drawer_96 : decode cX12_drawer 96 = .ok (.iastore, 1) := by decide +kernel
theorem dX12_drawer_97 : decode cX12_drawer 97 = .ok (.aload_n 0, 1) := by decide +kernel
theorem dX12_drawer_98 : decode cX12_drawer 98 = .ok (.getfield 16, 3) := by decide +kernel
theorem dX12_drawer_101 : decode cX12_drawer 101 = .ok (.iload_n 1, 1) := by decide +kernel
theorem dX12_drawer_102 : decode cX12_drawer 102 = .ok (.aload_n 0, 1) := by decide +kernel
theorem dX12_drawer_103 : decode cX12_drawer 103 = .ok (.getfield 7, 3) := by decide +kernel
theorem dX12_drawer_106 : decode cX12_drawer 106 = .ok (.iconst 5, 1) := by decide +kernel
theorem dX12_drawer_107 : decode cX12_drawer 107 = .ok (.iload_n 1, 1) := by decide +kernel
theorem dX12_drawer_108 : decode cX12_drawer 108 = .ok (.imul, 1) := by decide +kernel
theorem dX12_drawer_109 : decode cX12_drawer 109 = .ok (.iconst 2, 1) := by decide +kernel
theorem dX12_drawer_110 : decode cX12_drawer 110 = .ok (.iadd, 1) := by decide +kernel
theorem dX12_drawer_111 : decode cX12_drawer 111 = .ok (.iaload, 1) := by decide +kernel
theorem dX12_drawer_112 : decode cX12_drawer 112 = .ok (.bipush 48, 2) := by decide +kernel
theorem dX12_drawer_114 : decode cX12_drawer 114 = .ok (.isub, 1) := by decide +kernel
theorem dX12_drawer_115 : decode cX12_drawer 115 = .ok (.iastore, 1) := by decide +kernel
theorem dX12_drawer_116 : decode cX12_drawer 116 = .ok (.aload_n 0, 1) := by decide +kernel
theorem dX12_drawer_117 : decode cX12_drawer 117 = .ok (.getfield 19, 3) := by decide +kernel
theorem dX12_drawer_120 : decode cX12_drawer 120 = .ok (.iload_n 1, 1) := by decide +kernel
theorem dX12_drawer_121 : decode cX12_drawer 121 = .ok (.aload_n 0, 1) := by decide +kernel
theorem dX12_drawer_122 : decode cX12_drawer 122 = .ok (.getfield 7, 3) := by decide +kernel
theorem dX12_drawer_125 : decode cX12_drawer 125 = .ok (.iconst 5, 1) := by decide +kernel
theorem dX12_drawer_126 : decode cX12_drawer 126 = .ok (.iload_n 1, 1) := by decide +kernel
theorem dX12_drawer_127 : decode cX12_drawer 127 = .ok (.imul, 1) := by decide +kernel
theorem dX12_drawer_128 : decode cX12_drawer 128 = .ok (.iconst 3, 1) := by decide +kernel
theorem dX12_drawer_129 : decode cX12_drawer 129 = .ok (.iadd, 1) := by decide +kernel
theorem dX12_drawer_130 : decode cX12_drawer 130 = .ok (.iaload, 1) := by decide +kernel
theorem dX12_drawer_131 : decode cX12_drawer 131 = .ok (.bipush 48, 2) := by decide +kernel
theorem dX12_drawer_133 : decode cX12_drawer 133 = .ok (.isub, 1) := by decide +kernel
theorem dX12_drawer_134 : decode cX12_drawer 134 = .ok (.iastore, 1) := by decide +kernel
theorem dX12_drawer_135 : decode cX12_drawer 135 = .ok (.aload_n 0, 1) := by decide +kernel
theorem dX12_drawer_136 : decode cX12_drawer 136 = .ok (.getfield 22, 3) := by decide +kernel
theorem dX12_drawer_139 : decode cX12_drawer 139 = .ok (.iload_n 1, 1) := by decide +kernel
theorem dX12_drawer_140 : decode cX12_drawer 140 = .ok (.iconst (-1), 1) := by decide +kernel
theorem dX12_drawer_141 : decode cX12_drawer 141 = .ok (.iastore, 1) := by decide +kernel
theorem dX12_drawer_142 : decode cX12_drawer 142 = .ok (.iinc 1 1, 3) := by decide +kernel
theorem dX12_drawer_145 : decode cX12_drawer 145 = .ok (.goto (-98), 3) := by decide +kernel
theorem dX12_drawer_148 : decode cX12_drawer 148 = .ok (.aload_n 0, 1) := by decide +kernel
theorem dX12_drawer_149 : decode cX12_drawer 149 = .ok (.iconst 0, 1) := by decide +kernel
theorem dX12_drawer_150 : decode cX12_drawer 150 = .ok (.putfield 88, 3) := by decide +kernel
theorem dX12_drawer_153 : decode cX12_drawer 153 = .ok (.aload_n 0, 1) := by decide +kernel
theorem dX12_drawer_154 : decode cX12_drawer 154 = .ok (.iconst 0, 1) := by decide +kernel
theorem dX12_drawer_155 : decode cX12_drawer 155 = .ok (.putfield 91, 3) := by decide +kernel
theorem dX12_drawer_158 : decode cX12_drawer 158 = .ok (.aload_n 0, 1) := by decide +kernel
theorem dX12_drawer_159 : decode cX12_drawer 159 = .ok (.iconst 0, 1) := by decide +kernel
theorem dX12_drawer_160 : decode cX12_drawer 160 = .ok (.putfield 94, 3) := by decide +kernel
theorem dX12_drawer_163 : decode cX12_drawer 163 = .ok (.aload_n 0, 1) := by decide +kernel
theorem dX12_drawer_164 : decode cX12_drawer 164 = .ok (.iconst 0, 1) := by decide +kernel
theorem dX12_drawer_165 : decode cX12_drawer 165 = .ok (.putfield 97, 3) := by decide +kernel
theorem dX12_drawer_168 : decode cX12_drawer 168 = .ok (.aload_n 0, 1) := by decide +kernel
theorem dX12_drawer_169 : decode cX12_drawer 169 = .ok (.iconst 0, 1) := by decide +kernel
theorem dX12_drawer_170 : decode cX12_drawer 170 = .ok (.putfield 100, 3) := by decide +kernel
theorem dX12_drawer_173 : decode cX12_drawer 173 = .ok (.aload_n 0, 1) := by decide +kernel
theorem dX12_drawer_174 : decode cX12_drawer 174 = .ok (.dup, 1) := by decide +kernel
theorem dX12_drawer_175 : decode cX12_drawer 175 = .ok (.getfield 103, 3) := by decide +kernel
theorem dX12_drawer_178 : decode cX12_drawer 178 = .ok (.iconst 1, 1) := by decide +kernel
theorem dX12_drawer_179 : decode cX12_drawer 179 = .ok (.iadd, 1) := by decide +kernel
theorem dX12_drawer_180 : decode cX12_drawer 180 = .ok (.putfield 103, 3) := by decide +kernel
theorem dX12_drawer_183 : decode cX12_drawer 183 = .ok (.aload_n 0, 1) := by decide +kernel
theorem dX12_drawer_184 : decode cX12_drawer 184 = .ok (.iconst 0, 1) := by decide +kernel
theorem dX12_drawer_185 : decode cX12_drawer 185 = .ok (.putfield 62, 3) := by decide +kernel
theorem dX12_drawer_188 : decode cX12_drawer 188 = .ok (.aload_n 0, 1) := by decide +kernel
theorem dX12_drawer_189 : decode cX12_drawer 189 = .ok (.getfield 85, 3) := by decide +kernel
theorem dX12_drawer_192 : decode cX12_drawer 192 = .ok (.ireturn, 1) := by decide +kernel
theorem dX12_lacks_0 : decode cX12_lacks 0 = .ok (.aload_n 0, 1) := by decide +kernel
theorem dX12_lacks_1 : decode cX12_lacks 1 = .ok (.getfield 85, 3) := by decide +kernel
theorem dX12_lacks_4 : decode cX12_lacks 4 = .ok (.ifCond .ne 7, 3) := by decide +kernel
theorem dX12_lacks_7 : decode cX12_lacks 7 = .ok (.iconst 1, 1) := by decide +kernel
theorem dX12_lacks_8 : decode cX12_lacks 8 = .ok (.goto 4, 3) := by decide +kernel
theorem dX12_lacks_11 : decode cX12_lacks 11 = .ok (.iconst 0, 1) := by decide +kernel
theorem dX12_lacks_12 : decode cX12_lacks 12 = .ok (.ireturn, 1) := by decide +kernel
theorem dX12_isSingle_0 : decode cX12_isSingle 0 = .ok (.iload_n 1, 1) := by decide +kernel
theorem dX12_isSingle_1 : decode cX12_isSingle 1 = .ok (.i2l, 1) := by decide +kernel
theorem dX12_isSingle_2 : decode cX12_isSingle 2 = .ok (.lconst 0, 1) := by decide +kernel
theorem dX12_isSingle_3 : decode cX12_isSingle 3 = .ok (.aload_n 0, 1) := by decide +kernel
theorem dX12_isSingle_4 : decode cX12_isSingle 4 = .ok (.getfield 85, 3) := by decide +kernel
theorem dX12_isSingle_7 : decode cX12_isSingle 7 = .ok (.iconst 1, 1) := by decide +kernel
theorem dX12_isSingle_8 : decode cX12_isSingle 8 = .ok (.isub, 1) := by decide +kernel
theorem dX12_isSingle_9 : decode cX12_isSingle 9 = .ok (.i2l, 1) := by decide +kernel
theorem dX12_isSingle_10 : decode cX12_isSingle 10 = .ok (.invokestatic 58, 3) := by decide +kernel
theorem dX12_isSingle_13 : decode cX12_isSingle 13 = .ok (.ireturn, 1) := by decide +kernel
theorem dX12_areTwo_0 : decode cX12_areTwo 0 = .ok (.aload_n 0, 1) := by decide +kernel
theorem dX12_areTwo_1 : decode cX12_areTwo 1 = .ok (.iload_n 1, 1) := by decide +kernel
theorem dX12_areTwo_2 : decode cX12_areTwo 2 = .ok (.invokevirtual 106, 3) := by decide +kernel
theorem dX12_areTwo_5 : decode cX12_areTwo 5 = .ok (.ifCond .eq 20, 3) := by decide +kernel
theorem dX12_areTwo_8 : decode cX12_areTwo 8 = .ok (.aload_n 0, 1) := by decide +kernel
theorem dX12_areTwo_9 : decode cX12_areTwo 9 = .ok (.iload_n 2, 1) := by decide +kernel
theorem dX12_areTwo_10 : decode cX12_areTwo 10 = .ok (.invokevirtual 106, 3) := by decide +kernel
theorem dX12_areTwo_13 : decode cX12_areTwo 13 = .ok (.ifCond .eq 12, 3) := by decide +kernel
theorem dX12_areTwo_16 : decode cX12_areTwo 16 = .ok (.iload_n 1, 1) := by decide +kernel
theorem dX12_areTwo_17 : decode cX12_areTwo 17 = .ok (.iload_n 2, 1) := by decide +kernel
theorem dX12_areTwo_18 : decode cX12_areTwo 18 = .ok (.if_icmp .eq 7, 3) := by decide +kernel
theorem dX12_areTwo_21 : decode cX12_areTwo 21 = .ok (.iconst 1, 1) := by decide +kernel
theorem dX12_areTwo_22 : decode cX12_areTwo 22 = .ok (.goto 4, 3) := by decide +kernel
theorem dX12_areTwo_25 : decode cX12_areTwo 25 = .ok (.iconst 0, 1) := by decide +kernel
theorem dX12_areTwo_26 : decode cX12_areTwo 26 = .ok (.ireturn, 1) := by decide +kernel
theorem dX12_isGlove_0 : decode cX12_isGlove 0 = .ok (.aload_n 0, 1) := by decide +kernel
theorem dX12_isGlove_1 : decode cX12_isGlove 1 = .ok (.getfield 13, 3) := by decide +kernel
theorem dX12_isGlove_4 : decode cX12_isGlove 4 = .ok (.iconst 2, 1) := by decide +kernel
theorem dX12_isGlove_5 : decode cX12_isGlove 5 = .ok (.iload_n 1, 1) := by decide +kernel
theorem dX12_isGlove_6 : decode cX12_isGlove 6 = .ok (.imul, 1) := by decide +kernel
theorem dX12_isGlove_7 : decode cX12_isGlove 7 = .ok (.iaload, 1) := by decide +kernel
theorem dX12_isGlove_8 : decode cX12_isGlove 8 = .ok (.iconst 1, 1) := by decide +kernel
theorem dX12_isGlove_9 : decode cX12_isGlove 9 = .ok (.if_icmp .eq 15, 3) := by decide +kernel
theorem dX12_isGlove_12 : decode cX12_isGlove 12 = .ok (.aload_n 0, 1) := by decide +kernel
theorem dX12_isGlove_13 : decode cX12_isGlove 13 = .ok (.getfield 13, 3) := by decide +kernel
theorem dX12_isGlove_16 : decode cX12_isGlove 16 = .ok (.iconst 2, 1) := by decide +kernel
theorem dX12_isGlove_17 : decode cX12_isGlove 17 = .ok (.iload_n 1, 1) := by decide +kernel
theorem dX12_isGlove_18 : decode cX12_isGlove 18 = .ok (.imul, 1) := by decide +kernel
theorem dX12_isGlove_19 : decode cX12_isGlove 19 = .ok (.iaload, 1) := by decide +kernel
theorem dX12_isGlove_20 : decode cX12_isGlove 20 = .ok (.iconst 4, 1) := by decide +kernel
theorem dX12_isGlove_21 : decode cX12_isGlove 21 = .ok (.if_icmp .ne 7, 3) := by decide +kernel
theorem dX12_isGlove_24 : decode cX12_isGlove 24 = .ok (.iconst 1, 1) := by decide +kernel
theorem dX12_isGlove_25 : decode cX12_isGlove 25 = .ok (.goto 4, 3) := by decide +kernel
theorem dX12_isGlove_28 : decode cX12_isGlove 28 = .ok (.iconst 0, 1) := by decide +kernel
theorem dX12_isGlove_29 : decode cX12_isGlove 29 = .ok (.ireturn, 1) := by decide +kernel
theorem dX12_takes_0 : decode cX12_takes 0 = .ok (.aload_n 0, 1) := by decide +kernel
theorem dX12_takes_1 : decode cX12_takes 1 = .ok (.getfield 13, 3) := by decide +kernel
theorem dX12_takes_4 : decode cX12_takes 4 = .ok (.iconst 2, 1) := by decide +kernel
theorem dX12_takes_5 : decode cX12_takes 5 = .ok (.iload_n 1, 1) := by decide +kernel
theorem dX12_takes_6 : decode cX12_takes 6 = .ok (.imul, 1) := by decide +kernel
theorem dX12_takes_7 : decode cX12_takes 7 = .ok (.iconst 1, 1) := by decide +kernel
theorem dX12_takes_8 : decode cX12_takes 8 = .ok (.iadd, 1) := by decide +kernel
theorem dX12_takes_9 : decode cX12_takes 9 = .ok (.iaload, 1) := by decide +kernel
theorem dX12_takes_10 : decode cX12_takes 10 = .ok (.aload_n 0, 1) := by decide +kernel
theorem dX12_takes_11 : decode cX12_takes 11 = .ok (.getfield 13, 3) := by decide +kernel
theorem dX12_takes_14 : decode cX12_takes 14 = .ok (.iconst 2, 1) := by decide +kernel
theorem dX12_takes_15 : decode cX12_takes 15 = .ok (.iload_n 2, 1) := by decide +kernel
theorem dX12_takes_16 : decode cX12_takes 16 = .ok (.imul, 1) := by decide +kernel
theorem dX12_takes_17 : decode cX12_takes 17 = .ok (.iconst 1, 1) := by decide +kernel
theorem dX12_takes_18 : decode cX12_takes 18 = .ok (.iadd, 1) := by decide +kernel
theorem dX12_takes_19 : decode cX12_takes 19 = .ok (.iaload, 1) := by decide +kernel
theorem dX12_takes_20 : decode cX12_takes 20 = .ok (.if_icmp .eq 7, 3) := by decide +kernel
theorem dX12_takes_23 : decode cX12_takes 23 = .ok (.iconst 1, 1) := by decide +kernel
theorem dX12_takes_24 : decode cX12_takes 24 = .ok (.goto 4, 3) := by decide +kernel
theorem dX12_takes_27 : decode cX12_takes 27 = .ok (.iconst 0, 1) := by decide +kernel
theorem dX12_takes_28 : decode cX12_takes 28 = .ok (.istore_n 3, 1) := by decide +kernel
theorem dX12_takes_29 : decode cX12_takes 29 = .ok (.aload_n 0, 1) := by decide +kernel
theorem dX12_takes_30 : decode cX12_takes 30 = .ok (.getfield 13, 3) := by decide +kernel
theorem dX12_takes_33 : decode cX12_takes 33 = .ok (.iconst 2, 1) := by decide +kernel
theorem dX12_takes_34 : decode cX12_takes 34 = .ok (.iload_n 1, 1) := by decide +kernel
theorem dX12_takes_35 : decode cX12_takes 35 = .ok (.imul, 1) := by decide +kernel
theorem dX12_takes_36 : decode cX12_takes 36 = .ok (.iaload, 1) := by decide +kernel
theorem dX12_takes_37 : decode cX12_takes 37 = .ok (.tableswitch 92 1 4 #[31, 49, 67, 31], 31) := by decide +kernel
theorem dX12_takes_68 : decode cX12_takes 68 = .ok (.iload_n 3, 1) := by decide +kernel
theorem dX12_takes_69 : decode cX12_takes 69 = .ok (.ifCond .eq 15, 3) := by decide +kernel
theorem dX12_takes_72 : decode cX12_takes 72 = .ok (.aload_n 0, 1) := by decide +kernel
theorem dX12_takes_73 : decode cX12_takes 73 = .ok (.iload_n 2, 1) := by decide +kernel
theorem dX12_takes_74 : decode cX12_takes 74 = .ok (.invokevirtual 110, 3) := by decide +kernel
theorem dX12_takes_77 : decode cX12_takes 77 = .ok (.ifCond .eq 7, 3) := by decide +kernel
theorem dX12_takes_80 : decode cX12_takes 80 = .ok (.iconst 1, 1) := by decide +kernel
theorem dX12_takes_81 : decode cX12_takes 81 = .ok (.goto 4, 3) := by decide +kernel
theorem dX12_takes_84 : decode cX12_takes 84 = .ok (.iconst 0, 1) := by decide +kernel
theorem dX12_takes_85 : decode cX12_takes 85 = .ok (.ireturn, 1) := by decide +kernel
theorem dX12_takes_86 : decode cX12_takes 86 = .ok (.aload_n 0, 1) := by decide +kernel
theorem dX12_takes_87 : decode cX12_takes 87 = .ok (.getfield 13, 3) := by decide +kernel
theorem dX12_takes_90 : decode cX12_takes 90 = .ok (.iconst 2, 1) := by decide +kernel
theorem dX12_takes_91 : decode cX12_takes 91 = .ok (.iload_n 2, 1) := by decide +kernel
theorem dX12_takes_92 : decode cX12_takes 92 = .ok (.imul, 1) := by decide +kernel
theorem dX12_takes_93 : decode cX12_takes 93 = .ok (.iaload, 1) := by decide +kernel
theorem dX12_takes_94 : decode cX12_takes 94 = .ok (.iconst 2, 1) := by decide +kernel
theorem dX12_takes_95 : decode cX12_takes 95 = .ok (.if_icmp .ne 7, 3) := by decide +kernel
theorem dX12_takes_98 : decode cX12_takes 98 = .ok (.iconst 1, 1) := by decide +kernel
theorem dX12_takes_99 : decode cX12_takes 99 = .ok (.goto 4, 3) := by decide +kernel
theorem dX12_takes_102 : decode cX12_takes 102 = .ok (.iconst 0, 1) := by decide +kernel
theorem dX12_takes_103 : decode cX12_takes 103 = .ok (.ireturn, 1) := by decide +kernel
theorem dX12_takes_104 : decode cX12_takes 104 = .ok (.iload_n 3, 1) := by decide +kernel
theorem dX12_takes_105 : decode cX12_takes 105 = .ok (.ifCond .eq 22, 3) := by decide +kernel
theorem dX12_takes_108 : decode cX12_takes 108 = .ok (.aload_n 0, 1) := by decide +kernel
theorem dX12_takes_109 : decode cX12_takes 109 = .ok (.getfield 16, 3) := by decide +kernel
theorem dX12_takes_112 : decode cX12_takes 112 = .ok (.iload_n 1, 1) := by decide +kernel
theorem dX12_takes_113 : decode cX12_takes 113 = .ok (.iaload, 1) := by decide +kernel
theorem dX12_takes_114 : decode cX12_takes 114 = .ok (.aload_n 0, 1) := by decide +kernel
theorem dX12_takes_115 : decode cX12_takes 115 = .ok (.getfield 16, 3) := by decide +kernel
theorem dX12_takes_118 : decode cX12_takes 118 = .ok (.iload_n 2, 1) := by decide +kernel
theorem dX12_takes_119 : decode cX12_takes 119 = .ok (.iaload, 1) := by decide +kernel
theorem dX12_takes_120 : decode cX12_takes 120 = .ok (.if_icmp .ne 7, 3) := by decide +kernel
theorem dX12_takes_123 : decode cX12_takes 123 = .ok (.iconst 1, 1) := by decide +kernel
theorem dX12_takes_124 : decode cX12_takes 124 = .ok (.goto 4, 3) := by decide +kernel
theorem dX12_takes_127 : decode cX12_takes 127 = .ok (.iconst 0, 1) := by decide +kernel
theorem dX12_takes_128 : decode cX12_takes 128 = .ok (.ireturn, 1) := by decide +kernel
theorem dX12_takes_129 : decode cX12_takes 129 = .ok (.iload_n 3, 1) := by decide +kernel
theorem dX12_takes_130 : decode cX12_takes 130 = .ok (.ireturn, 1) := by decide +kernel
theorem dX12_mayBe_0 : decode cX12_mayBe 0 = .ok (.iload_n 1, 1) := by decide +kernel
theorem dX12_mayBe_1 : decode cX12_mayBe 1 = .ok (.iload_n 2, 1) := by decide +kernel
theorem dX12_mayBe_2 : decode cX12_mayBe 2 = .ok (.if_icmp .eq 25, 3) := by decide +kernel
theorem dX12_mayBe_5 : decode cX12_mayBe 5 = .ok (.aload_n 0, 1) := by decide +kernel
theorem dX12_mayBe_6 : decode cX12_mayBe 6 = .ok (.iload_n 1, 1) := by decide +kernel
theorem dX12_mayBe_7 : decode cX12_mayBe 7 = .ok (.iload_n 2, 1) := by decide +kernel
theorem dX12_mayBe_8 : decode cX12_mayBe 8 = .ok (.invokevirtual 113, 3) := by decide +kernel
theorem dX12_mayBe_11 : decode cX12_mayBe 11 = .ok (.ifCond .eq 16, 3) := by decide +kernel
theorem dX12_mayBe_14 : decode cX12_mayBe 14 = .ok (.aload_n 0, 1) := by decide +kernel
theorem dX12_mayBe_15 : decode cX12_mayBe 15 = .ok (.iload_n 2, 1) := by decide +kernel
theorem dX12_mayBe_16 : decode cX12_mayBe 16 = .ok (.iload_n 1, 1) := by decide +kernel
theorem dX12_mayBe_17 : decode cX12_mayBe 17 = .ok (.invokevirtual 113, 3) := by decide +kernel
theorem dX12_mayBe_20 : decode cX12_mayBe 20 = .ok (.ifCond .eq 7, 3) := by decide +kernel
theorem dX12_mayBe_23 : decode cX12_mayBe 23 = .ok (.iconst 1, 1) := by decide +kernel
theorem dX12_mayBe_24 : decode cX12_mayBe 24 = .ok (.goto 4, 3) := by decide +kernel
theorem dX12_mayBe_27 : decode cX12_mayBe 27 = .ok (.iconst 0, 1) := by decide +kernel
theorem dX12_mayBe_28 : decode cX12_mayBe 28 = .ok (.ireturn, 1) := by decide +kernel
theorem dX12_apartOf_0 : decode cX12_apartOf 0 = .ok (.aload_n 0, 1) := by decide +kernel
theorem dX12_apartOf_1 : decode cX12_apartOf 1 = .ok (.getfield 16, 3) := by decide +kernel
theorem dX12_apartOf_4 : decode cX12_apartOf 4 = .ok (.iload_n 1, 1) := by decide +kernel
theorem dX12_apartOf_5 : decode cX12_apartOf 5 = .ok (.iaload, 1) := by decide +kernel
theorem dX12_apartOf_6 : decode cX12_apartOf 6 = .ok (.aload_n 0, 1) := by decide +kernel
theorem dX12_apartOf_7 : decode cX12_apartOf 7 = .ok (.getfield 16, 3) := by decide +kernel
theorem dX12_apartOf_10 : decode cX12_apartOf 10 = .ok (.iload_n 2, 1) := by decide +kernel
theorem dX12_apartOf_11 : decode cX12_apartOf 11 = .ok (.iaload, 1) := by decide +kernel
theorem dX12_apartOf_12 : decode cX12_apartOf 12 = .ok (.invokestatic 116, 3) := by decide +kernel
theorem dX12_apartOf_15 : decode cX12_apartOf 15 = .ok (.istore_n 3, 1) := by decide +kernel
theorem dX12_apartOf_16 : decode cX12_apartOf 16 = .ok (.aload_n 0, 1) := by decide +kernel
theorem dX12_apartOf_17 : decode cX12_apartOf 17 = .ok (.getfield 13, 3) := by decide +kernel
theorem dX12_apartOf_20 : decode cX12_apartOf 20 = .ok (.iconst 2, 1) := by decide +kernel
theorem dX12_apartOf_21 : decode cX12_apartOf 21 = .ok (.iload_n 1, 1) := by decide +kernel
theorem dX12_apartOf_22 : decode cX12_apartOf 22 = .ok (.imul, 1) := by decide +kernel
theorem dX12_apartOf_23 : decode cX12_apartOf 23 = .ok (.iaload, 1) := by decide +kernel
theorem dX12_apartOf_24 : decode cX12_apartOf 24 = .ok (.iconst 4, 1) := by decide +kernel
theorem dX12_apartOf_25 : decode cX12_apartOf 25 = .ok (.if_icmp .ne 9, 3) := by decide +kernel
theorem dX12_apartOf_28 : decode cX12_apartOf 28 = .ok (.iload_n 3, 1) := by decide +kernel
theorem dX12_apartOf_29 : decode cX12_apartOf 29 = .ok (.iconst 2, 1) := by decide +kernel
theorem dX12_apartOf_30 : decode cX12_apartOf 30 = .ok (.idiv, 1) := by decide +kernel
theorem dX12_apartOf_31 : decode cX12_apartOf 31 = .ok (.goto 4, 3) := by decide +kernel
theorem dX12_apartOf_34 : decode cX12_apartOf 34 = .ok (.iload_n 3, 1) := by decide +kernel
theorem dX12_apartOf_35 : decode cX12_apartOf 35 = .ok (.ireturn, 1) := by decide +kernel
theorem dX12_likenessOf_0 : decode cX12_likenessOf 0 = .ok (.aload_n 0, 1) := by decide +kernel
theorem dX12_likenessOf_1 : decode cX12_likenessOf 1 = .ok (.iload_n 1, 1) := by decide +kernel
theorem dX12_likenessOf_2 : decode cX12_likenessOf 2 = .ok (.iload_n 2, 1) := by decide +kernel
theorem dX12_likenessOf_3 : decode cX12_likenessOf 3 = .ok (.invokevirtual 120, 3) := by decide +kernel
theorem dX12_likenessOf_6 : decode cX12_likenessOf 6 = .ok (.ifCond .eq 22, 3) := by decide +kernel
theorem dX12_likenessOf_9 : decode cX12_likenessOf 9 = .ok (.bipush 18, 2) := by decide +kernel
theorem dX12_likenessOf_11 : decode cX12_likenessOf 11 = .ok (.aload_n 0, 1) := by decide +kernel
theorem dX12_likenessOf_12 : decode cX12_likenessOf 12 = .ok (.iload_n 1, 1) := by decide +kernel
theorem dX12_likenessOf_13 : decode cX12_likenessOf 13 = .ok (.iload_n 2, 1) := by decide +kernel
theorem dX12_likenessOf_14 : decode cX12_likenessOf 14 = .ok (.invokevirtual 123, 3) := by decide +kernel
theorem dX12_likenessOf_17 : decode cX12_likenessOf 17 = .ok (.isub, 1) := by decide +kernel
theorem dX12_likenessOf_18 : decode cX12_likenessOf 18 = .ok (.aload_n 0, 1) := by decide +kernel
theorem dX12_likenessOf_19 : decode cX12_likenessOf 19 = .ok (.iload_n 2, 1) := by decide +kernel
theorem dX12_likenessOf_20 : decode cX12_likenessOf 20 = .ok (.iload_n 1, 1) := by decide +kernel
theorem dX12_likenessOf_21 : decode cX12_likenessOf 21 = .ok (.invokevirtual 123, 3) := by decide +kernel
theorem dX12_likenessOf_24 : decode cX12_likenessOf 24 = .ok (.isub, 1) := by decide +kernel
theorem dX12_likenessOf_25 : decode cX12_likenessOf 25 = .ok (.goto 4, 3) := by decide +kernel
theorem dX12_likenessOf_28 : decode cX12_likenessOf 28 = .ok (.iconst (-1), 1) := by decide +kernel
theorem dX12_likenessOf_29 : decode cX12_likenessOf 29 = .ok (.ireturn, 1) := by decide +kernel
theorem dX12_prefers_0 : decode cX12_prefers 0 = .ok (.iload_n 3, 1) := by decide +kernel
theorem dX12_prefers_1 : decode cX12_prefers 1 = .ok (.iconst (-1), 1) := by decide +kernel
theorem dX12_prefers_2 : decode cX12_prefers 2 = .ok (.if_icmp .ne 5, 3) := by decide +kernel
theorem dX12_prefers_5 : decode cX12_prefers 5 = .ok (.iconst 1, 1) := by decide +kernel
theorem dX12_prefers_6 : decode cX12_prefers 6 = .ok (.ireturn, 1) := by decide +kernel
theorem dX12_prefers_7 : decode cX12_prefers 7 = .ok (.aload_n 0, 1) := by decide +kernel
theorem dX12_prefers_8 : decode cX12_prefers 8 = .ok (.iload_n 1, 1) := by decide +kernel
theorem dX12_prefers_9 : decode cX12_prefers 9 = .ok (.iload_n 2, 1) := by decide +kernel
theorem dX12_prefers_10 : decode cX12_prefers 10 = .ok (.invokevirtual 126, 3) := by decide +kernel
theorem dX12_prefers_13 : decode cX12_prefers 13 = .ok (.aload_n 0, 1) := by decide +kernel
theorem dX12_prefers_14 : decode cX12_prefers 14 = .ok (.iload_n 1, 1) := by decide +kernel
theorem dX12_prefers_15 : decode cX12_prefers 15 = .ok (.iload_n 3, 1) := by decide +kernel
theorem dX12_prefers_16 : decode cX12_prefers 16 = .ok (.invokevirtual 126, 3) := by decide +kernel
theorem dX12_prefers_19 : decode cX12_prefers 19 = .ok (.isub, 1) := by decide +kernel
theorem dX12_prefers_20 : decode cX12_prefers 20 = .ok (.istore 4, 2) := by decide +kernel
theorem dX12_prefers_22 : decode cX12_prefers 22 = .ok (.iload 4, 2) := by decide +kernel
theorem dX12_prefers_24 : decode cX12_prefers 24 = .ok (.ifCond .gt 13, 3) := by decide +kernel
theorem dX12_prefers_27 : decode cX12_prefers 27 = .ok (.iload 4, 2) := by decide +kernel
theorem dX12_prefers_29 : decode cX12_prefers 29 = .ok (.ifCond .ne 12, 3) := by decide +kernel
theorem dX12_prefers_32 : decode cX12_prefers 32 = .ok (.iload_n 2, 1) := by decide +kernel
theorem dX12_prefers_33 : decode cX12_prefers 33 = .ok (.iload_n 3, 1) := by decide +kernel
theorem dX12_prefers_34 : decode cX12_prefers 34 = .ok (.if_icmp .ge 7, 3) := by decide +kernel
theorem dX12_prefers_37 : decode cX12_prefers 37 = .ok (.iconst 1, 1) := by decide +kernel
theorem dX12_prefers_38 : decode cX12_prefers 38 = .ok (.goto 4, 3) := by decide +kernel
theorem dX12_prefers_41 : decode cX12_prefers 41 = .ok (.iconst 0, 1) := by decide +kernel
theorem dX12_prefers_42 : decode cX12_prefers 42 = .ok (.ireturn, 1) := by decide +kernel
theorem dX12_mayBits_0 : decode cX12_mayBits 0 = .ok (.iconst 0, 1) := by decide +kernel
theorem dX12_mayBits_1 : decode cX12_mayBits 1 = .ok (.istore_n 2, 1) := by decide +kernel
theorem dX12_mayBits_2 : decode cX12_mayBits 2 = .ok (.iconst 0, 1) := by decide +kernel
theorem dX12_mayBits_3 : decode cX12_mayBits 3 = .ok (.istore_n 3, 1) := by decide +kernel
theorem dX12_mayBits_4 : decode cX12_mayBits 4 = .ok (.iload_n 3, 1) := by decide +kernel
theorem dX12_mayBits_5 : decode cX12_mayBits 5 = .ok (.aload_n 0, 1) := by decide +kernel
theorem dX12_mayBits_6 : decode cX12_mayBits 6 = .ok (.getfield 85, 3) := by decide +kernel
theorem dX12_mayBits_9 : decode cX12_mayBits 9 = .ok (.if_icmp .ge 28, 3) := by decide +kernel
theorem dX12_mayBits_12 : decode cX12_mayBits 12 = .ok (.iload_n 2, 1) := by decide +kernel
theorem dX12_mayBits_13 : decode cX12_mayBits 13 = .ok (.aload_n 0, 1) := by decide +kernel
theorem dX12_mayBits_14 : decode cX12_mayBits 14 = .ok (.iload_n 1, 1) := by decide +kernel
theorem dX12_mayBits_15 : decode cX12_mayBits 15 = .ok (.iload_n 3, 1) := by decide +kernel
theorem dX12_mayBits_16 : decode cX12_mayBits 16 = .ok (.invokevirtual 120, 3) := by decide +kernel
theorem dX12_mayBits_19 : decode cX12_mayBits 19 = .ok (.ifCond .eq 9, 3) := by decide +kernel
theorem dX12_mayBits_22 : decode cX12_mayBits 22 = .ok (.iconst 1, 1) := by decide +kernel
theorem dX12_mayBits_23 : decode cX12_mayBits 23 = .ok (.iload_n 3, 1) := by decide +kernel
theorem dX12_mayBits_24 : decode cX12_mayBits 24 = .ok (.ishl, 1) := by decide +kernel
theorem dX12_mayBits_25 : decode cX12_mayBits 25 = .ok (.goto 4, 3) := by decide +kernel
theorem dX12_mayBits_28 : decode cX12_mayBits 28 = .ok (.iconst 0, 1) := by decide +kernel
theorem dX12_mayBits_29 : decode cX12_mayBits 29 = .ok (.ior, 1) := by decide +kernel
theorem dX12_mayBits_30 : decode cX12_mayBits 30 = .ok (.istore_n 2, 1) := by decide +kernel
theorem dX12_mayBits_31 : decode cX12_mayBits 31 = .ok (.iinc 3 1, 3) := by decide +kernel
theorem dX12_mayBits_34 : decode cX12_mayBits 34 = .ok (.goto (-30), 3) := by decide +kernel
theorem dX12_mayBits_37 : decode cX12_mayBits 37 = .ok (.iload_n 2, 1) := by decide +kernel
theorem dX12_mayBits_38 : decode cX12_mayBits 38 = .ok (.ireturn, 1) := by decide +kernel
theorem dX12_preferredOf_0 : decode cX12_preferredOf 0 = .ok (.iconst (-1), 1) := by decide +kernel
theorem dX12_preferredOf_1 : decode cX12_preferredOf 1 = .ok (.istore_n 2, 1) := by decide +kernel
theorem dX12_preferredOf_2 : decode cX12_preferredOf 2 = .ok (.iconst 0, 1) := by decide +kernel
theorem dX12_preferredOf_3 : decode cX12_preferredOf 3 = .ok (.istore_n 3, 1) := by decide +kernel
theorem dX12_preferredOf_4 : decode cX12_preferredOf 4 = .ok (.iload_n 3, 1) := by decide +kernel
theorem dX12_preferredOf_5 : decode cX12_preferredOf 5 = .ok (.aload_n 0, 1) := by decide +kernel
theorem dX12_preferredOf_6 : decode cX12_preferredOf 6 = .ok (.getfield 85, 3) := by decide +kernel
theorem dX12_preferredOf_9 : decode cX12_preferredOf 9 = .ok (.if_icmp .ge 34, 3) := by decide +kernel
theorem dX12_preferredOf_12 : decode cX12_preferredOf 12 = .ok (.aload_n 0, 1) := by decide +kernel
theorem dX12_preferredOf_13 : decode cX12_preferredOf 13 = .ok (.iload_n 1, 1) := by decide +kernel
theorem dX12_preferredOf_14 : decode cX12_preferredOf 14 = .ok (.iload_n 3, 1) := by decide +kernel
theorem dX12_preferredOf_15 : decode cX12_preferredOf 15 = .ok (.invokevirtual 120, 3) := by decide +kernel
theorem dX12_preferredOf_18 : decode cX12_preferredOf 18 = .ok (.ifCond .eq 17, 3) := by decide +kernel
theorem dX12_preferredOf_21 : decode cX12_preferredOf 21 = .ok (.aload_n 0, 1) := by decide +kernel
theorem dX12_preferredOf_22 : decode cX12_preferredOf 22 = .ok (.iload_n 1, 1) := by decide +kernel
theorem dX12_preferredOf_23 : decode cX12_preferredOf 23 = .ok (.iload_n 3, 1) := by decide +kernel
theorem dX12_preferredOf_24 : decode cX12_preferredOf 24 = .ok (.iload_n 2, 1) := by decide +kernel
theorem dX12_preferredOf_25 : decode cX12_preferredOf 25 = .ok (.invokevirtual 129, 3) := by decide +kernel
theorem dX12_preferredOf_28 : decode cX12_preferredOf 28 = .ok (.ifCond .eq 7, 3) := by decide +kernel
theorem dX12_preferredOf_31 : decode cX12_preferredOf 31 = .ok (.iload_n 3, 1) := by decide +kernel
theorem dX12_preferredOf_32 : decode cX12_preferredOf 32 = .ok (.goto 4, 3) := by decide +kernel
theorem dX12_preferredOf_35 : decode cX12_preferredOf 35 = .ok (.iload_n 2, 1) := by decide +kernel
theorem dX12_preferredOf_36 : decode cX12_preferredOf 36 = .ok (.istore_n 2, 1) := by decide +kernel
theorem dX12_preferredOf_37 : decode cX12_preferredOf 37 = .ok (.iinc 3 1, 3) := by decide +kernel
theorem dX12_preferredOf_40 : decode cX12_preferredOf 40 = .ok (.goto (-36), 3) := by decide +kernel
theorem dX12_preferredOf_43 : decode cX12_preferredOf 43 = .ok (.iload_n 2, 1) := by decide +kernel
theorem dX12_preferredOf_44 : decode cX12_preferredOf 44 = .ok (.ireturn, 1) := by decide +kernel
theorem dX12_seenFrom_0 : decode cX12_seenFrom 0 = .ok (.iconst 0, 1) := by decide +kernel
theorem dX12_seenFrom_1 : decode cX12_seenFrom 1 = .ok (.istore_n 3, 1) := by decide +kernel
theorem dX12_seenFrom_2 : decode cX12_seenFrom 2 = .ok (.iconst 0, 1) := by decide +kernel
theorem dX12_seenFrom_3 : decode cX12_seenFrom 3 = .ok (.istore 4, 2) := by decide +kernel
theorem dX12_seenFrom_5 : decode cX12_seenFrom 5 = .ok (.iload 4, 2) := by decide +kernel
theorem dX12_seenFrom_7 : decode cX12_seenFrom 7 = .ok (.aload_n 0, 1) := by decide +kernel
theorem dX12_seenFrom_8 : decode cX12_seenFrom 8 = .ok (.getfield 85, 3) := by decide +kernel
theorem dX12_seenFrom_11 : decode cX12_seenFrom 11 = .ok (.if_icmp .ge 53, 3) := by decide +kernel
theorem dX12_seenFrom_14 : decode cX12_seenFrom 14 = .ok (.iload_n 3, 1) := by decide +kernel
theorem dX12_seenFrom_15 : decode cX12_seenFrom 15 = .ok (.aload_n 0, 1) := by decide +kernel
theorem dX12_seenFrom_16 : decode cX12_seenFrom 16 = .ok (.iload_n 1, 1) := by decide +kernel
theorem dX12_seenFrom_17 : decode cX12_seenFrom 17 = .ok (.iload 4, 2) := by decide +kernel
theorem dX12_seenFrom_19 : decode cX12_seenFrom 19 = .ok (.invokevirtual 120, 3) := by decide +kernel
theorem dX12_seenFrom_22 : decode cX12_seenFrom 22 = .ok (.ifCond .eq 33, 3) := by decide +kernel
theorem dX12_seenFrom_25 : decode cX12_seenFrom 25 = .ok (.aload_n 0, 1) := by decide +kernel
theorem dX12_seenFrom_26 : decode cX12_seenFrom 26 = .ok (.getfield 22, 3) := by decide +kernel
theorem dX12_seenFrom_29 : decode cX12_seenFrom 29 = .ok (.iload 4, 2) := by decide +kernel
theorem dX12_seenFrom_31 : decode cX12_seenFrom 31 = .ok (.iaload, 1) := by decide +kernel
theorem dX12_seenFrom_32 : decode cX12_seenFrom 32 = .ok (.iconst (-1), 1) := by decide +kernel
theorem dX12_seenFrom_33 : decode cX12_seenFrom 33 = .ok (.if_icmp .ne 22, 3) := by decide +kernel
theorem dX12_seenFrom_36 : decode cX12_seenFrom 36 = .ok (.aload_n 0, 1) := by decide +kernel
theorem dX12_seenFrom_37 : decode cX12_seenFrom 37 = .ok (.getfield 19, 3) := by decide +kernel
theorem dX12_seenFrom_40 : decode cX12_seenFrom 40 = .ok (.iload 4, 2) := by decide +kernel
theorem dX12_seenFrom_42 : decode cX12_seenFrom 42 = .ok (.iaload, 1) := by decide +kernel
theorem dX12_seenFrom_43 : decode cX12_seenFrom 43 = .ok (.iload_n 2, 1) := by decide +kernel
theorem dX12_seenFrom_44 : decode cX12_seenFrom 44 = .ok (.invokestatic 116, 3) := by decide +kernel
theorem dX12_seenFrom_47 : decode cX12_seenFrom 47 = .ok (.iconst 2, 1) := by decide +kernel
theorem dX12_seenFrom_48 : decode cX12_seenFrom 48 = .ok (.if_icmp .ge 7, 3) := by decide +kernel
theorem dX12_seenFrom_51 : decode cX12_seenFrom 51 = .ok (.iconst 1, 1) := by decide +kernel
theorem dX12_seenFrom_52 : decode cX12_seenFrom 52 = .ok (.goto 4, 3) := by decide +kernel
theorem dX12_seenFrom_55 : decode cX12_seenFrom 55 = .ok (.iconst 0, 1) := by decide +kernel
theorem dX12_seenFrom_56 : decode cX12_seenFrom 56 = .ok (.iadd, 1) := by decide +kernel
theorem dX12_seenFrom_57 : decode cX12_seenFrom 57 = .ok (.istore_n 3, 1) := by decide +kernel
theorem dX12_seenFrom_58 : decode cX12_seenFrom 58 = .ok (.iinc 4 1, 3) := by decide +kernel
theorem dX12_seenFrom_61 : decode cX12_seenFrom 61 = .ok (.goto (-56), 3) := by decide +kernel
theorem dX12_seenFrom_64 : decode cX12_seenFrom 64 = .ok (.iload_n 3, 1) := by decide +kernel
theorem dX12_seenFrom_65 : decode cX12_seenFrom 65 = .ok (.ireturn, 1) := by decide +kernel
theorem dX12_spikeOf_0 : decode cX12_spikeOf 0 = .ok (.iconst 0, 1) := by decide +kernel
theorem dX12_spikeOf_1 : decode cX12_spikeOf 1 = .ok (.istore_n 3, 1) := by decide +kernel
theorem dX12_spikeOf_2 : decode cX12_spikeOf 2 = .ok (.iconst 1, 1) := by decide +kernel
theorem dX12_spikeOf_3 : decode cX12_spikeOf 3 = .ok (.istore 4, 2) := by decide +kernel
theorem dX12_spikeOf_5 : decode cX12_spikeOf 5 = .ok (.iload 4, 2) := by decide +kernel
theorem dX12_spikeOf_7 : decode cX12_spikeOf 7 = .ok (.bipush 6, 2) := by decide +kernel
theorem dX12_spikeOf_9 : decode cX12_spikeOf 9 = .ok (.if_icmp .ge 32, 3) := by decide +kernel
theorem dX12_spikeOf_12 : decode cX12_spikeOf 12 = .ok (.aload_n 0, 1) := by decide +kernel
theorem dX12_spikeOf_13 : decode cX12_spikeOf 13 = .ok (.iload_n 1, 1) := by decide +kernel
theorem dX12_spikeOf_14 : decode cX12_spikeOf 14 = .ok (.iload 4, 2) := by decide +kernel
theorem dX12_spikeOf_16 : decode cX12_spikeOf 16 = .ok (.invokevirtual 133, 3) := by decide +kernel
theorem dX12_spikeOf_19 : decode cX12_spikeOf 19 = .ok (.aload_n 0, 1) := by decide +kernel
theorem dX12_spikeOf_20 : decode cX12_spikeOf 20 = .ok (.iload_n 1, 1) := by decide +kernel
theorem dX12_spikeOf_21 : decode cX12_spikeOf 21 = .ok (.iload_n 3, 1) := by decide +kernel
theorem dX12_spikeOf_22 : decode cX12_spikeOf 22 = .ok (.invokevirtual 133, 3) := by decide +kernel
theorem dX12_spikeOf_25 : decode cX12_spikeOf 25 = .ok (.if_icmp .le 8, 3) := by decide +kernel
theorem dX12_spikeOf_28 : decode cX12_spikeOf 28 = .ok (.iload 4, 2) := by decide +kernel
theorem dX12_spikeOf_30 : decode cX12_spikeOf 30 = .ok (.goto 4, 3) := by decide +kernel
theorem dX12_spikeOf_33 : decode cX12_spikeOf 33 = .ok (.iload_n 3, 1) := by decide +kernel
theorem dX12_spikeOf_34 : decode cX12_spikeOf 34 = .ok (.istore_n 3, 1) := by decide +kernel
theorem dX12_spikeOf_35 : decode cX12_spikeOf 35 = .ok (.iinc 4 1, 3) := by decide +kernel
theorem dX12_spikeOf_38 : decode cX12_spikeOf 38 = .ok (.goto (-33), 3) := by decide +kernel
theorem dX12_spikeOf_41 : decode cX12_spikeOf 41 = .ok (.iload_n 2, 1) := by decide +kernel
theorem dX12_spikeOf_42 : decode cX12_spikeOf 42 = .ok (.bipush 7, 2) := by decide +kernel
theorem dX12_spikeOf_44 : decode cX12_spikeOf 44 = .ok (.if_icmp .ne 7, 3) := by decide +kernel
theorem dX12_spikeOf_47 : decode cX12_spikeOf 47 = .ok (.iload_n 3, 1) := by decide +kernel
theorem dX12_spikeOf_48 : decode cX12_spikeOf 48 = .ok (.goto 9, 3) := by decide +kernel
theorem dX12_spikeOf_51 : decode cX12_spikeOf 51 = .ok (.aload_n 0, 1) := by decide +kernel
theorem dX12_spikeOf_52 : decode cX12_spikeOf 52 = .ok (.iload_n 1, 1) := by decide +kernel
theorem dX12_spikeOf_53 : decode cX12_spikeOf 53 = .ok (.iload_n 3, 1) := by decide +kernel
theorem dX12_spikeOf_54 : decode cX12_spikeOf 54 = .ok (.invokevirtual 133, 3) := by decide +kernel
theorem dX12_spikeOf_57 : decode cX12_spikeOf 57 = .ok (.ireturn, 1) := by decide +kernel
theorem dX12_tellSingle_0 : decode cX12_tellSingle 0 = .ok (.iload_n 2, 1) := by decide +kernel
theorem dX12_tellSingle_1 : decode cX12_tellSingle 1 = .ok (.tableswitch 122 0 10 #[59, 59, 70, 77, 84, 91, 97, 103, 103, 110, 116], 59) := by decide +kernel
theorem dX12_tellSingle_60 : decode cX12_tellSingle 60 = .ok (.aload_n 0, 1) := by decide +kernel
theorem dX12_tellSingle_61 : decode cX12_tellSingle 61 = .ok (.getfield 13, 3) := by decide +kernel
theorem dX12_tellSingle_64 : decode cX12_tellSingle 64 = .ok (.iconst 2, 1) := by decide +kernel
theorem dX12_tellSingle_65 : decode cX12_tellSingle 65 = .ok (.iload_n 1, 1) := by decide +kernel
theorem dX12_tellSingle_66 : decode cX12_tellSingle 66 = .ok (.imul, 1) := by decide +kernel
theorem dX12_tellSingle_67 : decode cX12_tellSingle 67 = .ok (.iload_n 2, 1) := by decide +kernel
theorem dX12_tellSingle_68 : decode cX12_tellSingle 68 = .ok (.iadd, 1) := by decide +kernel
theorem dX12_tellSingle_69 : decode cX12_tellSingle 69 = .ok (.iaload, 1) := by decide +kernel
theorem dX12_tellSingle_70 : decode cX12_tellSingle 70 = .ok (.ireturn, 1) := by decide +kernel
theorem dX12_tellSingle_71 : decode cX12_tellSingle 71 = .ok (.aload_n 0, 1) := by decide +kernel
theorem dX12_tellSingle_72 : decode cX12_tellSingle 72 = .ok (.getfield 16, 3) := by decide +kernel
theorem dX12_tellSingle_75 : decode cX12_tellSingle 75 = .ok (.iload_n 1, 1) := by decide +kernel
theorem dX12_tellSingle_76 : decode cX12_tellSingle 76 = .ok (.iaload, 1) := by decide +kernel
theorem dX12_tellSingle_77 : decode cX12_tellSingle 77 = .ok (.ireturn, 1) := by decide +kernel
theorem dX12_tellSingle_78 : decode cX12_tellSingle 78 = .ok (.aload_n 0, 1) := by decide +kernel
theorem dX12_tellSingle_79 : decode cX12_tellSingle 79 = .ok (.getfield 19, 3) := by decide +kernel
theorem dX12_tellSingle_82 : decode cX12_tellSingle 82 = .ok (.iload_n 1, 1) := by decide +kernel
theorem dX12_tellSingle_83 : decode cX12_tellSingle 83 = .ok (.iaload, 1) := by decide +kernel
theorem dX12_tellSingle_84 : decode cX12_tellSingle 84 = .ok (.ireturn, 1) := by decide +kernel
theorem dX12_tellSingle_85 : decode cX12_tellSingle 85 = .ok (.aload_n 0, 1) := by decide +kernel
theorem dX12_tellSingle_86 : decode cX12_tellSingle 86 = .ok (.getfield 22, 3) := by decide +kernel
theorem dX12_tellSingle_89 : decode cX12_tellSingle 89 = .ok (.iload_n 1, 1) := by decide +kernel
theorem dX12_tellSingle_90 : decode cX12_tellSingle 90 = .ok (.iaload, 1) := by decide +kernel
theorem dX12_tellSingle_91 : decode cX12_tellSingle 91 = .ok (.ireturn, 1) := by decide +kernel
theorem dX12_tellSingle_92 : decode cX12_tellSingle 92 = .ok (.aload_n 0, 1) := by decide +kernel
theorem dX12_tellSingle_93 : decode cX12_tellSingle 93 = .ok (.iload_n 1, 1) := by decide +kernel
theorem dX12_tellSingle_94 : decode cX12_tellSingle 94 = .ok (.invokevirtual 136, 3) := by decide +kernel
theorem dX12_tellSingle_97 : decode cX12_tellSingle 97 = .ok (.ireturn, 1) := by decide +kernel
theorem dX12_tellSingle_98 : decode cX12_tellSingle 98 = .ok (.aload_n 0, 1) := by decide +kernel
theorem dX12_tellSingle_99 : decode cX12_tellSingle 99 = .ok (.iload_n 1, 1) := by decide +kernel
theorem dX12_tellSingle_100 : decode cX12_tellSingle 100 = .ok (.invokevirtual 139, 3) := by decide +kernel
theorem dX12_tellSingle_103 : decode cX12_tellSingle 103 = .ok (.ireturn, 1) := by decide +kernel
theorem dX12_tellSingle_104 : decode cX12_tellSingle 104 = .ok (.aload_n 0, 1) := by decide +kernel
theorem dX12_tellSingle_105 : decode cX12_tellSingle 105 = .ok (.iload_n 1, 1) := by decide +kernel
theorem dX12_tellSingle_106 : decode cX12_tellSingle 106 = .ok (.iload_n 2, 1) := by decide +kernel
theorem dX12_tellSingle_107 : decode cX12_tellSingle 107 = .ok (.invokevirtual 142, 3) := by decide +kernel
theorem dX12_tellSingle_110 : decode cX12_tellSingle 110 = .ok (.ireturn, 1) := by decide +kernel
theorem dX12_tellSingle_111 : decode cX12_tellSingle 111 = .ok (.aload_n 0, 1) := by decide +kernel
theorem dX12_tellSingle_112 : decode cX12_tellSingle 112 = .ok (.iload_n 1, 1) := by decide +kernel
theorem dX12_tellSingle_113 : decode cX12_tellSingle 113 = .ok (.invokevirtual 145, 3) := by decide +kernel
theorem dX12_tellSingle_116 : decode cX12_tellSingle 116 = .ok (.ireturn, 1) := by decide +kernel
theorem dX12_tellSingle_117 : decode cX12_tellSingle 117 = .ok (.aload_n 0, 1) := by decide +kernel
theorem dX12_tellSingle_118 : decode cX12_tellSingle 118 = .ok (.iload_n 1, 1) := by decide +kernel
theorem dX12_tellSingle_119 : decode cX12_tellSingle 119 = .ok (.invokevirtual 148, 3) := by decide +kernel
theorem dX12_tellSingle_122 : decode cX12_tellSingle 122 = .ok (.ireturn, 1) := by decide +kernel
theorem dX12_tellSingle_123 : decode cX12_tellSingle 123 = .ok (.bipush (-102), 2) := by decide +kernel
theorem dX12_tellSingle_125 : decode cX12_tellSingle 125 = .ok (.ireturn, 1) := by decide +kernel
theorem dX12_single_0 : decode cX12_single 0 = .ok (.aload_n 0, 1) := by decide +kernel
theorem dX12_single_1 : decode cX12_single 1 = .ok (.iload_n 1, 1) := by decide +kernel
theorem dX12_single_2 : decode cX12_single 2 = .ok (.invokevirtual 106, 3) := by decide +kernel
theorem dX12_single_5 : decode cX12_single 5 = .ok (.ifCond .eq 12, 3) := by decide +kernel
theorem dX12_single_8 : decode cX12_single 8 = .ok (.aload_n 0, 1) := by decide +kernel
theorem dX12_single_9 : decode cX12_single 9 = .ok (.iload_n 1, 1) := by decide +kernel
theorem dX12_single_10 : decode cX12_single 10 = .ok (.iload_n 2, 1) := by decide +kernel
theorem dX12_single_11 : decode cX12_single 11 = .ok (.invokevirtual 151, 3) := by decide +kernel
theorem dX12_single_14 : decode cX12_single 14 = .ok (.goto 5, 3) := by decide +kernel
theorem dX12_single_17 : decode cX12_single 17 = .ok (.bipush (-101), 2) := by decide +kernel
theorem dX12_single_19 : decode cX12_single 19 = .ok (.ireturn, 1) := by decide +kernel
theorem dX12_as_0 : decode cX12_as 0 = .ok (.aload_n 0, 1) := by decide +kernel
theorem dX12_as_1 : decode cX12_as 1 = .ok (.iload_n 1, 1) := by decide +kernel
theorem dX12_as_2 : decode cX12_as 2 = .ok (.invokevirtual 106, 3) := by decide +kernel
theorem dX12_as_5 : decode cX12_as 5 = .ok (.ifCond .ne 6, 3) := by decide +kernel
theorem dX12_as_8 : decode cX12_as 8 = .ok (.bipush (-101), 2) := by decide +kernel
theorem dX12_as_10 : decode cX12_as 10 = .ok (.ireturn, 1) := by decide +kernel
theorem dX12_as_11 : decode cX12_as 11 = .ok (.iload_n 2, 1) := by decide +kernel
theorem dX12_as_12 : decode cX12_as 12 = .ok (.i2l, 1) := by decide +kernel
theorem dX12_as_13 : decode cX12_as 13 = .ok (.lconst 0, 1) := by decide +kernel
theorem dX12_as_14 : decode cX12_as 14 = .ok (.ldc2_w 154, 3) := by decide +kernel
theorem dX12_as_17 : decode cX12_as 17 = .ok (.invokestatic 58, 3) := by decide +kernel
theorem dX12_as_20 : decode cX12_as 20 = .ok (.ifCond .ne 6, 3) := by decide +kernel
theorem dX12_as_23 : decode cX12_as 23 = .ok (.bipush (-102), 2) := by decide +kernel
theorem dX12_as_25 : decode cX12_as 25 = .ok (.ireturn, 1) := by decide +kernel
theorem dX12_as_26 : decode cX12_as 26 = .ok (.iload_n 2, 1) := by decide +kernel
theorem dX12_as_27 : decode cX12_as 27 = .ok (.ifCond .eq 28, 3) := by decide +kernel
theorem dX12_as_30 : decode cX12_as 30 = .ok (.iload_n 2, 1) := by decide +kernel
theorem dX12_as_31 : decode cX12_as 31 = .ok (.aload_n 0, 1) := by decide +kernel
theorem dX12_as_32 : decode cX12_as 32 = .ok (.getfield 13, 3) := by decide +kernel
theorem dX12_as_35 : decode cX12_as 35 = .ok (.iconst 2, 1) := by decide +kernel
theorem dX12_as_36 : decode cX12_as 36 = .ok (.iload_n 1, 1) := by decide +kernel
theorem dX12_as_37 : decode cX12_as 37 = .ok (.imul, 1) := by decide +kernel
theorem dX12_as_38 : decode cX12_as 38 = .ok (.iaload, 1) := by decide +kernel
theorem dX12_as_39 : decode cX12_as 39 = .ok (.if_icmp .eq 16, 3) := by decide +kernel
theorem dX12_as_42 : decode cX12_as 42 = .ok (.iload_n 2, 1) := by decide +kernel
theorem dX12_as_43 : decode cX12_as 43 = .ok (.iconst 1, 1) := by decide +kernel
theorem dX12_as_44 : decode cX12_as 44 = .ok (.if_icmp .ne 15, 3) := by decide +kernel
theorem dX12_as_47 : decode cX12_as 47 = .ok (.aload_n 0, 1) := by decide +kernel
theorem dX12_as_48 : decode cX12_as 48 = .ok (.iload_n 1, 1) := by decide +kernel
theorem dX12_as_49 : decode cX12_as 49 = .ok (.invokevirtual 110, 3) := by decide +kernel
theorem dX12_as_52 : decode cX12_as 52 = .ok (.ifCond .eq 7, 3) := by decide +kernel
theorem dX12_as_55 : decode cX12_as 55 = .ok (.iconst 1, 1) := by decide +kernel
theorem dX12_as_56 : decode cX12_as 56 = .ok (.goto 4, 3) := by decide +kernel
theorem dX12_as_59 : decode cX12_as 59 = .ok (.iconst 0, 1) := by decide +kernel
theorem dX12_as_60 : decode cX12_as 60 = .ok (.istore_n 3, 1) := by decide +kernel
theorem dX12_as_61 : decode cX12_as 61 = .ok (.iload_n 3, 1) := by decide +kernel
theorem dX12_as_62 : decode cX12_as 62 = .ok (.ifCond .eq 7, 3) := by decide +kernel
theorem dX12_as_65 : decode cX12_as 65 = .ok (.iload_n 1, 1) := by decide +kernel
theorem dX12_as_66 : decode cX12_as 66 = .ok (.goto 4, 3) := by decide +kernel
theorem dX12_as_69 : decode cX12_as 69 = .ok (.iconst (-1), 1) := by decide +kernel
theorem dX12_as_70 : decode cX12_as 70 = .ok (.ireturn, 1) := by decide +kernel
theorem dX12_likeness_0 : decode cX12_likeness 0 = .ok (.aload_n 0, 1) := by decide +kernel
theorem dX12_likeness_1 : decode cX12_likeness 1 = .ok (.iload_n 1, 1) := by decide +kernel
theorem dX12_likeness_2 : decode cX12_likeness 2 = .ok (.iload_n 2, 1) := by decide +kernel
theorem dX12_likeness_3 : decode cX12_likeness 3 = .ok (.invokevirtual 156, 3) := by decide +kernel
theorem dX12_likeness_6 : decode cX12_likeness 6 = .ok (.ifCond .eq 12, 3) := by decide +kernel
theorem dX12_likeness_9 : decode cX12_likeness 9 = .ok (.aload_n 0, 1) := by decide +kernel
theorem dX12_likeness_10 : decode cX12_likeness 10 = .ok (.iload_n 1, 1) := by decide +kernel
theorem dX12_likeness_11 : decode cX12_likeness 11 = .ok (.iload_n 2, 1) := by decide +kernel
theorem dX12_likeness_12 : decode cX12_likeness 12 = .ok (.invokevirtual 126, 3) := by decide +kernel
theorem dX12_likeness_15 : decode cX12_likeness 15 = .ok (.goto 5, 3) := by decide +kernel
theorem dX12_likeness_18 : decode cX12_likeness 18 = .ok (.bipush (-101), 2) := by decide +kernel
theorem dX12_likeness_20 : decode cX12_likeness 20 = .ok (.ireturn, 1) := by decide +kernel
theorem dX12_apart_0 : decode cX12_apart 0 = .ok (.aload_n 0, 1) := by decide +kernel
theorem dX12_apart_1 : decode cX12_apart 1 = .ok (.iload_n 1, 1) := by decide +kernel
theorem dX12_apart_2 : decode cX12_apart 2 = .ok (.iload_n 2, 1) := by decide +kernel
theorem dX12_apart_3 : decode cX12_apart 3 = .ok (.invokevirtual 156, 3) := by decide +kernel
theorem dX12_apart_6 : decode cX12_apart 6 = .ok (.ifCond .eq 12, 3) := by decide +kernel
theorem dX12_apart_9 : decode cX12_apart 9 = .ok (.aload_n 0, 1) := by decide +kernel
theorem dX12_apart_10 : decode cX12_apart 10 = .ok (.iload_n 1, 1) := by decide +kernel
theorem dX12_apart_11 : decode cX12_apart 11 = .ok (.iload_n 2, 1) := by decide +kernel
theorem dX12_apart_12 : decode cX12_apart 12 = .ok (.invokevirtual 123, 3) := by decide +kernel
theorem dX12_apart_15 : decode cX12_apart 15 = .ok (.goto 5, 3) := by decide +kernel
theorem dX12_apart_18 : decode cX12_apart 18 = .ok (.bipush (-101), 2) := by decide +kernel
theorem dX12_apart_20 : decode cX12_apart 20 = .ok (.ireturn, 1) := by decide +kernel
theorem dX12_carry_0 : decode cX12_carry 0 = .ok (.aload_n 0, 1) := by decide +kernel
theorem dX12_carry_1 : decode cX12_carry 1 = .ok (.iload_n 1, 1) := by decide +kernel
theorem dX12_carry_2 : decode cX12_carry 2 = .ok (.invokevirtual 106, 3) := by decide +kernel
theorem dX12_carry_5 : decode cX12_carry 5 = .ok (.ifCond .eq 15, 3) := by decide +kernel
theorem dX12_carry_8 : decode cX12_carry 8 = .ok (.iload_n 2, 1) := by decide +kernel
theorem dX12_carry_9 : decode cX12_carry 9 = .ok (.i2l, 1) := by decide +kernel
theorem dX12_carry_10 : decode cX12_carry 10 = .ok (.lconst 0, 1) := by decide +kernel
theorem dX12_carry_11 : decode cX12_carry 11 = .ok (.ldc2_w 159, 3) := by decide +kernel
theorem dX12_carry_14 : decode cX12_carry 14 = .ok (.invokestatic 58, 3) := by decide +kernel
theorem dX12_carry_17 : decode cX12_carry 17 = .ok (.ifCond .ne 6, 3) := by decide +kernel
theorem dX12_carry_20 : decode cX12_carry 20 = .ok (.bipush (-101), 2) := by decide +kernel
theorem dX12_carry_22 : decode cX12_carry 22 = .ok (.ireturn, 1) := by decide +kernel
theorem dX12_carry_23 : decode cX12_carry 23 = .ok (.aload_n 0, 1) := by decide +kernel
theorem dX12_carry_24 : decode cX12_carry 24 = .ok (.getfield 22, 3) := by decide +kernel
theorem dX12_carry_27 : decode cX12_carry 27 = .ok (.iload_n 1, 1) := by decide +kernel
theorem dX12_carry_28 : decode cX12_carry 28 = .ok (.iaload, 1) := by decide +kernel
theorem dX12_carry_29 : decode cX12_carry 29 = .ok (.iconst (-1), 1) := by decide +kernel
theorem dX12_carry_30 : decode cX12_carry 30 = .ok (.if_icmp .eq 6, 3) := by decide +kernel
theorem dX12_carry_33 : decode cX12_carry 33 = .ok (.bipush (-103), 2) := by decide +kernel
theorem dX12_carry_35 : decode cX12_carry 35 = .ok (.ireturn, 1) := by decide +kernel
theorem dX12_carry_36 : decode cX12_carry 36 = .ok (.aload_n 0, 1) := by decide +kernel
theorem dX12_carry_37 : decode cX12_carry 37 = .ok (.getfield 19, 3) := by decide +kernel
theorem dX12_carry_40 : decode cX12_carry 40 = .ok (.iload_n 1, 1) := by decide +kernel
theorem dX12_carry_41 : decode cX12_carry 41 = .ok (.iaload, 1) := by decide +kernel
theorem dX12_carry_42 : decode cX12_carry 42 = .ok (.iload_n 2, 1) := by decide +kernel
theorem dX12_carry_43 : decode cX12_carry 43 = .ok (.invokestatic 116, 3) := by decide +kernel
theorem dX12_carry_46 : decode cX12_carry 46 = .ok (.istore_n 3, 1) := by decide +kernel
theorem dX12_carry_47 : decode cX12_carry 47 = .ok (.aload_n 0, 1) := by decide +kernel
theorem dX12_carry_48 : decode cX12_carry 48 = .ok (.getfield 19, 3) := by decide +kernel
theorem dX12_carry_51 : decode cX12_carry 51 = .ok (.iload_n 1, 1) := by decide +kernel
theorem dX12_carry_52 : decode cX12_carry 52 = .ok (.iload_n 2, 1) := by decide +kernel
theorem dX12_carry_53 : decode cX12_carry 53 = .ok (.iastore, 1) := by decide +kernel
theorem dX12_carry_54 : decode cX12_carry 54 = .ok (.aload_n 0, 1) := by decide +kernel
theorem dX12_carry_55 : decode cX12_carry 55 = .ok (.dup, 1) := by decide +kernel
theorem dX12_carry_56 : decode cX12_carry 56 = .ok (.getfield 88, 3) := by decide +kernel
theorem dX12_carry_59 : decode cX12_carry 59 = .ok (.iload_n 3, 1) := by decide +kernel
theorem dX12_carry_60 : decode cX12_carry 60 = .ok (.iadd, 1) := by decide +kernel
theorem dX12_carry_61 : decode cX12_carry 61 = .ok (.putfield 88, 3) := by decide +kernel
theorem dX12_carry_64 : decode cX12_carry 64 = .ok (.iload_n 3, 1) := by decide +kernel
theorem dX12_carry_65 : decode cX12_carry 65 = .ok (.ireturn, 1) := by decide +kernel
theorem dX12_bring_0 : decode cX12_bring 0 = .ok (.aload_n 0, 1) := by decide +kernel
theorem dX12_bring_1 : decode cX12_bring 1 = .ok (.iload_n 1, 1) := by decide +kernel
theorem dX12_bring_2 : decode cX12_bring 2 = .ok (.iload_n 2, 1) := by decide +kernel
theorem dX12_bring_3 : decode cX12_bring 3 = .ok (.invokevirtual 156, 3) := by decide +kernel
theorem dX12_bring_6 : decode cX12_bring 6 = .ok (.ifCond .ne 6, 3) := by decide +kernel
theorem dX12_bring_9 : decode cX12_bring 9 = .ok (.bipush (-101), 2) := by decide +kernel
theorem dX12_bring_11 : decode cX12_bring 11 = .ok (.ireturn, 1) := by decide +kernel
theorem dX12_bring_12 : decode cX12_bring 12 = .ok (.aload_n 0, 1) := by decide +kernel
theorem dX12_bring_13 : decode cX12_bring 13 = .ok (.getfield 22, 3) := by decide +kernel
theorem dX12_bring_16 : decode cX12_bring 16 = .ok (.iload_n 1, 1) := by decide +kernel
theorem dX12_bring_17 : decode cX12_bring 17 = .ok (.iaload, 1) := by decide +kernel
theorem dX12_bring_18 : decode cX12_bring 18 = .ok (.iconst (-1), 1) := by decide +kernel
theorem dX12_bring_19 : decode cX12_bring 19 = .ok (.if_icmp .ne 37, 3) := by decide +kernel
theorem dX12_bring_22 : decode cX12_bring 22 = .ok (.aload_n 0, 1) := by decide +kernel
theorem dX12_bring_23 : decode cX12_bring 23 = .ok (.getfield 22, 3) := by decide +kernel
theorem dX12_bring_26 : decode cX12_bring 26 = .ok (.iload_n 2, 1) := by decide +kernel
theorem dX12_bring_27 : decode cX12_bring 27 = .ok (.iaload, 1) := by decide +kernel
theorem dX12_bring_28 : decode cX12_bring 28 = .ok (.iconst (-1), 1) := by decide +kernel
theorem dX12_bring_29 : decode cX12_bring 29 = .ok (.if_icmp .ne 27, 3) := by decide +kernel
theorem dX12_bring_32 : decode cX12_bring 32 = .ok (.aload_n 0, 1) := by decide +kernel
theorem dX12_bring_33 : decode cX12_bring 33 = .ok (.iload_n 1, 1) := by decide +kernel
theorem dX12_bring_34 : decode cX12_bring 34 = .ok (.iload_n 2, 1) := by decide +kernel
theorem dX12_bring_35 : decode cX12_bring 35 = .ok (.invokevirtual 120, 3) := by decide +kernel
theorem dX12_bring_38 : decode cX12_bring 38 = .ok (.ifCond .eq 18, 3) := by decide +kernel
theorem dX12_bring_41 : decode cX12_bring 41 = .ok (.aload_n 0, 1) := by decide +kernel
theorem dX12_bring_42 : decode cX12_bring 42 = .ok (.getfield 19, 3) := by decide +kernel
theorem dX12_bring_45 : decode cX12_bring 45 = .ok (.iload_n 1, 1) := by decide +kernel
theorem dX12_bring_46 : decode cX12_bring 46 = .ok (.iaload, 1) := by decide +kernel
theorem dX12_bring_47 : decode cX12_bring 47 = .ok (.aload_n 0, 1) := by decide +kernel
theorem dX12_bring_48 : decode cX12_bring 48 = .ok (.getfield 19, 3) := by decide +kernel
theorem dX12_bring_51 : decode cX12_bring 51 = .ok (.iload_n 2, 1) := by decide +kernel
theorem dX12_bring_52 : decode cX12_bring 52 = .ok (.iaload, 1) := by decide +kernel
theorem dX12_bring_53 : decode cX12_bring 53 = .ok (.if_icmp .eq 6, 3) := by decide +kernel
theorem dX12_bring_56 : decode cX12_bring 56 = .ok (.bipush (-103), 2) := by decide +kernel
theorem dX12_bring_58 : decode cX12_bring 58 = .ok (.ireturn, 1) := by decide +kernel
theorem dX12_bring_59 : decode cX12_bring 59 = .ok (.aload_n 0, 1) := by decide +kernel
theorem dX12_bring_60 : decode cX12_bring 60 = .ok (.getfield 22, 3) := by decide +kernel
theorem dX12_bring_63 : decode cX12_bring 63 = .ok (.iload_n 1, 1) := by decide +kernel
theorem dX12_bring_64 : decode cX12_bring 64 = .ok (.iload_n 2, 1) := by decide +kernel
theorem dX12_bring_65 : decode cX12_bring 65 = .ok (.iastore, 1) := by decide +kernel
theorem dX12_bring_66 : decode cX12_bring 66 = .ok (.aload_n 0, 1) := by decide +kernel
theorem dX12_bring_67 : decode cX12_bring 67 = .ok (.getfield 22, 3) := by decide +kernel
theorem dX12_bring_70 : decode cX12_bring 70 = .ok (.iload_n 2, 1) := by decide +kernel
theorem dX12_bring_71 : decode cX12_bring 71 = .ok (.iload_n 1, 1) := by decide +kernel
theorem dX12_bring_72 : decode cX12_bring 72 = .ok (.iastore, 1) := by decide +kernel
theorem dX12_bring_73 : decode cX12_bring 73 = .ok (.aload_n 0, 1) := by decide +kernel
theorem dX12_bring_74 : decode cX12_bring 74 = .ok (.dup, 1) := by decide +kernel
theorem dX12_bring_75 : decode cX12_bring 75 = .ok (.getfield 91, 3) := by decide +kernel
theorem dX12_bring_78 : decode cX12_bring 78 = .ok (.iconst 1, 1) := by decide +kernel
theorem dX12_bring_79 : decode cX12_bring 79 = .ok (.iadd, 1) := by decide +kernel
theorem dX12_bring_80 : decode cX12_bring 80 = .ok (.putfield 91, 3) := by decide +kernel
theorem dX12_bring_83 : decode cX12_bring 83 = .ok (.aload_n 0, 1) := by decide +kernel
theorem dX12_bring_84 : decode cX12_bring 84 = .ok (.iload_n 1, 1) := by decide +kernel
theorem dX12_bring_85 : decode cX12_bring 85 = .ok (.iload_n 2, 1) := by decide +kernel
theorem dX12_bring_86 : decode cX12_bring 86 = .ok (.invokevirtual 126, 3) := by decide +kernel
theorem dX12_bring_89 : decode cX12_bring 89 = .ok (.ireturn, 1) := by decide +kernel
theorem dX12_part_0 : decode cX12_part 0 = .ok (.aload_n 0, 1) := by decide +kernel
theorem dX12_part_1 : decode cX12_part 1 = .ok (.iload_n 1, 1) := by decide +kernel
theorem dX12_part_2 : decode cX12_part 2 = .ok (.invokevirtual 106, 3) := by decide +kernel
theorem dX12_part_5 : decode cX12_part 5 = .ok (.ifCond .ne 6, 3) := by decide +kernel
theorem dX12_part_8 : decode cX12_part 8 = .ok (.bipush (-101), 2) := by decide +kernel
theorem dX12_part_10 : decode cX12_part 10 = .ok (.ireturn, 1) := by decide +kernel
theorem dX12_part_11 : decode cX12_part 11 = .ok (.aload_n 0, 1) := by decide +kernel
theorem dX12_part_12 : decode cX12_part 12 = .ok (.getfield 22, 3) := by decide +kernel
theorem dX12_part_15 : decode cX12_part 15 = .ok (.iload_n 1, 1) := by decide +kernel
theorem dX12_part_16 : decode cX12_part 16 = .ok (.iaload, 1) := by decide +kernel
theorem dX12_part_17 : decode cX12_part 17 = .ok (.istore_n 2, 1) := by decide +kernel
theorem dX12_part_18 : decode cX12_part 18 = .ok (.iload_n 2, 1) := by decide +kernel
theorem dX12_part_19 : decode cX12_part 19 = .ok (.iconst (-1), 1) := by decide +kernel
theorem dX12_part_20 : decode cX12_part 20 = .ok (.if_icmp .ne 6, 3) := by decide +kernel
theorem dX12_part_23 : decode cX12_part 23 = .ok (.bipush (-103), 2) := by decide +kernel
theorem dX12_part_25 : decode cX12_part 25 = .ok (.ireturn, 1) := by decide +kernel
theorem dX12_part_26 : decode cX12_part 26 = .ok (.aload_n 0, 1) := by decide +kernel
theorem dX12_part_27 : decode cX12_part 27 = .ok (.getfield 22, 3) := by decide +kernel
theorem dX12_part_30 : decode cX12_part 30 = .ok (.iload_n 1, 1) := by decide +kernel
theorem dX12_part_31 : decode cX12_part 31 = .ok (.iconst (-1), 1) := by decide +kernel
theorem dX12_part_32 : decode cX12_part 32 = .ok (.iastore, 1) := by decide +kernel
theorem dX12_part_33 : decode cX12_part 33 = .ok (.aload_n 0, 1) := by decide +kernel
theorem dX12_part_34 : decode cX12_part 34 = .ok (.getfield 22, 3) := by decide +kernel
theorem dX12_part_37 : decode cX12_part 37 = .ok (.iload_n 2, 1) := by decide +kernel
theorem dX12_part_38 : decode cX12_part 38 = .ok (.iconst (-1), 1) := by decide +kernel
theorem dX12_part_39 : decode cX12_part 39 = .ok (.iastore, 1) := by decide +kernel
theorem dX12_part_40 : decode cX12_part 40 = .ok (.aload_n 0, 1) := by decide +kernel
theorem dX12_part_41 : decode cX12_part 41 = .ok (.dup, 1) := by decide +kernel
theorem dX12_part_42 : decode cX12_part 42 = .ok (.getfield 94, 3) := by decide +kernel
theorem dX12_part_45 : decode cX12_part 45 = .ok (.iconst 1, 1) := by decide +kernel
theorem dX12_part_46 : decode cX12_part 46 = .ok (.iadd, 1) := by decide +kernel
theorem dX12_part_47 : decode cX12_part 47 = .ok (.putfield 94, 3) := by decide +kernel
theorem dX12_part_50 : decode cX12_part 50 = .ok (.iload_n 2, 1) := by decide +kernel
theorem dX12_part_51 : decode cX12_part 51 = .ok (.ireturn, 1) := by decide +kernel
theorem dX12_shrink_0 : decode cX12_shrink 0 = .ok (.aload_n 0, 1) := by decide +kernel
theorem dX12_shrink_1 : decode cX12_shrink 1 = .ok (.iload_n 1, 1) := by decide +kernel
theorem dX12_shrink_2 : decode cX12_shrink 2 = .ok (.invokevirtual 106, 3) := by decide +kernel
theorem dX12_shrink_5 : decode cX12_shrink 5 = .ok (.ifCond .ne 6, 3) := by decide +kernel
theorem dX12_shrink_8 : decode cX12_shrink 8 = .ok (.bipush (-101), 2) := by decide +kernel
theorem dX12_shrink_10 : decode cX12_shrink 10 = .ok (.ireturn, 1) := by decide +kernel
theorem dX12_shrink_11 : decode cX12_shrink 11 = .ok (.iload_n 2, 1) := by decide +kernel
theorem dX12_shrink_12 : decode cX12_shrink 12 = .ok (.i2l, 1) := by decide +kernel
theorem dX12_shrink_13 : decode cX12_shrink 13 = .ok (.lconst 0, 1) := by decide +kernel
theorem dX12_shrink_14 : decode cX12_shrink 14 = .ok (.ldc2_w 161, 3) := by decide +kernel
theorem dX12_shrink_17 : decode cX12_shrink 17 = .ok (.invokestatic 58, 3) := by decide +kernel
theorem dX12_shrink_20 : decode cX12_shrink 20 = .ok (.ifCond .ne 6, 3) := by decide +kernel
theorem dX12_shrink_23 : decode cX12_shrink 23 = .ok (.bipush (-102), 2) := by decide +kernel
theorem dX12_shrink_25 : decode cX12_shrink 25 = .ok (.ireturn, 1) := by decide +kernel
theorem dX12_shrink_26 : decode cX12_shrink 26 = .ok (.aload_n 0, 1) := by decide +kernel
theorem dX12_shrink_27 : decode cX12_shrink 27 = .ok (.getfield 22, 3) := by decide +kernel
theorem dX12_shrink_30 : decode cX12_shrink 30 = .ok (.iload_n 1, 1) := by decide +kernel
theorem dX12_shrink_31 : decode cX12_shrink 31 = .ok (.iaload, 1) := by decide +kernel
theorem dX12_shrink_32 : decode cX12_shrink 32 = .ok (.iconst (-1), 1) := by decide +kernel
theorem dX12_shrink_33 : decode cX12_shrink 33 = .ok (.if_icmp .eq 6, 3) := by decide +kernel
theorem dX12_shrink_36 : decode cX12_shrink 36 = .ok (.bipush (-103), 2) := by decide +kernel
theorem dX12_shrink_38 : decode cX12_shrink 38 = .ok (.ireturn, 1) := by decide +kernel
theorem dX12_shrink_39 : decode cX12_shrink 39 = .ok (.aload_n 0, 1) := by decide +kernel
theorem dX12_shrink_40 : decode cX12_shrink 40 = .ok (.getfield 16, 3) := by decide +kernel
theorem dX12_shrink_43 : decode cX12_shrink 43 = .ok (.iload_n 1, 1) := by decide +kernel
theorem dX12_shrink_44 : decode cX12_shrink 44 = .ok (.iaload, 1) := by decide +kernel
theorem dX12_shrink_45 : decode cX12_shrink 45 = .ok (.istore_n 3, 1) := by decide +kernel
theorem dX12_shrink_46 : decode cX12_shrink 46 = .ok (.aload_n 0, 1) := by decide +kernel
theorem dX12_shrink_47 : decode cX12_shrink 47 = .ok (.getfield 16, 3) := by decide +kernel
theorem dX12_shrink_50 : decode cX12_shrink 50 = .ok (.iload_n 1, 1) := by decide +kernel
theorem dX12_shrink_51 : decode cX12_shrink 51 = .ok (.iload_n 2, 1) := by decide +kernel
theorem dX12_shrink_52 : decode cX12_shrink 52 = .ok (.iastore, 1) := by decide +kernel
theorem dX12_shrink_53 : decode cX12_shrink 53 = .ok (.iload_n 3, 1) := by decide +kernel
theorem dX12_shrink_54 : decode cX12_shrink 54 = .ok (.ireturn, 1) := by decide +kernel
theorem dX12_pairsOf_0 : decode cX12_pairsOf 0 = .ok (.iconst 0, 1) := by decide +kernel
theorem dX12_pairsOf_1 : decode cX12_pairsOf 1 = .ok (.istore_n 2, 1) := by decide +kernel
theorem dX12_pairsOf_2 : decode cX12_pairsOf 2 = .ok (.iconst 0, 1) := by decide +kernel
theorem dX12_pairsOf_3 : decode cX12_pairsOf 3 = .ok (.istore_n 3, 1) := by decide +kernel
theorem dX12_pairsOf_4 : decode cX12_pairsOf 4 = .ok (.iload_n 3, 1) := by decide +kernel
theorem dX12_pairsOf_5 : decode cX12_pairsOf 5 = .ok (.aload_n 0, 1) := by decide +kernel
theorem dX12_pairsOf_6 : decode cX12_pairsOf 6 = .ok (.getfield 85, 3) := by decide +kernel
theorem dX12_pairsOf_9 : decode cX12_pairsOf 9 = .ok (.if_icmp .ge 24, 3) := by decide +kernel
theorem dX12_pairsOf_12 : decode cX12_pairsOf 12 = .ok (.iload_n 2, 1) := by decide +kernel
theorem dX12_pairsOf_13 : decode cX12_pairsOf 13 = .ok (.aload_n 1, 1) := by decide +kernel
theorem dX12_pairsOf_14 : decode cX12_pairsOf 14 = .ok (.iload_n 3, 1) := by decide +kernel
theorem dX12_pairsOf_15 : decode cX12_pairsOf 15 = .ok (.iaload, 1) := by decide +kernel
theorem dX12_pairsOf_16 : decode cX12_pairsOf 16 = .ok (.iload_n 3, 1) := by decide +kernel
theorem dX12_pairsOf_17 : decode cX12_pairsOf 17 = .ok (.if_icmp .le 7, 3) := by decide +kernel
theorem dX12_pairsOf_20 : decode cX12_pairsOf 20 = .ok (.iconst 1, 1) := by decide +kernel
theorem dX12_pairsOf_21 : decode cX12_pairsOf 21 = .ok (.goto 4, 3) := by decide +kernel
theorem dX12_pairsOf_24 : decode cX12_pairsOf 24 = .ok (.iconst 0, 1) := by decide +kernel
theorem dX12_pairsOf_25 : decode cX12_pairsOf 25 = .ok (.iadd, 1) := by decide +kernel
theorem dX12_pairsOf_26 : decode cX12_pairsOf 26 = .ok (.istore_n 2, 1) := by decide +kernel
theorem dX12_pairsOf_27 : decode cX12_pairsOf 27 = .ok (.iinc 3 1, 3) := by decide +kernel
theorem dX12_pairsOf_30 : decode cX12_pairsOf 30 = .ok (.goto (-26), 3) := by decide +kernel
theorem dX12_pairsOf_33 : decode cX12_pairsOf 33 = .ok (.iload_n 2, 1) := by decide +kernel
theorem dX12_pairsOf_34 : decode cX12_pairsOf 34 = .ok (.ireturn, 1) := by decide +kernel
theorem dX12_may_0 : decode cX12_may 0 = .ok (.aload_n 0, 1) := by decide +kernel
theorem dX12_may_1 : decode cX12_may 1 = .ok (.invokevirtual 163, 3) := by decide +kernel
theorem dX12_may_4 : decode cX12_may 4 = .ok (.ifCond .eq 6, 3) := by decide +kernel
theorem dX12_may_7 : decode cX12_may 7 = .ok (.bipush (-103), 2) := by decide +kernel
theorem dX12_may_9 : decode cX12_may 9 = .ok (.ireturn, 1) := by decide +kernel
theorem dX12_may_10 : decode cX12_may 10 = .ok (.aload_n 0, 1) := by decide +kernel
theorem dX12_may_11 : decode cX12_may 11 = .ok (.getfield 22, 3) := by decide +kernel
theorem dX12_may_14 : decode cX12_may 14 = .ok (.aload_n 0, 1) := by decide +kernel
theorem dX12_may_15 : decode cX12_may 15 = .ok (.getfield 25, 3) := by decide +kernel
theorem dX12_may_18 : decode cX12_may 18 = .ok (.invokestatic 167, 3) := by decide +kernel
theorem dX12_may_21 : decode cX12_may 21 = .ok (.iconst 0, 1) := by decide +kernel
theorem dX12_may_22 : decode cX12_may 22 = .ok (.istore_n 1, 1) := by decide +kernel
theorem dX12_may_23 : decode cX12_may 23 = .ok (.iload_n 1, 1) := by decide +kernel
theorem dX12_may_24 : decode cX12_may 24 = .ok (.aload_n 0, 1) := by decide +kernel
theorem dX12_may_25 : decode cX12_may 25 = .ok (.getfield 85, 3) := by decide +kernel
theorem dX12_may_28 : decode cX12_may 28 = .ok (.if_icmp .ge 16, 3) := by decide +kernel
theorem dX12_may_31 : decode cX12_may 31 = .ok (.aload_n 0, 1) := by decide +kernel
theorem dX12_may_32 : decode cX12_may 32 = .ok (.getfield 22, 3) := by decide +kernel
theorem dX12_may_35 : decode cX12_may 35 = .ok (.iload_n 1, 1) := by decide +kernel
theorem dX12_may_36 : decode cX12_may 36 = .ok (.iconst (-1), 1) := by decide +kernel
theorem dX12_may_37 : decode cX12_may 37 = .ok (.iastore, 1) := by decide +kernel
theorem dX12_may_38 : decode cX12_may 38 = .ok (.iinc 1 1, 3) := by decide +kernel
theorem dX12_may_41 : decode cX12_may 41 = .ok (.goto (-18), 3) := by decide +kernel
theorem dX12_may_44 : decode cX12_may 44 = .ok (.iconst 0, 1) := by decide +kernel
theorem dX12_may_45 : decode cX12_may 45 = .ok (.istore_n 1, 1) := by decide +kernel
theorem dX12_may_46 : decode cX12_may 46 = .ok (.iload_n 1, 1) := by decide +kernel
theorem dX12_may_47 : decode cX12_may 47 = .ok (.aload_n 0, 1) := by decide +kernel
theorem dX12_may_48 : decode cX12_may 48 = .ok (.getfield 85, 3) := by decide +kernel
theorem dX12_may_51 : decode cX12_may 51 = .ok (.if_icmp .ge 98, 3) := by decide +kernel
theorem dX12_may_54 : decode cX12_may 54 = .ok (.iconst 0, 1) := by decide +kernel
theorem dX12_may_55 : decode cX12_may 55 = .ok (.istore_n 2, 1) := by decide +kernel
theorem dX12_may_56 : decode cX12_may 56 = .ok (.iload_n 2, 1) := by decide +kernel
theorem dX12_may_57 : decode cX12_may 57 = .ok (.aload_n 0, 1) := by decide +kernel
theorem dX12_may_58 : decode cX12_may 58 = .ok (.getfield 85, 3) := by decide +kernel
theorem dX12_may_61 : decode cX12_may 61 = .ok (.if_icmp .ge 82, 3) := by decide +kernel
theorem dX12_may_64 : decode cX12_may 64 = .ok (.aload_n 0, 1) := by decide +kernel
theorem dX12_may_65 : decode cX12_may 65 = .ok (.getfield 25, 3) := by decide +kernel
theorem dX12_may_68 : decode cX12_may 68 = .ok (.iload_n 1, 1) := by decide +kernel
theorem dX12_may_69 : decode cX12_may 69 = .ok (.iaload, 1) := by decide +kernel
theorem dX12_may_70 : decode cX12_may 70 = .ok (.iconst (-1), 1) := by decide +kernel
theorem dX12_may_71 : decode cX12_may 71 = .ok (.if_icmp .eq 72, 3) := by decide +kernel
theorem dX12_may_74 : decode cX12_may 74 = .ok (.aload_n 0, 1) := by decide +kernel
theorem dX12_may_75 : decode cX12_may 75 = .ok (.getfield 22, 3) := by decide +kernel
theorem dX12_may_78 : decode cX12_may 78 = .ok (.iload_n 1, 1) := by decide +kernel
theorem dX12_may_79 : decode cX12_may 79 = .ok (.iaload, 1) := by decide +kernel
theorem dX12_may_80 : decode cX12_may 80 = .ok (.iconst (-1), 1) := by decide +kernel
theorem dX12_may_81 : decode cX12_may 81 = .ok (.if_icmp .ne 62, 3) := by decide +kernel
theorem dX12_may_84 : decode cX12_may 84 = .ok (.aload_n 0, 1) := by decide +kernel
theorem dX12_may_85 : decode cX12_may 85 = .ok (.getfield 25, 3) := by decide +kernel
theorem dX12_may_88 : decode cX12_may 88 = .ok (.iload_n 2, 1) := by decide +kernel
theorem dX12_may_89 : decode cX12_may 89 = .ok (.iaload, 1) := by decide +kernel
theorem dX12_may_90 : decode cX12_may 90 = .ok (.iconst (-1), 1) := by decide +kernel
theorem dX12_may_91 : decode cX12_may 91 = .ok (.if_icmp .eq 46, 3) := by decide +kernel
theorem dX12_may_94 : decode cX12_may 94 = .ok (.aload_n 0, 1) := by decide +kernel
theorem dX12_may_95 : decode cX12_may 95 = .ok (.getfield 22, 3) := by decide +kernel
theorem dX12_may_98 : decode cX12_may 98 = .ok (.iload_n 2, 1) := by decide +kernel
theorem dX12_may_99 : decode cX12_may 99 = .ok (.iaload, 1) := by decide +kernel
theorem dX12_may_100 : decode cX12_may 100 = .ok (.iconst (-1), 1) := by decide +kernel
theorem dX12_may_101 : decode cX12_may 101 = .ok (.if_icmp .ne 36, 3) := by decide +kernel
theorem dX12_may_104 : decode cX12_may 104 = .ok (.aload_n 0, 1) := by decide +kernel
theorem dX12_may_105 : decode cX12_may 105 = .ok (.getfield 25, 3) := by decide +kernel
theorem dX12_may_108 : decode cX12_may 108 = .ok (.iload_n 1, 1) := by decide +kernel
theorem dX12_may_109 : decode cX12_may 109 = .ok (.iaload, 1) := by decide +kernel
theorem dX12_may_110 : decode cX12_may 110 = .ok (.iload_n 2, 1) := by decide +kernel
theorem dX12_may_111 : decode cX12_may 111 = .ok (.if_icmp .eq 26, 3) := by decide +kernel
theorem dX12_may_114 : decode cX12_may 114 = .ok (.aload_n 0, 1) := by decide +kernel
theorem dX12_may_115 : decode cX12_may 115 = .ok (.iload_n 1, 1) := by decide +kernel
theorem dX12_may_116 : decode cX12_may 116 = .ok (.iload_n 2, 1) := by decide +kernel
theorem dX12_may_117 : decode cX12_may 117 = .ok (.invokevirtual 120, 3) := by decide +kernel
theorem dX12_may_120 : decode cX12_may 120 = .ok (.ifCond .eq 17, 3) := by decide +kernel
theorem dX12_may_123 : decode cX12_may 123 = .ok (.aload_n 0, 1) := by decide +kernel
theorem dX12_may_124 : decode cX12_may 124 = .ok (.getfield 22, 3) := by decide +kernel
theorem dX12_may_127 : decode cX12_may 127 = .ok (.iload_n 1, 1) := by decide +kernel
theorem dX12_may_128 : decode cX12_may 128 = .ok (.iload_n 2, 1) := by decide +kernel
theorem dX12_may_129 : decode cX12_may 129 = .ok (.iastore, 1) := by decide +kernel
theorem dX12_may_130 : decode cX12_may 130 = .ok (.aload_n 0, 1) := by decide +kernel
theorem dX12_may_131 : decode cX12_may 131 = .ok (.getfield 22, 3) := by decide +kernel
theorem dX12_may_134 : decode cX12_may 134 = .ok (.iload_n 2, 1) := by decide +kernel
theorem dX12_may_135 : decode cX12_may 135 = .ok (.iload_n 1, 1) := by decide +kernel
theorem dX12_may_136 : decode cX12_may 136 = .ok (.iastore, 1) := by decide +kernel
theorem dX12_may_137 : decode cX12_may 137 = .ok (.iinc 2 1, 3) := by decide +kernel
theorem dX12_may_140 : decode cX12_may 140 = .ok (.goto (-84), 3) := by decide +kernel
theorem dX12_may_143 : decode cX12_may 143 = .ok (.iinc 1 1, 3) := by decide +kernel
theorem dX12_may_146 : decode cX12_may 146 = .ok (.goto (-100), 3) := by decide +kernel
theorem dX12_may_149 : decode cX12_may 149 = .ok (.aload_n 0, 1) := by decide +kernel
theorem dX12_may_150 : decode cX12_may 150 = .ok (.dup, 1) := by decide +kernel
theorem dX12_may_151 : decode cX12_may 151 = .ok (.getfield 97, 3) := by decide +kernel
theorem dX12_may_154 : decode cX12_may 154 = .ok (.iconst 1, 1) := by decide +kernel
theorem dX12_may_155 : decode cX12_may 155 = .ok (.iadd, 1) := by decide +kernel
theorem dX12_may_156 : decode cX12_may 156 = .ok (.putfield 97, 3) := by decide +kernel
theorem dX12_may_159 : decode cX12_may 159 = .ok (.aload_n 0, 1) := by decide +kernel
theorem dX12_may_160 : decode cX12_may 160 = .ok (.aload_n 0, 1) := by decide +kernel
theorem dX12_may_161 : decode cX12_may 161 = .ok (.getfield 22, 3) := by decide +kernel
theorem dX12_may_164 : decode cX12_may 164 = .ok (.invokevirtual 171, 3) := by decide +kernel
theorem dX12_may_167 : decode cX12_may 167 = .ok (.ireturn, 1) := by decide +kernel
theorem dX12_firstRow_0 : decode cX12_firstRow 0 = .ok (.iconst 0, 1) := by decide +kernel
theorem dX12_firstRow_1 : decode cX12_firstRow 1 = .ok (.istore_n 1, 1) := by decide +kernel
theorem dX12_firstRow_2 : decode cX12_firstRow 2 = .ok (.iload_n 1, 1) := by decide +kernel
theorem dX12_firstRow_3 : decode cX12_firstRow 3 = .ok (.bipush 7, 2) := by decide +kernel
theorem dX12_firstRow_5 : decode cX12_firstRow 5 = .ok (.if_icmp .ge 23, 3) := by decide +kernel
theorem dX12_firstRow_8 : decode cX12_firstRow 8 = .ok (.aload_n 0, 1) := by decide +kernel
theorem dX12_firstRow_9 : decode cX12_firstRow 9 = .ok (.getfield 28, 3) := by decide +kernel
theorem dX12_firstRow_12 : decode cX12_firstRow 12 = .ok (.iload_n 1, 1) := by decide +kernel
theorem dX12_firstRow_13 : decode cX12_firstRow 13 = .ok (.iconst (-1), 1) := by decide +kernel
theorem dX12_firstRow_14 : decode cX12_firstRow 14 = .ok (.iastore, 1) := by decide +kernel
theorem dX12_firstRow_15 : decode cX12_firstRow 15 = .ok (.aload_n 0, 1) := by decide +kernel
theorem dX12_firstRow_16 : decode cX12_firstRow 16 = .ok (.getfield 31, 3) := by decide +kernel
theorem dX12_firstRow_19 : decode cX12_firstRow 19 = .ok (.iload_n 1, 1) := by decide +kernel
theorem dX12_firstRow_20 : decode cX12_firstRow 20 = .ok (.iconst (-1), 1) := by decide +kernel
theorem dX12_firstRow_21 : decode cX12_firstRow 21 = .ok (.iastore, 1) := by decide +kernel
theorem dX12_firstRow_22 : decode cX12_firstRow 22 = .ok (.iinc 1 1, 3) := by decide +kernel
theorem dX12_firstRow_25 : decode cX12_firstRow 25 = .ok (.goto (-23), 3) := by decide +kernel
theorem dX12_firstRow_28 : decode cX12_firstRow 28 = .ok (.return_, 1) := by decide +kernel
theorem dX12_nextRow_0 : decode cX12_nextRow 0 = .ok (.aload_n 0, 1) := by decide +kernel
theorem dX12_nextRow_1 : decode cX12_nextRow 1 = .ok (.getfield 85, 3) := by decide +kernel
theorem dX12_nextRow_4 : decode cX12_nextRow 4 = .ok (.iconst 1, 1) := by decide +kernel
theorem dX12_nextRow_5 : decode cX12_nextRow 5 = .ok (.isub, 1) := by decide +kernel
theorem dX12_nextRow_6 : decode cX12_nextRow 6 = .ok (.istore_n 1, 1) := by decide +kernel
theorem dX12_nextRow_7 : decode cX12_nextRow 7 = .ok (.iload_n 1, 1) := by decide +kernel
theorem dX12_nextRow_8 : decode cX12_nextRow 8 = .ok (.ifCond .lt 127, 3) := by decide +kernel
theorem dX12_nextRow_11 : decode cX12_nextRow 11 = .ok (.aload_n 0, 1) := by decide +kernel
theorem dX12_nextRow_12 : decode cX12_nextRow 12 = .ok (.getfield 28, 3) := by decide +kernel
theorem dX12_nextRow_15 : decode cX12_nextRow 15 = .ok (.iload_n 1, 1) := by decide +kernel
theorem dX12_nextRow_16 : decode cX12_nextRow 16 = .ok (.iaload, 1) := by decide +kernel
theorem dX12_nextRow_17 : decode cX12_nextRow 17 = .ok (.istore_n 2, 1) := by decide +kernel
theorem dX12_nextRow_18 : decode cX12_nextRow 18 = .ok (.iload_n 2, 1) := by decide +kernel
theorem dX12_nextRow_19 : decode cX12_nextRow 19 = .ok (.iconst (-1), 1) := by decide +kernel
theorem dX12_nextRow_20 : decode cX12_nextRow 20 = .ok (.if_icmp .eq 8, 3) := by decide +kernel
theorem dX12_nextRow_23 : decode cX12_nextRow 23 = .ok (.iload_n 2, 1) := by decide +kernel
theorem dX12_nextRow_24 : decode cX12_nextRow 24 = .ok (.iload_n 1, 1) := by decide +kernel
theorem dX12_nextRow_25 : decode cX12_nextRow 25 = .ok (.if_icmp .le 104, 3) := by decide +kernel
theorem dX12_nextRow_28 : decode cX12_nextRow 28 = .ok (.iload_n 2, 1) := by decide +kernel
theorem dX12_nextRow_29 : decode cX12_nextRow 29 = .ok (.iconst (-1), 1) := by decide +kernel
theorem dX12_nextRow_30 : decode cX12_nextRow 30 = .ok (.if_icmp .eq 17, 3) := by decide +kernel
theorem dX12_nextRow_33 : decode cX12_nextRow 33 = .ok (.aload_n 0, 1) := by decide +kernel
theorem dX12_nextRow_34 : decode cX12_nextRow 34 = .ok (.getfield 28, 3) := by decide +kernel
theorem dX12_nextRow_37 : decode cX12_nextRow 37 = .ok (.iload_n 2, 1) := by decide +kernel
theorem dX12_nextRow_38 : decode cX12_nextRow 38 = .ok (.iconst (-1), 1) := by decide +kernel
theorem dX12_nextRow_39 : decode cX12_nextRow 39 = .ok (.iastore, 1) := by decide +kernel
theorem dX12_nextRow_40 : decode cX12_nextRow 40 = .ok (.aload_n 0, 1) := by decide +kernel
theorem dX12_nextRow_41 : decode cX12_nextRow 41 = .ok (.getfield 28, 3) := by decide +kernel
theorem dX12_nextRow_44 : decode cX12_nextRow 44 = .ok (.iload_n 1, 1) := by decide +kernel
theorem dX12_nextRow_45 : decode cX12_nextRow 45 = .ok (.iconst (-1), 1) := by decide +kernel
theorem dX12_nextRow_46 : decode cX12_nextRow 46 = .ok (.iastore, 1) := by decide +kernel
theorem dX12_nextRow_47 : decode cX12_nextRow 47 = .ok (.iload_n 2, 1) := by decide +kernel
theorem dX12_nextRow_48 : decode cX12_nextRow 48 = .ok (.iconst (-1), 1) := by decide +kernel
theorem dX12_nextRow_49 : decode cX12_nextRow 49 = .ok (.if_icmp .ne 7, 3) := by decide +kernel
theorem dX12_nextRow_52 : decode cX12_nextRow 52 = .ok (.iload_n 1, 1) := by decide +kernel
theorem dX12_nextRow_53 : decode cX12_nextRow 53 = .ok (.goto 4, 3) := by decide +kernel
theorem dX12_nextRow_56 : decode cX12_nextRow 56 = .ok (.iload_n 2, 1) := by decide +kernel
theorem dX12_nextRow_57 : decode cX12_nextRow 57 = .ok (.iconst 1, 1) := by decide +kernel
theorem dX12_nextRow_58 : decode cX12_nextRow 58 = .ok (.iadd, 1) := by decide +kernel
theorem dX12_nextRow_59 : decode cX12_nextRow 59 = .ok (.istore_n 3, 1) := by decide +kernel
theorem dX12_nextRow_60 : decode cX12_nextRow 60 = .ok (.iload_n 3, 1) := by decide +kernel
theorem dX12_nextRow_61 : decode cX12_nextRow 61 = .ok (.aload_n 0, 1) := by decide +kernel
theorem dX12_nextRow_62 : decode cX12_nextRow 62 = .ok (.getfield 85, 3) := by decide +kernel
theorem dX12_nextRow_65 : decode cX12_nextRow 65 = .ok (.if_icmp .ge 64, 3) := by decide +kernel
theorem dX12_nextRow_68 : decode cX12_nextRow 68 = .ok (.aload_n 0, 1) := by decide +kernel
theorem dX12_nextRow_69 : decode cX12_nextRow 69 = .ok (.getfield 28, 3) := by decide +kernel
theorem dX12_nextRow_72 : decode cX12_nextRow 72 = .ok (.iload_n 3, 1) := by decide +kernel
theorem dX12_nextRow_73 : decode cX12_nextRow 73 = .ok (.iaload, 1) := by decide +kernel
theorem dX12_nextRow_74 : decode cX12_nextRow 74 = .ok (.iconst (-1), 1) := by decide +kernel
theorem dX12_nextRow_75 : decode cX12_nextRow 75 = .ok (.if_icmp .ne 48, 3) := by decide +kernel
theorem dX12_nextRow_78 : decode cX12_nextRow 78 = .ok (.aload_n 0, 1) := by decide +kernel
theorem dX12_nextRow_79 : decode cX12_nextRow 79 = .ok (.getfield 22, 3) := by decide +kernel
theorem dX12_nextRow_82 : decode cX12_nextRow 82 = .ok (.iload_n 1, 1) := by decide +kernel
theorem dX12_nextRow_83 : decode cX12_nextRow 83 = .ok (.iaload, 1) := by decide +kernel
theorem dX12_nextRow_84 : decode cX12_nextRow 84 = .ok (.iconst (-1), 1) := by decide +kernel
theorem dX12_nextRow_85 : decode cX12_nextRow 85 = .ok (.if_icmp .ne 38, 3) := by decide +kernel
theorem dX12_nextRow_88 : decode cX12_nextRow 88 = .ok (.aload_n 0, 1) := by decide +kernel
theorem dX12_nextRow_89 : decode cX12_nextRow 89 = .ok (.getfield 22, 3) := by decide +kernel
theorem dX12_nextRow_92 : decode cX12_nextRow 92 = .ok (.iload_n 3, 1) := by decide +kernel
theorem dX12_nextRow_93 : decode cX12_nextRow 93 = .ok (.iaload, 1) := by decide +kernel
theorem dX12_nextRow_94 : decode cX12_nextRow 94 = .ok (.iconst (-1), 1) := by decide +kernel
theorem dX12_nextRow_95 : decode cX12_nextRow 95 = .ok (.if_icmp .ne 28, 3) := by decide +kernel
theorem dX12_nextRow_98 : decode cX12_nextRow 98 = .ok (.aload_n 0, 1) := by decide +kernel
theorem dX12_nextRow_99 : decode cX12_nextRow 99 = .ok (.iload_n 1, 1) := by decide +kernel
theorem dX12_nextRow_100 : decode cX12_nextRow 100 = .ok (.iload_n 3, 1) := by decide +kernel
theorem dX12_nextRow_101 : decode cX12_nextRow 101 = .ok (.invokevirtual 120, 3) := by decide +kernel
theorem dX12_nextRow_104 : decode cX12_nextRow 104 = .ok (.ifCond .eq 19, 3) := by decide +kernel
theorem dX12_nextRow_107 : decode cX12_nextRow 107 = .ok (.aload_n 0, 1) := by decide +kernel
theorem dX12_nextRow_108 : decode cX12_nextRow 108 = .ok (.getfield 28, 3) := by decide +kernel
theorem dX12_nextRow_111 : decode cX12_nextRow 111 = .ok (.iload_n 1, 1) := by decide +kernel
theorem dX12_nextRow_112 : decode cX12_nextRow 112 = .ok (.iload_n 3, 1) := by decide +kernel
theorem dX12_nextRow_113 : decode cX12_nextRow 113 = .ok (.iastore, 1) := by decide +kernel
theorem dX12_nextRow_114 : decode cX12_nextRow 114 = .ok (.aload_n 0, 1) := by decide +kernel
theorem dX12_nextRow_115 : decode cX12_nextRow 115 = .ok (.getfield 28, 3) := by decide +kernel
theorem dX12_nextRow_118 : decode cX12_nextRow 118 = .ok (.iload_n 3, 1) := by decide +kernel
theorem dX12_nextRow_119 : decode cX12_nextRow 119 = .ok (.iload_n 1, 1) := by decide +kernel
theorem dX12_nextRow_120 : decode cX12_nextRow 120 = .ok (.iastore, 1) := by decide +kernel
theorem dX12_nextRow_121 : decode cX12_nextRow 121 = .ok (.iconst 1, 1) := by decide +kernel
theorem dX12_nextRow_122 : decode cX12_nextRow 122 = .ok (.ireturn, 1) := by decide +kernel
theorem dX12_nextRow_123 : decode cX12_nextRow 123 = .ok (.iinc 3 1, 3) := by decide +kernel
theorem dX12_nextRow_126 : decode cX12_nextRow 126 = .ok (.goto (-66), 3) := by decide +kernel
theorem dX12_nextRow_129 : decode cX12_nextRow 129 = .ok (.iinc 1 (-1), 3) := by decide +kernel
theorem dX12_nextRow_132 : decode cX12_nextRow 132 = .ok (.goto (-125), 3) := by decide +kernel
theorem dX12_nextRow_135 : decode cX12_nextRow 135 = .ok (.iconst 0, 1) := by decide +kernel
theorem dX12_nextRow_136 : decode cX12_nextRow 136 = .ok (.ireturn, 1) := by decide +kernel
theorem dX12_likenessRow_0 : decode cX12_likenessRow 0 = .ok (.iconst 0, 1) := by decide +kernel
theorem dX12_likenessRow_1 : decode cX12_likenessRow 1 = .ok (.istore_n 1, 1) := by decide +kernel
theorem dX12_likenessRow_2 : decode cX12_likenessRow 2 = .ok (.iconst 0, 1) := by decide +kernel
theorem dX12_likenessRow_3 : decode cX12_likenessRow 3 = .ok (.istore_n 2, 1) := by decide +kernel
theorem dX12_likenessRow_4 : decode cX12_likenessRow 4 = .ok (.iload_n 2, 1) := by decide +kernel
theorem dX12_likenessRow_5 : decode cX12_likenessRow 5 = .ok (.aload_n 0, 1) := by decide +kernel
theorem dX12_likenessRow_6 : decode cX12_likenessRow 6 = .ok (.getfield 85, 3) := by decide +kernel
theorem dX12_likenessRow_9 : decode cX12_likenessRow 9 = .ok (.if_icmp .ge 37, 3) := by decide +kernel
theorem dX12_likenessRow_12 : decode cX12_likenessRow 12 = .ok (.iload_n 1, 1) := by decide +kernel
theorem dX12_likenessRow_13 : decode cX12_likenessRow 13 = .ok (.aload_n 0, 1) := by decide +kernel
theorem dX12_likenessRow_14 : decode cX12_likenessRow 14 = .ok (.getfield 28, 3) := by decide +kernel
theorem dX12_likenessRow_17 : decode cX12_likenessRow 17 = .ok (.iload_n 2, 1) := by decide +kernel
theorem dX12_likenessRow_18 : decode cX12_likenessRow 18 = .ok (.iaload, 1) := by decide +kernel
theorem dX12_likenessRow_19 : decode cX12_likenessRow 19 = .ok (.iload_n 2, 1) := by decide +kernel
theorem dX12_likenessRow_20 : decode cX12_likenessRow 20 = .ok (.if_icmp .le 17, 3) := by decide +kernel
theorem dX12_likenessRow_23 : decode cX12_likenessRow 23 = .ok (.aload_n 0, 1) := by decide +kernel
theorem dX12_likenessRow_24 : decode cX12_likenessRow 24 = .ok (.iload_n 2, 1) := by decide +kernel
theorem dX12_likenessRow_25 : decode cX12_likenessRow 25 = .ok (.aload_n 0, 1) := by decide +kernel
theorem dX12_likenessRow_26 : decode cX12_likenessRow 26 = .ok (.getfield 28, 3) := by decide +kernel
theorem dX12_likenessRow_29 : decode cX12_likenessRow 29 = .ok (.iload_n 2, 1) := by decide +kernel
theorem dX12_likenessRow_30 : decode cX12_likenessRow 30 = .ok (.iaload, 1) := by decide +kernel
theorem dX12_likenessRow_31 : decode cX12_likenessRow 31 = .ok (.invokevirtual 126, 3) := by decide +kernel
theorem dX12_likenessRow_34 : decode cX12_likenessRow 34 = .ok (.goto 4, 3) := by decide +kernel
theorem dX12_likenessRow_37 : decode cX12_likenessRow 37 = .ok (.iconst 0, 1) := by decide +kernel
theorem dX12_likenessRow_38 : decode cX12_likenessRow 38 = .ok (.iadd, 1) := by decide +kernel
theorem dX12_likenessRow_39 : decode cX12_likenessRow 39 = .ok (.istore_n 1, 1) := by decide +kernel
theorem dX12_likenessRow_40 : decode cX12_likenessRow 40 = .ok (.iinc 2 1, 3) := by decide +kernel
theorem dX12_likenessRow_43 : decode cX12_likenessRow 43 = .ok (.goto (-39), 3) := by decide +kernel
theorem dX12_likenessRow_46 : decode cX12_likenessRow 46 = .ok (.iload_n 1, 1) := by decide +kernel
theorem dX12_likenessRow_47 : decode cX12_likenessRow 47 = .ok (.ireturn, 1) := by decide +kernel
theorem dX12_milesRow_0 : decode cX12_milesRow 0 = .ok (.iconst 0, 1) := by decide +kernel
theorem dX12_milesRow_1 : decode cX12_milesRow 1 = .ok (.istore_n 1, 1) := by decide +kernel
theorem dX12_milesRow_2 : decode cX12_milesRow 2 = .ok (.iconst 0, 1) := by decide +kernel
theorem dX12_milesRow_3 : decode cX12_milesRow 3 = .ok (.istore_n 2, 1) := by decide +kernel
theorem dX12_milesRow_4 : decode cX12_milesRow 4 = .ok (.iload_n 2, 1) := by decide +kernel
theorem dX12_milesRow_5 : decode cX12_milesRow 5 = .ok (.aload_n 0, 1) := by decide +kernel
theorem dX12_milesRow_6 : decode cX12_milesRow 6 = .ok (.getfield 85, 3) := by decide +kernel
theorem dX12_milesRow_9 : decode cX12_milesRow 9 = .ok (.if_icmp .ge 46, 3) := by decide +kernel
theorem dX12_milesRow_12 : decode cX12_milesRow 12 = .ok (.iload_n 1, 1) := by decide +kernel
theorem dX12_milesRow_13 : decode cX12_milesRow 13 = .ok (.aload_n 0, 1) := by decide +kernel
theorem dX12_milesRow_14 : decode cX12_milesRow 14 = .ok (.getfield 28, 3) := by decide +kernel
theorem dX12_milesRow_17 : decode cX12_milesRow 17 = .ok (.iload_n 2, 1) := by decide +kernel
theorem dX12_milesRow_18 : decode cX12_milesRow 18 = .ok (.iaload, 1) := by decide +kernel
theorem dX12_milesRow_19 : decode cX12_milesRow 19 = .ok (.iload_n 2, 1) := by decide +kernel
theorem dX12_milesRow_20 : decode cX12_milesRow 20 = .ok (.if_icmp .le 26, 3) := by decide +kernel
theorem dX12_milesRow_23 : decode cX12_milesRow 23 = .ok (.aload_n 0, 1) := by decide +kernel
theorem dX12_milesRow_24 : decode cX12_milesRow 24 = .ok (.getfield 19, 3) := by decide +kernel
theorem dX12_milesRow_27 : decode cX12_milesRow 27 = .ok (.iload_n 2, 1) := by decide +kernel
theorem dX12_milesRow_28 : decode cX12_milesRow 28 = .ok (.iaload, 1) := by decide +kernel
theorem dX12_milesRow_29 : decode cX12_milesRow 29 = .ok (.aload_n 0, 1) := by decide +kernel
theorem dX12_milesRow_30 : decode cX12_milesRow 30 = .ok (.getfield 19, 3) := by decide +kernel
theorem dX12_milesRow_33 : decode cX12_milesRow 33 = .ok (.aload_n 0, 1) := by decide +kernel
theorem dX12_milesRow_34 : decode cX12_milesRow 34 = .ok (.getfield 28, 3) := by decide +kernel
theorem dX12_milesRow_37 : decode cX12_milesRow 37 = .ok (.iload_n 2, 1) := by decide +kernel
theorem dX12_milesRow_38 : decode cX12_milesRow 38 = .ok (.iaload, 1) := by decide +kernel
theorem dX12_milesRow_39 : decode cX12_milesRow 39 = .ok (.iaload, 1) := by decide +kernel
theorem dX12_milesRow_40 : decode cX12_milesRow 40 = .ok (.invokestatic 116, 3) := by decide +kernel
theorem dX12_milesRow_43 : decode cX12_milesRow 43 = .ok (.goto 4, 3) := by decide +kernel
theorem dX12_milesRow_46 : decode cX12_milesRow 46 = .ok (.iconst 0, 1) := by decide +kernel
theorem dX12_milesRow_47 : decode cX12_milesRow 47 = .ok (.iadd, 1) := by decide +kernel
theorem dX12_milesRow_48 : decode cX12_milesRow 48 = .ok (.istore_n 1, 1) := by decide +kernel
theorem dX12_milesRow_49 : decode cX12_milesRow 49 = .ok (.iinc 2 1, 3) := by decide +kernel
theorem dX12_milesRow_52 : decode cX12_milesRow 52 = .ok (.goto (-48), 3) := by decide +kernel
theorem dX12_milesRow_55 : decode cX12_milesRow 55 = .ok (.iload_n 1, 1) := by decide +kernel
theorem dX12_milesRow_56 : decode cX12_milesRow 56 = .ok (.ireturn, 1) := by decide +kernel
theorem dX12_mostOf_0 : decode cX12_mostOf 0 = .ok (.aload_n 0, 1) := by decide +kernel
theorem dX12_mostOf_1 : decode cX12_mostOf 1 = .ok (.invokevirtual 175, 3) := by decide +kernel
theorem dX12_mostOf_4 : decode cX12_mostOf 4 = .ok (.iconst 0, 1) := by decide +kernel
theorem dX12_mostOf_5 : decode cX12_mostOf 5 = .ok (.istore_n 2, 1) := by decide +kernel
theorem dX12_mostOf_6 : decode cX12_mostOf 6 = .ok (.iconst 0, 1) := by decide +kernel
theorem dX12_mostOf_7 : decode cX12_mostOf 7 = .ok (.istore_n 3, 1) := by decide +kernel
theorem dX12_mostOf_8 : decode cX12_mostOf 8 = .ok (.aload_n 0, 1) := by decide +kernel
theorem dX12_mostOf_9 : decode cX12_mostOf 9 = .ok (.invokevirtual 178, 3) := by decide +kernel
theorem dX12_mostOf_12 : decode cX12_mostOf 12 = .ok (.ifCond .eq 57, 3) := by decide +kernel
theorem dX12_mostOf_15 : decode cX12_mostOf 15 = .ok (.aload_n 0, 1) := by decide +kernel
theorem dX12_mostOf_16 : decode cX12_mostOf 16 = .ok (.aload_n 0, 1) := by decide +kernel
theorem dX12_mostOf_17 : decode cX12_mostOf 17 = .ok (.getfield 28, 3) := by decide +kernel
theorem dX12_mostOf_20 : decode cX12_mostOf 20 = .ok (.invokevirtual 171, 3) := by decide +kernel
theorem dX12_mostOf_23 : decode cX12_mostOf 23 = .ok (.istore 4, 2) := by decide +kernel
theorem dX12_mostOf_25 : decode cX12_mostOf 25 = .ok (.aload_n 0, 1) := by decide +kernel
theorem dX12_mostOf_26 : decode cX12_mostOf 26 = .ok (.invokevirtual 181, 3) := by decide +kernel
theorem dX12_mostOf_29 : decode cX12_mostOf 29 = .ok (.istore 5, 2) := by decide +kernel
theorem dX12_mostOf_31 : decode cX12_mostOf 31 = .ok (.iload 4, 2) := by decide +kernel
theorem dX12_mostOf_33 : decode cX12_mostOf 33 = .ok (.iload_n 2, 1) := by decide +kernel
theorem dX12_mostOf_34 : decode cX12_mostOf 34 = .ok (.if_icmp .gt 15, 3) := by decide +kernel
theorem dX12_mostOf_37 : decode cX12_mostOf 37 = .ok (.iload 4, 2) := by decide +kernel
theorem dX12_mostOf_39 : decode cX12_mostOf 39 = .ok (.iload_n 2, 1) := by decide +kernel
theorem dX12_mostOf_40 : decode cX12_mostOf 40 = .ok (.if_icmp .ne 26, 3) := by decide +kernel
theorem dX12_mostOf_43 : decode cX12_mostOf 43 = .ok (.iload 5, 2) := by decide +kernel
theorem dX12_mostOf_45 : decode cX12_mostOf 45 = .ok (.iload_n 3, 1) := by decide +kernel
theorem dX12_mostOf_46 : decode cX12_mostOf 46 = .ok (.if_icmp .le 20, 3) := by decide +kernel
theorem dX12_mostOf_49 : decode cX12_mostOf 49 = .ok (.iload 4, 2) := by decide +kernel
theorem dX12_mostOf_51 : decode cX12_mostOf 51 = .ok (.istore_n 2, 1) := by decide +kernel
theorem dX12_mostOf_52 : decode cX12_mostOf 52 = .ok (.iload 5, 2) := by decide +kernel
theorem dX12_mostOf_54 : decode cX12_mostOf 54 = .ok (.istore_n 3, 1) := by decide +kernel
theorem dX12_mostOf_55 : decode cX12_mostOf 55 = .ok (.aload_n 0, 1) := by decide +kernel
theorem dX12_mostOf_56 : decode cX12_mostOf 56 = .ok (.getfield 28, 3) := by decide +kernel
theorem dX12_mostOf_59 : decode cX12_mostOf 59 = .ok (.aload_n 0, 1) := by decide +kernel
theorem dX12_mostOf_60 : decode cX12_mostOf 60 = .ok (.getfield 31, 3) := by decide +kernel
theorem dX12_mostOf_63 : decode cX12_mostOf 63 = .ok (.invokestatic 167, 3) := by decide +kernel
theorem dX12_mostOf_66 : decode cX12_mostOf 66 = .ok (.goto (-58), 3) := by decide +kernel
theorem dX12_mostOf_69 : decode cX12_mostOf 69 = .ok (.iload_n 1, 1) := by decide +kernel
theorem dX12_mostOf_70 : decode cX12_mostOf 70 = .ok (.ifCond .ne 7, 3) := by decide +kernel
theorem dX12_mostOf_73 : decode cX12_mostOf 73 = .ok (.iload_n 2, 1) := by decide +kernel
theorem dX12_mostOf_74 : decode cX12_mostOf 74 = .ok (.goto 21, 3) := by decide +kernel
theorem dX12_mostOf_77 : decode cX12_mostOf 77 = .ok (.iload_n 1, 1) := by decide +kernel
theorem dX12_mostOf_78 : decode cX12_mostOf 78 = .ok (.iconst 1, 1) := by decide +kernel
theorem dX12_mostOf_79 : decode cX12_mostOf 79 = .ok (.if_icmp .ne 7, 3) := by decide +kernel
theorem dX12_mostOf_82 : decode cX12_mostOf 82 = .ok (.iload_n 3, 1) := by decide +kernel
theorem dX12_mostOf_83 : decode cX12_mostOf 83 = .ok (.goto 12, 3) := by decide +kernel
theorem dX12_mostOf_86 : decode cX12_mostOf 86 = .ok (.aload_n 0, 1) := by decide +kernel
theorem dX12_mostOf_87 : decode cX12_mostOf 87 = .ok (.getfield 31, 3) := by decide +kernel
theorem dX12_mostOf_90 : decode cX12_mostOf 90 = .ok (.iload_n 1, 1) := by decide +kernel
theorem dX12_mostOf_91 : decode cX12_mostOf 91 = .ok (.bipush 10, 2) := by decide +kernel
theorem dX12_mostOf_93 : decode cX12_mostOf 93 = .ok (.isub, 1) := by decide +kernel
theorem dX12_mostOf_94 : decode cX12_mostOf 94 = .ok (.iaload, 1) := by decide +kernel
theorem dX12_mostOf_95 : decode cX12_mostOf 95 = .ok (.ireturn, 1) := by decide +kernel
theorem dX12_isRowWhat_0 : decode cX12_isRowWhat 0 = .ok (.iload_n 0, 1) := by decide +kernel
theorem dX12_isRowWhat_1 : decode cX12_isRowWhat 1 = .ok (.i2l, 1) := by decide +kernel
theorem dX12_isRowWhat_2 : decode cX12_isRowWhat 2 = .ok (.lconst 0, 1) := by decide +kernel
theorem dX12_isRowWhat_3 : decode cX12_isRowWhat 3 = .ok (.lconst 1, 1) := by decide +kernel
theorem dX12_isRowWhat_4 : decode cX12_isRowWhat 4 = .ok (.invokestatic 58, 3) := by decide +kernel
theorem dX12_isRowWhat_7 : decode cX12_isRowWhat 7 = .ok (.ifCond .ne 17, 3) := by decide +kernel
theorem dX12_isRowWhat_10 : decode cX12_isRowWhat 10 = .ok (.iload_n 0, 1) := by decide +kernel
theorem dX12_isRowWhat_11 : decode cX12_isRowWhat 11 = .ok (.i2l, 1) := by decide +kernel
theorem dX12_isRowWhat_12 : decode cX12_isRowWhat 12 = .ok (.ldc2_w 184, 3) := by decide +kernel
theorem dX12_isRowWhat_15 : decode cX12_isRowWhat 15 = .ok (.ldc2_w 186, 3) := by decide +kernel
theorem dX12_isRowWhat_18 : decode cX12_isRowWhat 18 = .ok (.invokestatic 58, 3) := by decide +kernel
theorem dX12_isRowWhat_21 : decode cX12_isRowWhat 21 = .ok (.ifCond .eq 7, 3) := by decide +kernel
theorem dX12_isRowWhat_24 : decode cX12_isRowWhat 24 = .ok (.iconst 1, 1) := by decide +kernel
theorem dX12_isRowWhat_25 : decode cX12_isRowWhat 25 = .ok (.goto 4, 3) := by decide +kernel
theorem dX12_isRowWhat_28 : decode cX12_isRowWhat 28 = .ok (.iconst 0, 1) := by decide +kernel
theorem dX12_isRowWhat_29 : decode cX12_isRowWhat 29 = .ok (.ireturn, 1) := by decide +kernel
theorem dX12_most_0 : decode cX12_most 0 = .ok (.iload_n 1, 1) := by decide +kernel
theorem dX12_most_1 : decode cX12_most 1 = .ok (.invokestatic 188, 3) := by decide +kernel
theorem dX12_most_4 : decode cX12_most 4 = .ok (.ifCond .ne 6, 3) := by decide +kernel
theorem dX12_most_7 : decode cX12_most 7 = .ok (.bipush (-102), 2) := by decide +kernel
theorem dX12_most_9 : decode cX12_most 9 = .ok (.ireturn, 1) := by decide +kernel
theorem dX12_most_10 : decode cX12_most 10 = .ok (.aload_n 0, 1) := by decide +kernel
theorem dX12_most_11 : decode cX12_most 11 = .ok (.invokevirtual 163, 3) := by decide +kernel
theorem dX12_most_14 : decode cX12_most 14 = .ok (.ifCond .eq 8, 3) := by decide +kernel
theorem dX12_most_17 : decode cX12_most 17 = .ok (.bipush (-103), 2) := by decide +kernel
theorem dX12_most_19 : decode cX12_most 19 = .ok (.goto 8, 3) := by decide +kernel
theorem dX12_most_22 : decode cX12_most 22 = .ok (.aload_n 0, 1) := by decide +kernel
theorem dX12_most_23 : decode cX12_most 23 = .ok (.iload_n 1, 1) := by decide +kernel
theorem dX12_most_24 : decode cX12_most 24 = .ok (.invokevirtual 191, 3) := by decide +kernel
theorem dX12_most_27 : decode cX12_most 27 = .ok (.ireturn, 1) := by decide +kernel
theorem dX12_bestOf_0 : decode cX12_bestOf 0 = .ok (.aload_n 0, 1) := by decide +kernel
theorem dX12_bestOf_1 : decode cX12_bestOf 1 = .ok (.invokevirtual 175, 3) := by decide +kernel
theorem dX12_bestOf_4 : decode cX12_bestOf 4 = .ok (.iconst 0, 1) := by decide +kernel
theorem dX12_bestOf_5 : decode cX12_bestOf 5 = .ok (.istore_n 3, 1) := by decide +kernel
theorem dX12_bestOf_6 : decode cX12_bestOf 6 = .ok (.iconst 0, 1) := by decide +kernel
theorem dX12_bestOf_7 : decode cX12_bestOf 7 = .ok (.istore 4, 2) := by decide +kernel
theorem dX12_bestOf_9 : decode cX12_bestOf 9 = .ok (.aload_n 0, 1) := by decide +kernel
theorem dX12_bestOf_10 : decode cX12_bestOf 10 = .ok (.invokevirtual 178, 3) := by decide +kernel
theorem dX12_bestOf_13 : decode cX12_bestOf 13 = .ok (.ifCond .eq 61, 3) := by decide +kernel
theorem dX12_bestOf_16 : decode cX12_bestOf 16 = .ok (.aload_n 0, 1) := by decide +kernel
theorem dX12_bestOf_17 : decode cX12_bestOf 17 = .ok (.invokevirtual 181, 3) := by decide +kernel
theorem dX12_bestOf_20 : decode cX12_bestOf 20 = .ok (.istore 5, 2) := by decide +kernel
theorem dX12_bestOf_22 : decode cX12_bestOf 22 = .ok (.aload_n 0, 1) := by decide +kernel
theorem dX12_bestOf_23 : decode cX12_bestOf 23 = .ok (.invokevirtual 194, 3) := by decide +kernel
theorem dX12_bestOf_26 : decode cX12_bestOf 26 = .ok (.istore 6, 2) := by decide +kernel
theorem dX12_bestOf_28 : decode cX12_bestOf 28 = .ok (.iload 6, 2) := by decide +kernel
theorem dX12_bestOf_30 : decode cX12_bestOf 30 = .ok (.iload_n 1, 1) := by decide +kernel
theorem dX12_bestOf_31 : decode cX12_bestOf 31 = .ok (.if_icmp .gt 40, 3) := by decide +kernel
theorem dX12_bestOf_34 : decode cX12_bestOf 34 = .ok (.iload 5, 2) := by decide +kernel
theorem dX12_bestOf_36 : decode cX12_bestOf 36 = .ok (.iload_n 3, 1) := by decide +kernel
theorem dX12_bestOf_37 : decode cX12_bestOf 37 = .ok (.if_icmp .gt 16, 3) := by decide +kernel
theorem dX12_bestOf_40 : decode cX12_bestOf 40 = .ok (.iload 5, 2) := by decide +kernel
theorem dX12_bestOf_42 : decode cX12_bestOf 42 = .ok (.iload_n 3, 1) := by decide +kernel
theorem dX12_bestOf_43 : decode cX12_bestOf 43 = .ok (.if_icmp .ne 28, 3) := by decide +kernel
theorem dX12_bestOf_46 : decode cX12_bestOf 46 = .ok (.iload 6, 2) := by decide +kernel
theorem dX12_bestOf_48 : decode cX12_bestOf 48 = .ok (.iload 4, 2) := by decide +kernel
theorem dX12_bestOf_50 : decode cX12_bestOf 50 = .ok (.if_icmp .ge 21, 3) := by decide +kernel
theorem dX12_bestOf_53 : decode cX12_bestOf 53 = .ok (.iload 5, 2) := by decide +kernel
theorem dX12_bestOf_55 : decode cX12_bestOf 55 = .ok (.istore_n 3, 1) := by decide +kernel
theorem dX12_bestOf_56 : decode cX12_bestOf 56 = .ok (.iload 6, 2) := by decide +kernel
theorem dX12_bestOf_58 : decode cX12_bestOf 58 = .ok (.istore 4, 2) := by decide +kernel
theorem dX12_bestOf_60 : decode cX12_bestOf 60 = .ok (.aload_n 0, 1) := by decide +kernel
theorem dX12_bestOf_61 : decode cX12_bestOf 61 = .ok (.getfield 28, 3) := by decide +kernel
theorem dX12_bestOf_64 : decode cX12_bestOf 64 = .ok (.aload_n 0, 1) := by decide +kernel
theorem dX12_bestOf_65 : decode cX12_bestOf 65 = .ok (.getfield 31, 3) := by decide +kernel
theorem dX12_bestOf_68 : decode cX12_bestOf 68 = .ok (.invokestatic 167, 3) := by decide +kernel
theorem dX12_bestOf_71 : decode cX12_bestOf 71 = .ok (.goto (-62), 3) := by decide +kernel
theorem dX12_bestOf_74 : decode cX12_bestOf 74 = .ok (.iload_n 2, 1) := by decide +kernel
theorem dX12_bestOf_75 : decode cX12_bestOf 75 = .ok (.ifCond .ne 7, 3) := by decide +kernel
theorem dX12_bestOf_78 : decode cX12_bestOf 78 = .ok (.iload_n 3, 1) := by decide +kernel
theorem dX12_bestOf_79 : decode cX12_bestOf 79 = .ok (.goto 22, 3) := by decide +kernel
theorem dX12_bestOf_82 : decode cX12_bestOf 82 = .ok (.iload_n 2, 1) := by decide +kernel
theorem dX12_bestOf_83 : decode cX12_bestOf 83 = .ok (.iconst 1, 1) := by decide +kernel
theorem dX12_bestOf_84 : decode cX12_bestOf 84 = .ok (.if_icmp .ne 8, 3) := by decide +kernel
theorem dX12_bestOf_87 : decode cX12_bestOf 87 = .ok (.iload 4, 2) := by decide +kernel
theorem dX12_bestOf_89 : decode cX12_bestOf 89 = .ok (.goto 12, 3) := by decide +kernel
theorem dX12_bestOf_92 : decode cX12_bestOf 92 = .ok (.aload_n 0, 1) := by decide +kernel
theorem dX12_bestOf_93 : decode cX12_bestOf 93 = .ok (.getfield 31, 3) := by decide +kernel
theorem dX12_bestOf_96 : decode cX12_bestOf 96 = .ok (.iload_n 2, 1) := by decide +kernel
theorem dX12_bestOf_97 : decode cX12_bestOf 97 = .ok (.bipush 10, 2) := by decide +kernel
theorem dX12_bestOf_99 : decode cX12_bestOf 99 = .ok (.isub, 1) := by decide +kernel
theorem dX12_bestOf_100 : decode cX12_bestOf 100 = .ok (.iaload, 1) := by decide +kernel
theorem dX12_bestOf_101 : decode cX12_bestOf 101 = .ok (.ireturn, 1) := by decide +kernel
theorem dX12_best_0 : decode cX12_best 0 = .ok (.iload_n 1, 1) := by decide +kernel
theorem dX12_best_1 : decode cX12_best 1 = .ok (.i2l, 1) := by decide +kernel
theorem dX12_best_2 : decode cX12_best 2 = .ok (.lconst 0, 1) := by decide +kernel
theorem dX12_best_3 : decode cX12_best 3 = .ok (.ldc2_w 197, 3) := by decide +kernel
theorem dX12_best_6 : decode cX12_best 6 = .ok (.invokestatic 58, 3) := by decide +kernel
theorem dX12_best_9 : decode cX12_best 9 = .ok (.ifCond .eq 10, 3) := by decide +kernel
theorem dX12_best_12 : decode cX12_best 12 = .ok (.iload_n 2, 1) := by decide +kernel
theorem dX12_best_13 : decode cX12_best 13 = .ok (.invokestatic 188, 3) := by decide +kernel
theorem dX12_best_16 : decode cX12_best 16 = .ok (.ifCond .ne 6, 3) := by decide +kernel
theorem dX12_best_19 : decode cX12_best 19 = .ok (.bipush (-102), 2) := by decide +kernel
theorem dX12_best_21 : decode cX12_best 21 = .ok (.ireturn, 1) := by decide +kernel
theorem dX12_best_22 : decode cX12_best 22 = .ok (.aload_n 0, 1) := by decide +kernel
theorem dX12_best_23 : decode cX12_best 23 = .ok (.invokevirtual 163, 3) := by decide +kernel
theorem dX12_best_26 : decode cX12_best 26 = .ok (.ifCond .eq 8, 3) := by decide +kernel
theorem dX12_best_29 : decode cX12_best 29 = .ok (.bipush (-103), 2) := by decide +kernel
theorem dX12_best_31 : decode cX12_best 31 = .ok (.goto 9, 3) := by decide +kernel
theorem dX12_best_34 : decode cX12_best 34 = .ok (.aload_n 0, 1) := by decide +kernel
theorem dX12_best_35 : decode cX12_best 35 = .ok (.iload_n 1, 1) := by decide +kernel
theorem dX12_best_36 : decode cX12_best 36 = .ok (.iload_n 2, 1) := by decide +kernel
theorem dX12_best_37 : decode cX12_best 37 = .ok (.invokevirtual 199, 3) := by decide +kernel
theorem dX12_best_40 : decode cX12_best 40 = .ok (.ireturn, 1) := by decide +kernel
theorem dX12_isStable_0 : decode cX12_isStable 0 = .ok (.iconst 1, 1) := by decide +kernel
theorem dX12_isStable_1 : decode cX12_isStable 1 = .ok (.istore_n 1, 1) := by decide +kernel
theorem dX12_isStable_2 : decode cX12_isStable 2 = .ok (.iconst 0, 1) := by decide +kernel
theorem dX12_isStable_3 : decode cX12_isStable 3 = .ok (.istore_n 2, 1) := by decide +kernel
theorem dX12_isStable_4 : decode cX12_isStable 4 = .ok (.iload_n 2, 1) := by decide +kernel
theorem dX12_isStable_5 : decode cX12_isStable 5 = .ok (.aload_n 0, 1) := by decide +kernel
theorem dX12_isStable_6 : decode cX12_isStable 6 = .ok (.getfield 85, 3) := by decide +kernel
theorem dX12_isStable_9 : decode cX12_isStable 9 = .ok (.if_icmp .ge 130, 3) := by decide +kernel
theorem dX12_isStable_12 : decode cX12_isStable 12 = .ok (.iload_n 2, 1) := by decide +kernel
theorem dX12_isStable_13 : decode cX12_isStable 13 = .ok (.iconst 1, 1) := by decide +kernel
theorem dX12_isStable_14 : decode cX12_isStable 14 = .ok (.iadd, 1) := by decide +kernel
theorem dX12_isStable_15 : decode cX12_isStable 15 = .ok (.istore_n 3, 1) := by decide +kernel
theorem dX12_isStable_16 : decode cX12_isStable 16 = .ok (.iload_n 3, 1) := by decide +kernel
theorem dX12_isStable_17 : decode cX12_isStable 17 = .ok (.aload_n 0, 1) := by decide +kernel
theorem dX12_isStable_18 : decode cX12_isStable 18 = .ok (.getfield 85, 3) := by decide +kernel
theorem dX12_isStable_21 : decode cX12_isStable 21 = .ok (.if_icmp .ge 112, 3) := by decide +kernel
theorem dX12_isStable_24 : decode cX12_isStable 24 = .ok (.aload_n 0, 1) := by decide +kernel
theorem dX12_isStable_25 : decode cX12_isStable 25 = .ok (.getfield 22, 3) := by decide +kernel
theorem dX12_isStable_28 : decode cX12_isStable 28 = .ok (.iload_n 2, 1) := by decide +kernel
theorem dX12_isStable_29 : decode cX12_isStable 29 = .ok (.iaload, 1) := by decide +kernel
theorem dX12_isStable_30 : decode cX12_isStable 30 = .ok (.iconst (-1), 1) := by decide +kernel
theorem dX12_isStable_31 : decode cX12_isStable 31 = .ok (.if_icmp .ne 17, 3) := by decide +kernel
theorem dX12_isStable_34 : decode cX12_isStable 34 = .ok (.aload_n 0, 1) := by decide +kernel
theorem dX12_isStable_35 : decode cX12_isStable 35 = .ok (.getfield 22, 3) := by decide +kernel
theorem dX12_isStable_38 : decode cX12_isStable 38 = .ok (.iload_n 3, 1) := by decide +kernel
theorem dX12_isStable_39 : decode cX12_isStable 39 = .ok (.iaload, 1) := by decide +kernel
theorem dX12_isStable_40 : decode cX12_isStable 40 = .ok (.iconst (-1), 1) := by decide +kernel
theorem dX12_isStable_41 : decode cX12_isStable 41 = .ok (.if_icmp .ne 7, 3) := by decide +kernel
theorem dX12_isStable_44 : decode cX12_isStable 44 = .ok (.iconst 1, 1) := by decide +kernel
theorem dX12_isStable_45 : decode cX12_isStable 45 = .ok (.goto 4, 3) := by decide +kernel
theorem dX12_isStable_48 : decode cX12_isStable 48 = .ok (.iconst 0, 1) := by decide +kernel
theorem dX12_isStable_49 : decode cX12_isStable 49 = .ok (.istore 4, 2) := by decide +kernel
theorem dX12_isStable_51 : decode cX12_isStable 51 = .ok (.iload 4, 2) := by decide +kernel
theorem dX12_isStable_53 : decode cX12_isStable 53 = .ok (.ifCond .eq 56, 3) := by decide +kernel
theorem dX12_isStable_56 : decode cX12_isStable 56 = .ok (.aload_n 0, 1) := by decide +kernel
theorem dX12_isStable_57 : decode cX12_isStable 57 = .ok (.iload_n 2, 1) := by decide +kernel
theorem dX12_isStable_58 : decode cX12_isStable 58 = .ok (.iload_n 3, 1) := by decide +kernel
theorem dX12_isStable_59 : decode cX12_isStable 59 = .ok (.invokevirtual 120, 3) := by decide +kernel
theorem dX12_isStable_62 : decode cX12_isStable 62 = .ok (.ifCond .eq 47, 3) := by decide +kernel
theorem dX12_isStable_65 : decode cX12_isStable 65 = .ok (.aload_n 0, 1) := by decide +kernel
theorem dX12_isStable_66 : decode cX12_isStable 66 = .ok (.getfield 28, 3) := by decide +kernel
theorem dX12_isStable_69 : decode cX12_isStable 69 = .ok (.iload_n 2, 1) := by decide +kernel
theorem dX12_isStable_70 : decode cX12_isStable 70 = .ok (.iaload, 1) := by decide +kernel
theorem dX12_isStable_71 : decode cX12_isStable 71 = .ok (.iload_n 3, 1) := by decide +kernel
theorem dX12_isStable_72 : decode cX12_isStable 72 = .ok (.if_icmp .eq 37, 3) := by decide +kernel
theorem dX12_isStable_75 : decode cX12_isStable 75 = .ok (.aload_n 0, 1) := by decide +kernel
theorem dX12_isStable_76 : decode cX12_isStable 76 = .ok (.iload_n 2, 1) := by decide +kernel
theorem dX12_isStable_77 : decode cX12_isStable 77 = .ok (.iload_n 3, 1) := by decide +kernel
theorem dX12_isStable_78 : decode cX12_isStable 78 = .ok (.aload_n 0, 1) := by decide +kernel
theorem dX12_isStable_79 : decode cX12_isStable 79 = .ok (.getfield 28, 3) := by decide +kernel
theorem dX12_isStable_82 : decode cX12_isStable 82 = .ok (.iload_n 2, 1) := by decide +kernel
theorem dX12_isStable_83 : decode cX12_isStable 83 = .ok (.iaload, 1) := by decide +kernel
theorem dX12_isStable_84 : decode cX12_isStable 84 = .ok (.invokevirtual 129, 3) := by decide +kernel
theorem dX12_isStable_87 : decode cX12_isStable 87 = .ok (.ifCond .eq 22, 3) := by decide +kernel
theorem dX12_isStable_90 : decode cX12_isStable 90 = .ok (.aload_n 0, 1) := by decide +kernel
theorem dX12_isStable_91 : decode cX12_isStable 91 = .ok (.iload_n 3, 1) := by decide +kernel
theorem dX12_isStable_92 : decode cX12_isStable 92 = .ok (.iload_n 2, 1) := by decide +kernel
theorem dX12_isStable_93 : decode cX12_isStable 93 = .ok (.aload_n 0, 1) := by decide +kernel
theorem dX12_isStable_94 : decode cX12_isStable 94 = .ok (.getfield 28, 3) := by decide +kernel
theorem dX12_isStable_97 : decode cX12_isStable 97 = .ok (.iload_n 3, 1) := by decide +kernel
theorem dX12_isStable_98 : decode cX12_isStable 98 = .ok (.iaload, 1) := by decide +kernel
theorem dX12_isStable_99 : decode cX12_isStable 99 = .ok (.invokevirtual 129, 3) := by decide +kernel
theorem dX12_isStable_102 : decode cX12_isStable 102 = .ok (.ifCond .eq 7, 3) := by decide +kernel
theorem dX12_isStable_105 : decode cX12_isStable 105 = .ok (.iconst 1, 1) := by decide +kernel
theorem dX12_isStable_106 : decode cX12_isStable 106 = .ok (.goto 4, 3) := by decide +kernel
theorem dX12_isStable_109 : decode cX12_isStable 109 = .ok (.iconst 0, 1) := by decide +kernel
theorem dX12_isStable_110 : decode cX12_isStable 110 = .ok (.istore 5, 2) := by decide +kernel
theorem dX12_isStable_112 : decode cX12_isStable 112 = .ok (.iload_n 1, 1) := by decide +kernel
theorem dX12_isStable_113 : decode cX12_isStable 113 = .ok (.ifCond .eq 12, 3) := by decide +kernel
theorem dX12_isStable_116 : decode cX12_isStable 116 = .ok (.iload 5, 2) := by decide +kernel
theorem dX12_isStable_118 : decode cX12_isStable 118 = .ok (.ifCond .ne 7, 3) := by decide +kernel
theorem dX12_isStable_121 : decode cX12_isStable 121 = .ok (.iconst 1, 1) := by decide +kernel
theorem dX12_isStable_122 : decode cX12_isStable 122 = .ok (.goto 4, 3) := by decide +kernel
theorem dX12_isStable_125 : decode cX12_isStable 125 = .ok (.iconst 0, 1) := by decide +kernel
theorem dX12_isStable_126 : decode cX12_isStable 126 = .ok (.istore_n 1, 1) := by decide +kernel
theorem dX12_isStable_127 : decode cX12_isStable 127 = .ok (.iinc 3 1, 3) := by decide +kernel
theorem dX12_isStable_130 : decode cX12_isStable 130 = .ok (.goto (-114), 3) := by decide +kernel
theorem dX12_isStable_133 : decode cX12_isStable 133 = .ok (.iinc 2 1, 3) := by decide +kernel
theorem dX12_isStable_136 : decode cX12_isStable 136 = .ok (.goto (-132), 3) := by decide +kernel
theorem dX12_isStable_139 : decode cX12_isStable 139 = .ok (.iload_n 1, 1) := by decide +kernel
theorem dX12_isStable_140 : decode cX12_isStable 140 = .ok (.ireturn, 1) := by decide +kernel
theorem dX12_stableOf_0 : decode cX12_stableOf 0 = .ok (.aload_n 0, 1) := by decide +kernel
theorem dX12_stableOf_1 : decode cX12_stableOf 1 = .ok (.invokevirtual 175, 3) := by decide +kernel
theorem dX12_stableOf_4 : decode cX12_stableOf 4 = .ok (.iconst 0, 1) := by decide +kernel
theorem dX12_stableOf_5 : decode cX12_stableOf 5 = .ok (.istore_n 2, 1) := by decide +kernel
theorem dX12_stableOf_6 : decode cX12_stableOf 6 = .ok (.iconst (-1), 1) := by decide +kernel
theorem dX12_stableOf_7 : decode cX12_stableOf 7 = .ok (.istore_n 3, 1) := by decide +kernel
theorem dX12_stableOf_8 : decode cX12_stableOf 8 = .ok (.iconst 1, 1) := by decide +kernel
theorem dX12_stableOf_9 : decode cX12_stableOf 9 = .ok (.istore 4, 2) := by decide +kernel
theorem dX12_stableOf_11 : decode cX12_stableOf 11 = .ok (.iload 4, 2) := by decide +kernel
theorem dX12_stableOf_13 : decode cX12_stableOf 13 = .ok (.ifCond .eq 61, 3) := by decide +kernel
theorem dX12_stableOf_16 : decode cX12_stableOf 16 = .ok (.aload_n 0, 1) := by decide +kernel
theorem dX12_stableOf_17 : decode cX12_stableOf 17 = .ok (.invokevirtual 202, 3) := by decide +kernel
theorem dX12_stableOf_20 : decode cX12_stableOf 20 = .ok (.istore 5, 2) := by decide +kernel
theorem dX12_stableOf_22 : decode cX12_stableOf 22 = .ok (.iload_n 2, 1) := by decide +kernel
theorem dX12_stableOf_23 : decode cX12_stableOf 23 = .ok (.iload 5, 2) := by decide +kernel
theorem dX12_stableOf_25 : decode cX12_stableOf 25 = .ok (.ifCond .eq 7, 3) := by decide +kernel
theorem dX12_stableOf_28 : decode cX12_stableOf 28 = .ok (.iconst 1, 1) := by decide +kernel
theorem dX12_stableOf_29 : decode cX12_stableOf 29 = .ok (.goto 4, 3) := by decide +kernel
theorem dX12_stableOf_32 : decode cX12_stableOf 32 = .ok (.iconst 0, 1) := by decide +kernel
theorem dX12_stableOf_33 : decode cX12_stableOf 33 = .ok (.iadd, 1) := by decide +kernel
theorem dX12_stableOf_34 : decode cX12_stableOf 34 = .ok (.istore_n 2, 1) := by decide +kernel
theorem dX12_stableOf_35 : decode cX12_stableOf 35 = .ok (.iload 5, 2) := by decide +kernel
theorem dX12_stableOf_37 : decode cX12_stableOf 37 = .ok (.ifCond .eq 28, 3) := by decide +kernel
theorem dX12_stableOf_40 : decode cX12_stableOf 40 = .ok (.iload_n 2, 1) := by decide +kernel
theorem dX12_stableOf_41 : decode cX12_stableOf 41 = .ok (.iconst 1, 1) := by decide +kernel
theorem dX12_stableOf_42 : decode cX12_stableOf 42 = .ok (.if_icmp .ne 23, 3) := by decide +kernel
theorem dX12_stableOf_45 : decode cX12_stableOf 45 = .ok (.aload_n 0, 1) := by decide +kernel
theorem dX12_stableOf_46 : decode cX12_stableOf 46 = .ok (.getfield 28, 3) := by decide +kernel
theorem dX12_stableOf_49 : decode cX12_stableOf 49 = .ok (.aload_n 0, 1) := by decide +kernel
theorem dX12_stableOf_50 : decode cX12_stableOf 50 = .ok (.getfield 31, 3) := by decide +kernel
theorem dX12_stableOf_53 : decode cX12_stableOf 53 = .ok (.invokestatic 167, 3) := by decide +kernel
theorem dX12_stableOf_56 : decode cX12_stableOf 56 = .ok (.aload_n 0, 1) := by decide +kernel
theorem dX12_stableOf_57 : decode cX12_stableOf 57 = .ok (.aload_n 0, 1) := by decide +kernel
theorem dX12_stableOf_58 : decode cX12_stableOf 58 = .ok (.getfield 28, 3) := by decide +kernel
theorem dX12_stableOf_61 : decode cX12_stableOf 61 = .ok (.invokevirtual 171, 3) := by decide +kernel
theorem dX12_stableOf_64 : decode cX12_stableOf 64 = .ok (.istore_n 3, 1) := by decide +kernel
theorem dX12_stableOf_65 : decode cX12_stableOf 65 = .ok (.aload_n 0, 1) := by decide +kernel
theorem dX12_stableOf_66 : decode cX12_stableOf 66 = .ok (.invokevirtual 178, 3) := by decide +kernel
theorem dX12_stableOf_69 : decode cX12_stableOf 69 = .ok (.istore 4, 2) := by decide +kernel
theorem dX12_stableOf_71 : decode cX12_stableOf 71 = .ok (.goto (-60), 3) := by decide +kernel
theorem dX12_stableOf_74 : decode cX12_stableOf 74 = .ok (.iload_n 1, 1) := by decide +kernel
theorem dX12_stableOf_75 : decode cX12_stableOf 75 = .ok (.ifCond .ne 7, 3) := by decide +kernel
theorem dX12_stableOf_78 : decode cX12_stableOf 78 = .ok (.iload_n 2, 1) := by decide +kernel
theorem dX12_stableOf_79 : decode cX12_stableOf 79 = .ok (.goto 21, 3) := by decide +kernel
theorem dX12_stableOf_82 : decode cX12_stableOf 82 = .ok (.iload_n 1, 1) := by decide +kernel
theorem dX12_stableOf_83 : decode cX12_stableOf 83 = .ok (.iconst 1, 1) := by decide +kernel
theorem dX12_stableOf_84 : decode cX12_stableOf 84 = .ok (.if_icmp .ne 7, 3) := by decide +kernel
theorem dX12_stableOf_87 : decode cX12_stableOf 87 = .ok (.iload_n 3, 1) := by decide +kernel
theorem dX12_stableOf_88 : decode cX12_stableOf 88 = .ok (.goto 12, 3) := by decide +kernel
theorem dX12_stableOf_91 : decode cX12_stableOf 91 = .ok (.aload_n 0, 1) := by decide +kernel
theorem dX12_stableOf_92 : decode cX12_stableOf 92 = .ok (.getfield 31, 3) := by decide +kernel
theorem dX12_stableOf_95 : decode cX12_stableOf 95 = .ok (.iload_n 1, 1) := by decide +kernel
theorem dX12_stableOf_96 : decode cX12_stableOf 96 = .ok (.bipush 10, 2) := by decide +kernel
theorem dX12_stableOf_98 : decode cX12_stableOf 98 = .ok (.isub, 1) := by decide +kernel
theorem dX12_stableOf_99 : decode cX12_stableOf 99 = .ok (.iaload, 1) := by decide +kernel
theorem dX12_stableOf_100 : decode cX12_stableOf 100 = .ok (.ireturn, 1) := by decide +kernel
theorem dX12_stable_0 : decode cX12_stable 0 = .ok (.iload_n 1, 1) := by decide +kernel
theorem dX12_stable_1 : decode cX12_stable 1 = .ok (.invokestatic 188, 3) := by decide +kernel
theorem dX12_stable_4 : decode cX12_stable 4 = .ok (.ifCond .ne 6, 3) := by decide +kernel
theorem dX12_stable_7 : decode cX12_stable 7 = .ok (.bipush (-102), 2) := by decide +kernel
theorem dX12_stable_9 : decode cX12_stable 9 = .ok (.ireturn, 1) := by decide +kernel
theorem dX12_stable_10 : decode cX12_stable 10 = .ok (.aload_n 0, 1) := by decide +kernel
theorem dX12_stable_11 : decode cX12_stable 11 = .ok (.invokevirtual 163, 3) := by decide +kernel
theorem dX12_stable_14 : decode cX12_stable 14 = .ok (.ifCond .eq 8, 3) := by decide +kernel
theorem dX12_stable_17 : decode cX12_stable 17 = .ok (.bipush (-103), 2) := by decide +kernel
theorem dX12_stable_19 : decode cX12_stable 19 = .ok (.goto 8, 3) := by decide +kernel
theorem dX12_stable_22 : decode cX12_stable 22 = .ok (.aload_n 0, 1) := by decide +kernel
theorem dX12_stable_23 : decode cX12_stable 23 = .ok (.iload_n 1, 1) := by decide +kernel
theorem dX12_stable_24 : decode cX12_stable 24 = .ok (.invokevirtual 205, 3) := by decide +kernel
theorem dX12_stable_27 : decode cX12_stable 27 = .ok (.ireturn, 1) := by decide +kernel
theorem dX12_happy_0 : decode cX12_happy 0 = .ok (.aload_n 0, 1) := by decide +kernel
theorem dX12_happy_1 : decode cX12_happy 1 = .ok (.iload_n 1, 1) := by decide +kernel
theorem dX12_happy_2 : decode cX12_happy 2 = .ok (.invokevirtual 106, 3) := by decide +kernel
theorem dX12_happy_5 : decode cX12_happy 5 = .ok (.ifCond .ne 6, 3) := by decide +kernel
theorem dX12_happy_8 : decode cX12_happy 8 = .ok (.bipush (-101), 2) := by decide +kernel
theorem dX12_happy_10 : decode cX12_happy 10 = .ok (.ireturn, 1) := by decide +kernel
theorem dX12_happy_11 : decode cX12_happy 11 = .ok (.aload_n 0, 1) := by decide +kernel
theorem dX12_happy_12 : decode cX12_happy 12 = .ok (.getfield 22, 3) := by decide +kernel
theorem dX12_happy_15 : decode cX12_happy 15 = .ok (.iload_n 1, 1) := by decide +kernel
theorem dX12_happy_16 : decode cX12_happy 16 = .ok (.iaload, 1) := by decide +kernel
theorem dX12_happy_17 : decode cX12_happy 17 = .ok (.istore_n 2, 1) := by decide +kernel
theorem dX12_happy_18 : decode cX12_happy 18 = .ok (.iload_n 2, 1) := by decide +kernel
theorem dX12_happy_19 : decode cX12_happy 19 = .ok (.iconst (-1), 1) := by decide +kernel
theorem dX12_happy_20 : decode cX12_happy 20 = .ok (.if_icmp .ne 6, 3) := by decide +kernel
theorem dX12_happy_23 : decode cX12_happy 23 = .ok (.bipush (-103), 2) := by decide +kernel
theorem dX12_happy_25 : decode cX12_happy 25 = .ok (.ireturn, 1) := by decide +kernel
theorem dX12_happy_26 : decode cX12_happy 26 = .ok (.aload_n 0, 1) := by decide +kernel
theorem dX12_happy_27 : decode cX12_happy 27 = .ok (.iload_n 1, 1) := by decide +kernel
theorem dX12_happy_28 : decode cX12_happy 28 = .ok (.invokevirtual 139, 3) := by decide +kernel
theorem dX12_happy_31 : decode cX12_happy 31 = .ok (.iload_n 2, 1) := by decide +kernel
theorem dX12_happy_32 : decode cX12_happy 32 = .ok (.if_icmp .ne 16, 3) := by decide +kernel
theorem dX12_happy_35 : decode cX12_happy 35 = .ok (.aload_n 0, 1) := by decide +kernel
theorem dX12_happy_36 : decode cX12_happy 36 = .ok (.iload_n 2, 1) := by decide +kernel
theorem dX12_happy_37 : decode cX12_happy 37 = .ok (.invokevirtual 139, 3) := by decide +kernel
theorem dX12_happy_40 : decode cX12_happy 40 = .ok (.iload_n 1, 1) := by decide +kernel
theorem dX12_happy_41 : decode cX12_happy 41 = .ok (.if_icmp .ne 7, 3) := by decide +kernel
theorem dX12_happy_44 : decode cX12_happy 44 = .ok (.iconst 1, 1) := by decide +kernel
theorem dX12_happy_45 : decode cX12_happy 45 = .ok (.goto 4, 3) := by decide +kernel
theorem dX12_happy_48 : decode cX12_happy 48 = .ok (.iconst 0, 1) := by decide +kernel
theorem dX12_happy_49 : decode cX12_happy 49 = .ok (.ireturn, 1) := by decide +kernel
theorem dX12_roundOf_0 : decode cX12_roundOf 0 = .ok (.iload_n 1, 1) := by decide +kernel
theorem dX12_roundOf_1 : decode cX12_roundOf 1 = .ok (.istore_n 2, 1) := by decide +kernel
theorem dX12_roundOf_2 : decode cX12_roundOf 2 = .ok (.iload_n 1, 1) := by decide +kernel
theorem dX12_roundOf_3 : decode cX12_roundOf 3 = .ok (.istore_n 3, 1) := by decide +kernel
theorem dX12_roundOf_4 : decode cX12_roundOf 4 = .ok (.iconst 0, 1) := by decide +kernel
theorem dX12_roundOf_5 : decode cX12_roundOf 5 = .ok (.istore 4, 2) := by decide +kernel
theorem dX12_roundOf_7 : decode cX12_roundOf 7 = .ok (.iload 4, 2) := by decide +kernel
theorem dX12_roundOf_9 : decode cX12_roundOf 9 = .ok (.aload_n 0, 1) := by decide +kernel
theorem dX12_roundOf_10 : decode cX12_roundOf 10 = .ok (.getfield 85, 3) := by decide +kernel
theorem dX12_roundOf_13 : decode cX12_roundOf 13 = .ok (.if_icmp .ge 83, 3) := by decide +kernel
theorem dX12_roundOf_16 : decode cX12_roundOf 16 = .ok (.aload_n 0, 1) := by decide +kernel
theorem dX12_roundOf_17 : decode cX12_roundOf 17 = .ok (.getfield 22, 3) := by decide +kernel
theorem dX12_roundOf_20 : decode cX12_roundOf 20 = .ok (.iload 4, 2) := by decide +kernel
theorem dX12_roundOf_22 : decode cX12_roundOf 22 = .ok (.iaload, 1) := by decide +kernel
theorem dX12_roundOf_23 : decode cX12_roundOf 23 = .ok (.iconst (-1), 1) := by decide +kernel
theorem dX12_roundOf_24 : decode cX12_roundOf 24 = .ok (.if_icmp .ne 7, 3) := by decide +kernel
theorem dX12_roundOf_27 : decode cX12_roundOf 27 = .ok (.iconst 1, 1) := by decide +kernel
theorem dX12_roundOf_28 : decode cX12_roundOf 28 = .ok (.goto 4, 3) := by decide +kernel
theorem dX12_roundOf_31 : decode cX12_roundOf 31 = .ok (.iconst 0, 1) := by decide +kernel
theorem dX12_roundOf_32 : decode cX12_roundOf 32 = .ok (.istore 5, 2) := by decide +kernel
theorem dX12_roundOf_34 : decode cX12_roundOf 34 = .ok (.iload 5, 2) := by decide +kernel
theorem dX12_roundOf_36 : decode cX12_roundOf 36 = .ok (.ifCond .eq 24, 3) := by decide +kernel
theorem dX12_roundOf_39 : decode cX12_roundOf 39 = .ok (.aload_n 0, 1) := by decide +kernel
theorem dX12_roundOf_40 : decode cX12_roundOf 40 = .ok (.getfield 19, 3) := by decide +kernel
theorem dX12_roundOf_43 : decode cX12_roundOf 43 = .ok (.iload 4, 2) := by decide +kernel
theorem dX12_roundOf_45 : decode cX12_roundOf 45 = .ok (.iaload, 1) := by decide +kernel
theorem dX12_roundOf_46 : decode cX12_roundOf 46 = .ok (.iload_n 2, 1) := by decide +kernel
theorem dX12_roundOf_47 : decode cX12_roundOf 47 = .ok (.if_icmp .ge 13, 3) := by decide +kernel
theorem dX12_roundOf_50 : decode cX12_roundOf 50 = .ok (.aload_n 0, 1) := by decide +kernel
theorem dX12_roundOf_51 : decode cX12_roundOf 51 = .ok (.getfield 19, 3) := by decide +kernel
theorem dX12_roundOf_54 : decode cX12_roundOf 54 = .ok (.iload 4, 2) := by decide +kernel
theorem dX12_roundOf_56 : decode cX12_roundOf 56 = .ok (.iaload, 1) := by decide +kernel
theorem dX12_roundOf_57 : decode cX12_roundOf 57 = .ok (.goto 4, 3) := by decide +kernel
theorem dX12_roundOf_60 : decode cX12_roundOf 60 = .ok (.iload_n 2, 1) := by decide +kernel
theorem dX12_roundOf_61 : decode cX12_roundOf 61 = .ok (.istore_n 2, 1) := by decide +kernel
theorem dX12_roundOf_62 : decode cX12_roundOf 62 = .ok (.iload 5, 2) := by decide +kernel
theorem dX12_roundOf_64 : decode cX12_roundOf 64 = .ok (.ifCond .eq 24, 3) := by decide +kernel
theorem dX12_roundOf_67 : decode cX12_roundOf 67 = .ok (.aload_n 0, 1) := by decide +kernel
theorem dX12_roundOf_68 : decode cX12_roundOf 68 = .ok (.getfield 19, 3) := by decide +kernel
theorem dX12_roundOf_71 : decode cX12_roundOf 71 = .ok (.iload 4, 2) := by decide +kernel
theorem dX12_roundOf_73 : decode cX12_roundOf 73 = .ok (.iaload, 1) := by decide +kernel
theorem dX12_roundOf_74 : decode cX12_roundOf 74 = .ok (.iload_n 3, 1) := by decide +kernel
theorem dX12_roundOf_75 : decode cX12_roundOf 75 = .ok (.if_icmp .le 13, 3) := by decide +kernel
theorem dX12_roundOf_78 : decode cX12_roundOf 78 = .ok (.aload_n 0, 1) := by decide +kernel
theorem dX12_roundOf_79 : decode cX12_roundOf 79 = .ok (.getfield 19, 3) := by decide +kernel
theorem dX12_roundOf_82 : decode cX12_roundOf 82 = .ok (.iload 4, 2) := by decide +kernel
theorem dX12_roundOf_84 : decode cX12_roundOf 84 = .ok (.iaload, 1) := by decide +kernel
theorem dX12_roundOf_85 : decode cX12_roundOf 85 = .ok (.goto 4, 3) := by decide +kernel
theorem dX12_roundOf_88 : decode cX12_roundOf 88 = .ok (.iload_n 3, 1) := by decide +kernel
theorem dX12_roundOf_89 : decode cX12_roundOf 89 = .ok (.istore_n 3, 1) := by decide +kernel
theorem dX12_roundOf_90 : decode cX12_roundOf 90 = .ok (.iinc 4 1, 3) := by decide +kernel
theorem dX12_roundOf_93 : decode cX12_roundOf 93 = .ok (.goto (-86), 3) := by decide +kernel
theorem dX12_roundOf_96 : decode cX12_roundOf 96 = .ok (.iload_n 1, 1) := by decide +kernel
theorem dX12_roundOf_97 : decode cX12_roundOf 97 = .ok (.iload_n 2, 1) := by decide +kernel
theorem dX12_roundOf_98 : decode cX12_roundOf 98 = .ok (.isub, 1) := by decide +kernel
theorem dX12_roundOf_99 : decode cX12_roundOf 99 = .ok (.iload_n 3, 1) := by decide +kernel
theorem dX12_roundOf_100 : decode cX12_roundOf 100 = .ok (.iload_n 1, 1) := by decide +kernel
theorem dX12_roundOf_101 : decode cX12_roundOf 101 = .ok (.isub, 1) := by decide +kernel
theorem dX12_roundOf_102 : decode cX12_roundOf 102 = .ok (.if_icmp .ge 9, 3) := by decide +kernel
theorem dX12_roundOf_105 : decode cX12_roundOf 105 = .ok (.iload_n 1, 1) := by decide +kernel
theorem dX12_roundOf_106 : decode cX12_roundOf 106 = .ok (.iload_n 2, 1) := by decide +kernel
theorem dX12_roundOf_107 : decode cX12_roundOf 107 = .ok (.isub, 1) := by decide +kernel
theorem dX12_roundOf_108 : decode cX12_roundOf 108 = .ok (.goto 6, 3) := by decide +kernel
theorem dX12_roundOf_111 : decode cX12_roundOf 111 = .ok (.iload_n 3, 1) := by decide +kernel
theorem dX12_roundOf_112 : decode cX12_roundOf 112 = .ok (.iload_n 1, 1) := by decide +kernel
theorem dX12_roundOf_113 : decode cX12_roundOf 113 = .ok (.isub, 1) := by decide +kernel
theorem dX12_roundOf_114 : decode cX12_roundOf 114 = .ok (.istore 4, 2) := by decide +kernel
theorem dX12_roundOf_116 : decode cX12_roundOf 116 = .ok (.iload_n 3, 1) := by decide +kernel
theorem dX12_roundOf_117 : decode cX12_roundOf 117 = .ok (.iload_n 2, 1) := by decide +kernel
theorem dX12_roundOf_118 : decode cX12_roundOf 118 = .ok (.isub, 1) := by decide +kernel
theorem dX12_roundOf_119 : decode cX12_roundOf 119 = .ok (.iload 4, 2) := by decide +kernel
theorem dX12_roundOf_121 : decode cX12_roundOf 121 = .ok (.iadd, 1) := by decide +kernel
theorem dX12_roundOf_122 : decode cX12_roundOf 122 = .ok (.ireturn, 1) := by decide +kernel
theorem dX12_round_0 : decode cX12_round 0 = .ok (.aload_n 0, 1) := by decide +kernel
theorem dX12_round_1 : decode cX12_round 1 = .ok (.invokevirtual 163, 3) := by decide +kernel
theorem dX12_round_4 : decode cX12_round 4 = .ok (.ifCond .ne 23, 3) := by decide +kernel
theorem dX12_round_7 : decode cX12_round 7 = .ok (.iload_n 1, 1) := by decide +kernel
theorem dX12_round_8 : decode cX12_round 8 = .ok (.i2l, 1) := by decide +kernel
theorem dX12_round_9 : decode cX12_round 9 = .ok (.lconst 0, 1) := by decide +kernel
theorem dX12_round_10 : decode cX12_round 10 = .ok (.ldc2_w 159, 3) := by decide +kernel
theorem dX12_round_13 : decode cX12_round 13 = .ok (.invokestatic 58, 3) := by decide +kernel
theorem dX12_round_16 : decode cX12_round 16 = .ok (.ifCond .eq 11, 3) := by decide +kernel
theorem dX12_round_19 : decode cX12_round 19 = .ok (.aload_n 0, 1) := by decide +kernel
theorem dX12_round_20 : decode cX12_round 20 = .ok (.iload_n 1, 1) := by decide +kernel
theorem dX12_round_21 : decode cX12_round 21 = .ok (.invokevirtual 208, 3) := by decide +kernel
theorem dX12_round_24 : decode cX12_round 24 = .ok (.goto 5, 3) := by decide +kernel
theorem dX12_round_27 : decode cX12_round 27 = .ok (.bipush (-101), 2) := by decide +kernel
theorem dX12_round_29 : decode cX12_round 29 = .ok (.ireturn, 1) := by decide +kernel
theorem dX12_oddsOf_0 : decode cX12_oddsOf 0 = .ok (.iconst 0, 1) := by decide +kernel
theorem dX12_oddsOf_1 : decode cX12_oddsOf 1 = .ok (.istore_n 2, 1) := by decide +kernel
theorem dX12_oddsOf_2 : decode cX12_oddsOf 2 = .ok (.iconst 0, 1) := by decide +kernel
theorem dX12_oddsOf_3 : decode cX12_oddsOf 3 = .ok (.istore_n 3, 1) := by decide +kernel
theorem dX12_oddsOf_4 : decode cX12_oddsOf 4 = .ok (.iconst 0, 1) := by decide +kernel
theorem dX12_oddsOf_5 : decode cX12_oddsOf 5 = .ok (.istore 4, 2) := by decide +kernel
theorem dX12_oddsOf_7 : decode cX12_oddsOf 7 = .ok (.iload 4, 2) := by decide +kernel
theorem dX12_oddsOf_9 : decode cX12_oddsOf 9 = .ok (.aload_n 0, 1) := by decide +kernel
theorem dX12_oddsOf_10 : decode cX12_oddsOf 10 = .ok (.getfield 85, 3) := by decide +kernel
theorem dX12_oddsOf_13 : decode cX12_oddsOf 13 = .ok (.if_icmp .ge 96, 3) := by decide +kernel
theorem dX12_oddsOf_16 : decode cX12_oddsOf 16 = .ok (.iload 4, 2) := by decide +kernel
theorem dX12_oddsOf_18 : decode cX12_oddsOf 18 = .ok (.iconst 1, 1) := by decide +kernel
theorem dX12_oddsOf_19 : decode cX12_oddsOf 19 = .ok (.iadd, 1) := by decide +kernel
theorem dX12_oddsOf_20 : decode cX12_oddsOf 20 = .ok (.istore 5, 2) := by decide +kernel
theorem dX12_oddsOf_22 : decode cX12_oddsOf 22 = .ok (.iload 5, 2) := by decide +kernel
theorem dX12_oddsOf_24 : decode cX12_oddsOf 24 = .ok (.aload_n 0, 1) := by decide +kernel
theorem dX12_oddsOf_25 : decode cX12_oddsOf 25 = .ok (.getfield 85, 3) := by decide +kernel
theorem dX12_oddsOf_28 : decode cX12_oddsOf 28 = .ok (.if_icmp .ge 75, 3) := by decide +kernel
theorem dX12_oddsOf_31 : decode cX12_oddsOf 31 = .ok (.aload_n 0, 1) := by decide +kernel
theorem dX12_oddsOf_32 : decode cX12_oddsOf 32 = .ok (.getfield 22, 3) := by decide +kernel
theorem dX12_oddsOf_35 : decode cX12_oddsOf 35 = .ok (.iload 4, 2) := by decide +kernel
theorem dX12_oddsOf_37 : decode cX12_oddsOf 37 = .ok (.iaload, 1) := by decide +kernel
theorem dX12_oddsOf_38 : decode cX12_oddsOf 38 = .ok (.iconst (-1), 1) := by decide +kernel
theorem dX12_oddsOf_39 : decode cX12_oddsOf 39 = .ok (.if_icmp .ne 18, 3) := by decide +kernel
theorem dX12_oddsOf_42 : decode cX12_oddsOf 42 = .ok (.aload_n 0, 1) := by decide +kernel
theorem dX12_oddsOf_43 : decode cX12_oddsOf 43 = .ok (.getfield 22, 3) := by decide +kernel
theorem dX12_oddsOf_46 : decode cX12_oddsOf 46 = .ok (.iload 5, 2) := by decide +kernel
theorem dX12_oddsOf_48 : decode cX12_oddsOf 48 = .ok (.iaload, 1) := by decide +kernel
theorem dX12_oddsOf_49 : decode cX12_oddsOf 49 = .ok (.iconst (-1), 1) := by decide +kernel
theorem dX12_oddsOf_50 : decode cX12_oddsOf 50 = .ok (.if_icmp .ne 7, 3) := by decide +kernel
theorem dX12_oddsOf_53 : decode cX12_oddsOf 53 = .ok (.iconst 1, 1) := by decide +kernel
theorem dX12_oddsOf_54 : decode cX12_oddsOf 54 = .ok (.goto 4, 3) := by decide +kernel
theorem dX12_oddsOf_57 : decode cX12_oddsOf 57 = .ok (.iconst 0, 1) := by decide +kernel
theorem dX12_oddsOf_58 : decode cX12_oddsOf 58 = .ok (.istore 6, 2) := by decide +kernel
theorem dX12_oddsOf_60 : decode cX12_oddsOf 60 = .ok (.iload_n 3, 1) := by decide +kernel
theorem dX12_oddsOf_61 : decode cX12_oddsOf 61 = .ok (.iload 6, 2) := by decide +kernel
theorem dX12_oddsOf_63 : decode cX12_oddsOf 63 = .ok (.ifCond .eq 7, 3) := by decide +kernel
theorem dX12_oddsOf_66 : decode cX12_oddsOf 66 = .ok (.iconst 1, 1) := by decide +kernel
theorem dX12_oddsOf_67 : decode cX12_oddsOf 67 = .ok (.goto 4, 3) := by decide +kernel
theorem dX12_oddsOf_70 : decode cX12_oddsOf 70 = .ok (.iconst 0, 1) := by decide +kernel
theorem dX12_oddsOf_71 : decode cX12_oddsOf 71 = .ok (.iadd, 1) := by decide +kernel
theorem dX12_oddsOf_72 : decode cX12_oddsOf 72 = .ok (.istore_n 3, 1) := by decide +kernel
theorem dX12_oddsOf_73 : decode cX12_oddsOf 73 = .ok (.iload_n 2, 1) := by decide +kernel
theorem dX12_oddsOf_74 : decode cX12_oddsOf 74 = .ok (.iload 6, 2) := by decide +kernel
theorem dX12_oddsOf_76 : decode cX12_oddsOf 76 = .ok (.ifCond .eq 18, 3) := by decide +kernel
theorem dX12_oddsOf_79 : decode cX12_oddsOf 79 = .ok (.aload_n 0, 1) := by decide +kernel
theorem dX12_oddsOf_80 : decode cX12_oddsOf 80 = .ok (.iload 4, 2) := by decide +kernel
theorem dX12_oddsOf_82 : decode cX12_oddsOf 82 = .ok (.iload 5, 2) := by decide +kernel
theorem dX12_oddsOf_84 : decode cX12_oddsOf 84 = .ok (.invokevirtual 120, 3) := by decide +kernel
theorem dX12_oddsOf_87 : decode cX12_oddsOf 87 = .ok (.ifCond .eq 7, 3) := by decide +kernel
theorem dX12_oddsOf_90 : decode cX12_oddsOf 90 = .ok (.iconst 1, 1) := by decide +kernel
theorem dX12_oddsOf_91 : decode cX12_oddsOf 91 = .ok (.goto 4, 3) := by decide +kernel
theorem dX12_oddsOf_94 : decode cX12_oddsOf 94 = .ok (.iconst 0, 1) := by decide +kernel
theorem dX12_oddsOf_95 : decode cX12_oddsOf 95 = .ok (.iadd, 1) := by decide +kernel
theorem dX12_oddsOf_96 : decode cX12_oddsOf 96 = .ok (.istore_n 2, 1) := by decide +kernel
theorem dX12_oddsOf_97 : decode cX12_oddsOf 97 = .ok (.iinc 5 1, 3) := by decide +kernel
theorem dX12_oddsOf_100 : decode cX12_oddsOf 100 = .ok (.goto (-78), 3) := by decide +kernel
theorem dX12_oddsOf_103 : decode cX12_oddsOf 103 = .ok (.iinc 4 1, 3) := by decide +kernel
theorem dX12_oddsOf_106 : decode cX12_oddsOf 106 = .ok (.goto (-99), 3) := by decide +kernel
theorem dX12_oddsOf_109 : decode cX12_oddsOf 109 = .ok (.iload_n 3, 1) := by decide +kernel
theorem dX12_oddsOf_110 : decode cX12_oddsOf 110 = .ok (.ifCond .ne 7, 3) := by decide +kernel
theorem dX12_oddsOf_113 : decode cX12_oddsOf 113 = .ok (.iconst 1, 1) := by decide +kernel
theorem dX12_oddsOf_114 : decode cX12_oddsOf 114 = .ok (.goto 4, 3) := by decide +kernel
theorem dX12_oddsOf_117 : decode cX12_oddsOf 117 = .ok (.iload_n 3, 1) := by decide +kernel
theorem dX12_oddsOf_118 : decode cX12_oddsOf 118 = .ok (.istore 4, 2) := by decide +kernel
theorem dX12_oddsOf_120 : decode cX12_oddsOf 120 = .ok (.iload 4, 2) := by decide +kernel
theorem dX12_oddsOf_122 : decode cX12_oddsOf 122 = .ok (.iload_n 2, 1) := by decide +kernel
theorem dX12_oddsOf_123 : decode cX12_oddsOf 123 = .ok (.invokestatic 211, 3) := by decide +kernel
theorem dX12_oddsOf_126 : decode cX12_oddsOf 126 = .ok (.istore 5, 2) := by decide +kernel
theorem dX12_oddsOf_128 : decode cX12_oddsOf 128 = .ok (.iload_n 1, 1) := by decide +kernel
theorem dX12_oddsOf_129 : decode cX12_oddsOf 129 = .ok (.ifCond .ne 10, 3) := by decide +kernel
theorem dX12_oddsOf_132 : decode cX12_oddsOf 132 = .ok (.iload_n 2, 1) := by decide +kernel
theorem dX12_oddsOf_133 : decode cX12_oddsOf 133 = .ok (.iload 5, 2) := by decide +kernel
theorem dX12_oddsOf_135 : decode cX12_oddsOf 135 = .ok (.idiv, 1) := by decide +kernel
theorem dX12_oddsOf_136 : decode cX12_oddsOf 136 = .ok (.goto 8, 3) := by decide +kernel
theorem dX12_oddsOf_139 : decode cX12_oddsOf 139 = .ok (.iload 4, 2) := by decide +kernel
theorem dX12_oddsOf_141 : decode cX12_oddsOf 141 = .ok (.iload 5, 2) := by decide +kernel
theorem dX12_oddsOf_143 : decode cX12_oddsOf 143 = .ok (.idiv, 1) := by decide +kernel
theorem dX12_oddsOf_144 : decode cX12_oddsOf 144 = .ok (.ireturn, 1) := by decide +kernel
theorem dX12_odds_0 : decode cX12_odds 0 = .ok (.iload_n 1, 1) := by decide +kernel
theorem dX12_odds_1 : decode cX12_odds 1 = .ok (.i2l, 1) := by decide +kernel
theorem dX12_odds_2 : decode cX12_odds 2 = .ok (.lconst 0, 1) := by decide +kernel
theorem dX12_odds_3 : decode cX12_odds 3 = .ok (.lconst 1, 1) := by decide +kernel
theorem dX12_odds_4 : decode cX12_odds 4 = .ok (.invokestatic 58, 3) := by decide +kernel
theorem dX12_odds_7 : decode cX12_odds 7 = .ok (.ifCond .ne 6, 3) := by decide +kernel
theorem dX12_odds_10 : decode cX12_odds 10 = .ok (.bipush (-102), 2) := by decide +kernel
theorem dX12_odds_12 : decode cX12_odds 12 = .ok (.ireturn, 1) := by decide +kernel
theorem dX12_odds_13 : decode cX12_odds 13 = .ok (.aload_n 0, 1) := by decide +kernel
theorem dX12_odds_14 : decode cX12_odds 14 = .ok (.invokevirtual 163, 3) := by decide +kernel
theorem dX12_odds_17 : decode cX12_odds 17 = .ok (.ifCond .eq 8, 3) := by decide +kernel
theorem dX12_odds_20 : decode cX12_odds 20 = .ok (.bipush (-103), 2) := by decide +kernel
theorem dX12_odds_22 : decode cX12_odds 22 = .ok (.goto 8, 3) := by decide +kernel
theorem dX12_odds_25 : decode cX12_odds 25 = .ok (.aload_n 0, 1) := by decide +kernel
theorem dX12_odds_26 : decode cX12_odds 26 = .ok (.iload_n 1, 1) := by decide +kernel
theorem dX12_odds_27 : decode cX12_odds 27 = .ok (.invokevirtual 214, 3) := by decide +kernel
theorem dX12_odds_30 : decode cX12_odds 30 = .ok (.ireturn, 1) := by decide +kernel
theorem dX12_see_0 : decode cX12_see 0 = .ok (.aload_n 0, 1) := by decide +kernel
theorem dX12_see_1 : decode cX12_see 1 = .ok (.iload_n 1, 1) := by decide +kernel
theorem dX12_see_2 : decode cX12_see 2 = .ok (.iload_n 2, 1) := by decide +kernel
theorem dX12_see_3 : decode cX12_see 3 = .ok (.invokevirtual 156, 3) := by decide +kernel
theorem dX12_see_6 : decode cX12_see 6 = .ok (.ifCond .ne 6, 3) := by decide +kernel
theorem dX12_see_9 : decode cX12_see 9 = .ok (.bipush (-101), 2) := by decide +kernel
theorem dX12_see_11 : decode cX12_see 11 = .ok (.ireturn, 1) := by decide +kernel
theorem dX12_see_12 : decode cX12_see 12 = .ok (.iload_n 3, 1) := by decide +kernel
theorem dX12_see_13 : decode cX12_see 13 = .ok (.i2l, 1) := by decide +kernel
theorem dX12_see_14 : decode cX12_see 14 = .ok (.ldc2_w 217, 3) := by decide +kernel
theorem dX12_see_17 : decode cX12_see 17 = .ok (.ldc2_w 219, 3) := by decide +kernel
theorem dX12_see_20 : decode cX12_see 20 = .ok (.invokestatic 58, 3) := by decide +kernel
theorem dX12_see_23 : decode cX12_see 23 = .ok (.ifCond .ne 6, 3) := by decide +kernel
theorem dX12_see_26 : decode cX12_see 26 = .ok (.bipush (-102), 2) := by decide +kernel
theorem dX12_see_28 : decode cX12_see 28 = .ok (.ireturn, 1) := by decide +kernel
theorem dX12_see_29 : decode cX12_see 29 = .ok (.aload_n 0, 1) := by decide +kernel
theorem dX12_see_30 : decode cX12_see 30 = .ok (.getfield 100, 3) := by decide +kernel
theorem dX12_see_33 : decode cX12_see 33 = .ok (.bipush 8, 2) := by decide +kernel
theorem dX12_see_35 : decode cX12_see 35 = .ok (.if_icmp .ne 6, 3) := by decide +kernel
theorem dX12_see_38 : decode cX12_see 38 = .ok (.bipush (-104), 2) := by decide +kernel
theorem dX12_see_40 : decode cX12_see 40 = .ok (.ireturn, 1) := by decide +kernel
theorem dX12_see_41 : decode cX12_see 41 = .ok (.aload_n 0, 1) := by decide +kernel
theorem dX12_see_42 : decode cX12_see 42 = .ok (.getfield 34, 3) := by decide +kernel
theorem dX12_see_45 : decode cX12_see 45 = .ok (.iconst 3, 1) := by decide +kernel
theorem dX12_see_46 : decode cX12_see 46 = .ok (.aload_n 0, 1) := by decide +kernel
theorem dX12_see_47 : decode cX12_see 47 = .ok (.getfield 100, 3) := by decide +kernel
theorem dX12_see_50 : decode cX12_see 50 = .ok (.imul, 1) := by decide +kernel
theorem dX12_see_51 : decode cX12_see 51 = .ok (.iload_n 1, 1) := by decide +kernel
theorem dX12_see_52 : decode cX12_see 52 = .ok (.iastore, 1) := by decide +kernel
theorem dX12_see_53 : decode cX12_see 53 = .ok (.aload_n 0, 1) := by decide +kernel
theorem dX12_see_54 : decode cX12_see 54 = .ok (.getfield 34, 3) := by decide +kernel
theorem dX12_see_57 : decode cX12_see 57 = .ok (.iconst 3, 1) := by decide +kernel
theorem dX12_see_58 : decode cX12_see 58 = .ok (.aload_n 0, 1) := by decide +kernel
theorem dX12_see_59 : decode cX12_see 59 = .ok (.getfield 100, 3) := by decide +kernel
theorem dX12_see_62 : decode cX12_see 62 = .ok (.imul, 1) := by decide +kernel
theorem dX12_see_63 : decode cX12_see 63 = .ok (.iconst 1, 1) := by decide +kernel
theorem dX12_see_64 : decode cX12_see 64 = .ok (.iadd, 1) := by decide +kernel
theorem dX12_see_65 : decode cX12_see 65 = .ok (.iload_n 2, 1) := by decide +kernel
theorem dX12_see_66 : decode cX12_see 66 = .ok (.iastore, 1) := by decide +kernel
theorem dX12_see_67 : decode cX12_see 67 = .ok (.aload_n 0, 1) := by decide +kernel
theorem dX12_see_68 : decode cX12_see 68 = .ok (.getfield 34, 3) := by decide +kernel
theorem dX12_see_71 : decode cX12_see 71 = .ok (.iconst 3, 1) := by decide +kernel
theorem dX12_see_72 : decode cX12_see 72 = .ok (.aload_n 0, 1) := by decide +kernel
theorem dX12_see_73 : decode cX12_see 73 = .ok (.getfield 100, 3) := by decide +kernel
theorem dX12_see_76 : decode cX12_see 76 = .ok (.imul, 1) := by decide +kernel
theorem dX12_see_77 : decode cX12_see 77 = .ok (.iconst 2, 1) := by decide +kernel
theorem dX12_see_78 : decode cX12_see 78 = .ok (.iadd, 1) := by decide +kernel
theorem dX12_see_79 : decode cX12_see 79 = .ok (.iload_n 3, 1) := by decide +kernel
theorem dX12_see_80 : decode cX12_see 80 = .ok (.iastore, 1) := by decide +kernel
theorem dX12_see_81 : decode cX12_see 81 = .ok (.aload_n 0, 1) := by decide +kernel
theorem dX12_see_82 : decode cX12_see 82 = .ok (.dup, 1) := by decide +kernel
theorem dX12_see_83 : decode cX12_see 83 = .ok (.getfield 100, 3) := by decide +kernel
theorem dX12_see_86 : decode cX12_see 86 = .ok (.iconst 1, 1) := by decide +kernel
theorem dX12_see_87 : decode cX12_see 87 = .ok (.iadd, 1) := by decide +kernel
theorem dX12_see_88 : decode cX12_see 88 = .ok (.putfield 100, 3) := by decide +kernel
theorem dX12_see_91 : decode cX12_see 91 = .ok (.aload_n 0, 1) := by decide +kernel
theorem dX12_see_92 : decode cX12_see 92 = .ok (.getfield 100, 3) := by decide +kernel
theorem dX12_see_95 : decode cX12_see 95 = .ok (.ireturn, 1) := by decide +kernel
theorem dX12_forget_0 : decode cX12_forget 0 = .ok (.aload_n 0, 1) := by decide +kernel
theorem dX12_forget_1 : decode cX12_forget 1 = .ok (.getfield 100, 3) := by decide +kernel
theorem dX12_forget_4 : decode cX12_forget 4 = .ok (.istore_n 1, 1) := by decide +kernel
theorem dX12_forget_5 : decode cX12_forget 5 = .ok (.aload_n 0, 1) := by decide +kernel
theorem dX12_forget_6 : decode cX12_forget 6 = .ok (.iconst 0, 1) := by decide +kernel
theorem dX12_forget_7 : decode cX12_forget 7 = .ok (.putfield 100, 3) := by decide +kernel
theorem dX12_forget_10 : decode cX12_forget 10 = .ok (.iload_n 1, 1) := by decide +kernel
theorem dX12_forget_11 : decode cX12_forget 11 = .ok (.ireturn, 1) := by decide +kernel
theorem dX12_likenessAs_0 : decode cX12_likenessAs 0 = .ok (.aload_n 0, 1) := by decide +kernel
theorem dX12_likenessAs_1 : decode cX12_likenessAs 1 = .ok (.getfield 16, 3) := by decide +kernel
theorem dX12_likenessAs_4 : decode cX12_likenessAs 4 = .ok (.iload_n 1, 1) := by decide +kernel
theorem dX12_likenessAs_5 : decode cX12_likenessAs 5 = .ok (.iaload, 1) := by decide +kernel
theorem dX12_likenessAs_6 : decode cX12_likenessAs 6 = .ok (.istore 4, 2) := by decide +kernel
theorem dX12_likenessAs_8 : decode cX12_likenessAs 8 = .ok (.aload_n 0, 1) := by decide +kernel
theorem dX12_likenessAs_9 : decode cX12_likenessAs 9 = .ok (.getfield 16, 3) := by decide +kernel
theorem dX12_likenessAs_12 : decode cX12_likenessAs 12 = .ok (.iload_n 1, 1) := by decide +kernel
theorem dX12_likenessAs_13 : decode cX12_likenessAs 13 = .ok (.iload_n 2, 1) := by decide +kernel
theorem dX12_likenessAs_14 : decode cX12_likenessAs 14 = .ok (.iastore, 1) := by decide +kernel
theorem dX12_likenessAs_15 : decode cX12_likenessAs 15 = .ok (.aload_n 0, 1) := by decide +kernel
theorem dX12_likenessAs_16 : decode cX12_likenessAs 16 = .ok (.iload_n 1, 1) := by decide +kernel
theorem dX12_likenessAs_17 : decode cX12_likenessAs 17 = .ok (.iload_n 3, 1) := by decide +kernel
theorem dX12_likenessAs_18 : decode cX12_likenessAs 18 = .ok (.invokevirtual 126, 3) := by decide +kernel
theorem dX12_likenessAs_21 : decode cX12_likenessAs 21 = .ok (.istore 5, 2) := by decide +kernel
theorem dX12_likenessAs_23 : decode cX12_likenessAs 23 = .ok (.aload_n 0, 1) := by decide +kernel
theorem dX12_likenessAs_24 : decode cX12_likenessAs 24 = .ok (.getfield 16, 3) := by decide +kernel
theorem dX12_likenessAs_27 : decode cX12_likenessAs 27 = .ok (.iload_n 1, 1) := by decide +kernel
theorem dX12_likenessAs_28 : decode cX12_likenessAs 28 = .ok (.iload 4, 2) := by decide +kernel
theorem dX12_likenessAs_30 : decode cX12_likenessAs 30 = .ok (.iastore, 1) := by decide +kernel
theorem dX12_likenessAs_31 : decode cX12_likenessAs 31 = .ok (.iload 5, 2) := by decide +kernel
theorem dX12_likenessAs_33 : decode cX12_likenessAs 33 = .ok (.ireturn, 1) := by decide +kernel
theorem dX12_sizesOf_0 : decode cX12_sizesOf 0 = .ok (.iconst 0, 1) := by decide +kernel
theorem dX12_sizesOf_1 : decode cX12_sizesOf 1 = .ok (.istore_n 2, 1) := by decide +kernel
theorem dX12_sizesOf_2 : decode cX12_sizesOf 2 = .ok (.iconst 0, 1) := by decide +kernel
theorem dX12_sizesOf_3 : decode cX12_sizesOf 3 = .ok (.istore_n 3, 1) := by decide +kernel
theorem dX12_sizesOf_4 : decode cX12_sizesOf 4 = .ok (.iload_n 3, 1) := by decide +kernel
theorem dX12_sizesOf_5 : decode cX12_sizesOf 5 = .ok (.bipush 10, 2) := by decide +kernel
theorem dX12_sizesOf_7 : decode cX12_sizesOf 7 = .ok (.if_icmp .ge 97, 3) := by decide +kernel
theorem dX12_sizesOf_10 : decode cX12_sizesOf 10 = .ok (.iconst 1, 1) := by decide +kernel
theorem dX12_sizesOf_11 : decode cX12_sizesOf 11 = .ok (.istore 4, 2) := by decide +kernel
theorem dX12_sizesOf_13 : decode cX12_sizesOf 13 = .ok (.iconst 0, 1) := by decide +kernel
theorem dX12_sizesOf_14 : decode cX12_sizesOf 14 = .ok (.istore 5, 2) := by decide +kernel
theorem dX12_sizesOf_16 : decode cX12_sizesOf 16 = .ok (.iload 5, 2) := by decide +kernel
theorem dX12_sizesOf_18 : decode cX12_sizesOf 18 = .ok (.iconst 3, 1) := by decide +kernel
theorem dX12_sizesOf_19 : decode cX12_sizesOf 19 = .ok (.aload_n 0, 1) := by decide +kernel
theorem dX12_sizesOf_20 : decode cX12_sizesOf 20 = .ok (.getfield 100, 3) := by decide +kernel
theorem dX12_sizesOf_23 : decode cX12_sizesOf 23 = .ok (.imul, 1) := by decide +kernel
theorem dX12_sizesOf_24 : decode cX12_sizesOf 24 = .ok (.if_icmp .ge 59, 3) := by decide +kernel
theorem dX12_sizesOf_27 : decode cX12_sizesOf 27 = .ok (.aload_n 0, 1) := by decide +kernel
theorem dX12_sizesOf_28 : decode cX12_sizesOf 28 = .ok (.getfield 34, 3) := by decide +kernel
theorem dX12_sizesOf_31 : decode cX12_sizesOf 31 = .ok (.iload 5, 2) := by decide +kernel
theorem dX12_sizesOf_33 : decode cX12_sizesOf 33 = .ok (.iaload, 1) := by decide +kernel
theorem dX12_sizesOf_34 : decode cX12_sizesOf 34 = .ok (.iload_n 1, 1) := by decide +kernel
theorem dX12_sizesOf_35 : decode cX12_sizesOf 35 = .ok (.if_icmp .ne 42, 3) := by decide +kernel
theorem dX12_sizesOf_38 : decode cX12_sizesOf 38 = .ok (.iload 4, 2) := by decide +kernel
theorem dX12_sizesOf_40 : decode cX12_sizesOf 40 = .ok (.ifCond .eq 34, 3) := by decide +kernel
theorem dX12_sizesOf_43 : decode cX12_sizesOf 43 = .ok (.aload_n 0, 1) := by decide +kernel
theorem dX12_sizesOf_44 : decode cX12_sizesOf 44 = .ok (.iload_n 1, 1) := by decide +kernel
theorem dX12_sizesOf_45 : decode cX12_sizesOf 45 = .ok (.iload_n 3, 1) := by decide +kernel
theorem dX12_sizesOf_46 : decode cX12_sizesOf 46 = .ok (.aload_n 0, 1) := by decide +kernel
theorem dX12_sizesOf_47 : decode cX12_sizesOf 47 = .ok (.getfield 34, 3) := by decide +kernel
theorem dX12_sizesOf_50 : decode cX12_sizesOf 50 = .ok (.iload 5, 2) := by decide +kernel
theorem dX12_sizesOf_52 : decode cX12_sizesOf 52 = .ok (.iconst 1, 1) := by decide +kernel
theorem dX12_sizesOf_53 : decode cX12_sizesOf 53 = .ok (.iadd, 1) := by decide +kernel
theorem dX12_sizesOf_54 : decode cX12_sizesOf 54 = .ok (.iaload, 1) := by decide +kernel
theorem dX12_sizesOf_55 : decode cX12_sizesOf 55 = .ok (.invokevirtual 221, 3) := by decide +kernel
theorem dX12_sizesOf_58 : decode cX12_sizesOf 58 = .ok (.aload_n 0, 1) := by decide +kernel
theorem dX12_sizesOf_59 : decode cX12_sizesOf 59 = .ok (.getfield 34, 3) := by decide +kernel
theorem dX12_sizesOf_62 : decode cX12_sizesOf 62 = .ok (.iload 5, 2) := by decide +kernel
theorem dX12_sizesOf_64 : decode cX12_sizesOf 64 = .ok (.iconst 2, 1) := by decide +kernel
theorem dX12_sizesOf_65 : decode cX12_sizesOf 65 = .ok (.iadd, 1) := by decide +kernel
theorem dX12_sizesOf_66 : decode cX12_sizesOf 66 = .ok (.iaload, 1) := by decide +kernel
theorem dX12_sizesOf_67 : decode cX12_sizesOf 67 = .ok (.if_icmp .ne 7, 3) := by decide +kernel
theorem dX12_sizesOf_70 : decode cX12_sizesOf 70 = .ok (.iconst 1, 1) := by decide +kernel
theorem dX12_sizesOf_71 : decode cX12_sizesOf 71 = .ok (.goto 4, 3) := by decide +kernel
theorem dX12_sizesOf_74 : decode cX12_sizesOf 74 = .ok (.iconst 0, 1) := by decide +kernel
theorem dX12_sizesOf_75 : decode cX12_sizesOf 75 = .ok (.istore 4, 2) := by decide +kernel
theorem dX12_sizesOf_77 : decode cX12_sizesOf 77 = .ok (.iinc 5 3, 3) := by decide +kernel
theorem dX12_sizesOf_80 : decode cX12_sizesOf 80 = .ok (.goto (-64), 3) := by decide +kernel
theorem dX12_sizesOf_83 : decode cX12_sizesOf 83 = .ok (.iload_n 2, 1) := by decide +kernel
theorem dX12_sizesOf_84 : decode cX12_sizesOf 84 = .ok (.iload 4, 2) := by decide +kernel
theorem dX12_sizesOf_86 : decode cX12_sizesOf 86 = .ok (.ifCond .eq 9, 3) := by decide +kernel
theorem dX12_sizesOf_89 : decode cX12_sizesOf 89 = .ok (.iconst 1, 1) := by decide +kernel
theorem dX12_sizesOf_90 : decode cX12_sizesOf 90 = .ok (.iload_n 3, 1) := by decide +kernel
theorem dX12_sizesOf_91 : decode cX12_sizesOf 91 = .ok (.ishl, 1) := by decide +kernel
theorem dX12_sizesOf_92 : decode cX12_sizesOf 92 = .ok (.goto 4, 3) := by decide +kernel
theorem dX12_sizesOf_95 : decode cX12_sizesOf 95 = .ok (.iconst 0, 1) := by decide +kernel
theorem dX12_sizesOf_96 : decode cX12_sizesOf 96 = .ok (.ior, 1) := by decide +kernel
theorem dX12_sizesOf_97 : decode cX12_sizesOf 97 = .ok (.istore_n 2, 1) := by decide +kernel
theorem dX12_sizesOf_98 : decode cX12_sizesOf 98 = .ok (.iinc 3 1, 3) := by decide +kernel
theorem dX12_sizesOf_101 : decode cX12_sizesOf 101 = .ok (.goto (-97), 3) := by decide +kernel
theorem dX12_sizesOf_104 : decode cX12_sizesOf 104 = .ok (.iload_n 2, 1) := by decide +kernel
theorem dX12_sizesOf_105 : decode cX12_sizesOf 105 = .ok (.ireturn, 1) := by decide +kernel
theorem dX12_lookOf_0 : decode cX12_lookOf 0 = .ok (.aload_n 0, 1) := by decide +kernel
theorem dX12_lookOf_1 : decode cX12_lookOf 1 = .ok (.iload_n 1, 1) := by decide +kernel
theorem dX12_lookOf_2 : decode cX12_lookOf 2 = .ok (.invokevirtual 145, 3) := by decide +kernel
theorem dX12_lookOf_5 : decode cX12_lookOf 5 = .ok (.istore_n 2, 1) := by decide +kernel
theorem dX12_lookOf_6 : decode cX12_lookOf 6 = .ok (.iconst (-1), 1) := by decide +kernel
theorem dX12_lookOf_7 : decode cX12_lookOf 7 = .ok (.istore_n 3, 1) := by decide +kernel
theorem dX12_lookOf_8 : decode cX12_lookOf 8 = .ok (.bipush 11, 2) := by decide +kernel
theorem dX12_lookOf_10 : decode cX12_lookOf 10 = .ok (.istore 4, 2) := by decide +kernel
theorem dX12_lookOf_12 : decode cX12_lookOf 12 = .ok (.iconst 0, 1) := by decide +kernel
theorem dX12_lookOf_13 : decode cX12_lookOf 13 = .ok (.istore 5, 2) := by decide +kernel
theorem dX12_lookOf_15 : decode cX12_lookOf 15 = .ok (.iload 5, 2) := by decide +kernel
theorem dX12_lookOf_17 : decode cX12_lookOf 17 = .ok (.aload_n 0, 1) := by decide +kernel
theorem dX12_lookOf_18 : decode cX12_lookOf 18 = .ok (.getfield 85, 3) := by decide +kernel
theorem dX12_lookOf_21 : decode cX12_lookOf 21 = .ok (.if_icmp .ge 159, 3) := by decide +kernel
theorem dX12_lookOf_24 : decode cX12_lookOf 24 = .ok (.iload_n 2, 1) := by decide +kernel
theorem dX12_lookOf_25 : decode cX12_lookOf 25 = .ok (.ifCond .eq 155, 3) := by decide +kernel
theorem dX12_lookOf_28 : decode cX12_lookOf 28 = .ok (.iconst 0, 1) := by decide +kernel
theorem dX12_lookOf_29 : decode cX12_lookOf 29 = .ok (.istore 6, 2) := by decide +kernel
theorem dX12_lookOf_31 : decode cX12_lookOf 31 = .ok (.iload 6, 2) := by decide +kernel
theorem dX12_lookOf_33 : decode cX12_lookOf 33 = .ok (.bipush 20, 2) := by decide +kernel
theorem dX12_lookOf_35 : decode cX12_lookOf 35 = .ok (.if_icmp .ge 17, 3) := by decide +kernel
theorem dX12_lookOf_38 : decode cX12_lookOf 38 = .ok (.aload_n 0, 1) := by decide +kernel
theorem dX12_lookOf_39 : decode cX12_lookOf 39 = .ok (.getfield 37, 3) := by decide +kernel
theorem dX12_lookOf_42 : decode cX12_lookOf 42 = .ok (.iload 6, 2) := by decide +kernel
theorem dX12_lookOf_44 : decode cX12_lookOf 44 = .ok (.iconst 0, 1) := by decide +kernel
theorem dX12_lookOf_45 : decode cX12_lookOf 45 = .ok (.iastore, 1) := by decide +kernel
theorem dX12_lookOf_46 : decode cX12_lookOf 46 = .ok (.iinc 6 1, 3) := by decide +kernel
theorem dX12_lookOf_49 : decode cX12_lookOf 49 = .ok (.goto (-18), 3) := by decide +kernel
theorem dX12_lookOf_52 : decode cX12_lookOf 52 = .ok (.iconst 0, 1) := by decide +kernel
theorem dX12_lookOf_53 : decode cX12_lookOf 53 = .ok (.istore 6, 2) := by decide +kernel
theorem dX12_lookOf_55 : decode cX12_lookOf 55 = .ok (.iconst 0, 1) := by decide +kernel
theorem dX12_lookOf_56 : decode cX12_lookOf 56 = .ok (.istore 7, 2) := by decide +kernel
theorem dX12_lookOf_58 : decode cX12_lookOf 58 = .ok (.iload 7, 2) := by decide +kernel
theorem dX12_lookOf_60 : decode cX12_lookOf 60 = .ok (.bipush 10, 2) := by decide +kernel
theorem dX12_lookOf_62 : decode cX12_lookOf 62 = .ok (.if_icmp .ge 70, 3) := by decide +kernel
theorem dX12_lookOf_65 : decode cX12_lookOf 65 = .ok (.iload 5, 2) := by decide +kernel
theorem dX12_lookOf_67 : decode cX12_lookOf 67 = .ok (.iload_n 1, 1) := by decide +kernel
theorem dX12_lookOf_68 : decode cX12_lookOf 68 = .ok (.if_icmp .eq 64, 3) := by decide +kernel
theorem dX12_lookOf_71 : decode cX12_lookOf 71 = .ok (.aload_n 0, 1) := by decide +kernel
theorem dX12_lookOf_72 : decode cX12_lookOf 72 = .ok (.iload_n 1, 1) := by decide +kernel
theorem dX12_lookOf_73 : decode cX12_lookOf 73 = .ok (.iload 7, 2) := by decide +kernel
theorem dX12_lookOf_75 : decode cX12_lookOf 75 = .ok (.iload 5, 2) := by decide +kernel
theorem dX12_lookOf_77 : decode cX12_lookOf 77 = .ok (.invokevirtual 221, 3) := by decide +kernel
theorem dX12_lookOf_80 : decode cX12_lookOf 80 = .ok (.iconst 1, 1) := by decide +kernel
theorem dX12_lookOf_81 : decode cX12_lookOf 81 = .ok (.iadd, 1) := by decide +kernel
theorem dX12_lookOf_82 : decode cX12_lookOf 82 = .ok (.istore 8, 2) := by decide +kernel
theorem dX12_lookOf_84 : decode cX12_lookOf 84 = .ok (.aload_n 0, 1) := by decide +kernel
theorem dX12_lookOf_85 : decode cX12_lookOf 85 = .ok (.getfield 37, 3) := by decide +kernel
theorem dX12_lookOf_88 : decode cX12_lookOf 88 = .ok (.iload 8, 2) := by decide +kernel
theorem dX12_lookOf_90 : decode cX12_lookOf 90 = .ok (.dup2, 1) := by decide +kernel
theorem dX12_lookOf_91 : decode cX12_lookOf 91 = .ok (.iaload, 1) := by decide +kernel
theorem dX12_lookOf_92 : decode cX12_lookOf 92 = .ok (.iload_n 2, 1) := by decide +kernel
theorem dX12_lookOf_93 : decode cX12_lookOf 93 = .ok (.iload 7, 2) := by decide +kernel
theorem dX12_lookOf_95 : decode cX12_lookOf 95 = .ok (.ishr, 1) := by decide +kernel
theorem dX12_lookOf_96 : decode cX12_lookOf 96 = .ok (.iconst 1, 1) := by decide +kernel
theorem dX12_lookOf_97 : decode cX12_lookOf 97 = .ok (.iand, 1) := by decide +kernel
theorem dX12_lookOf_98 : decode cX12_lookOf 98 = .ok (.iadd, 1) := by decide +kernel
theorem dX12_lookOf_99 : decode cX12_lookOf 99 = .ok (.iastore, 1) := by decide +kernel
theorem dX12_lookOf_100 : decode cX12_lookOf 100 = .ok (.aload_n 0, 1) := by decide +kernel
theorem dX12_lookOf_101 : decode cX12_lookOf 101 = .ok (.getfield 37, 3) := by decide +kernel
theorem dX12_lookOf_104 : decode cX12_lookOf 104 = .ok (.iload 8, 2) := by decide +kernel
theorem dX12_lookOf_106 : decode cX12_lookOf 106 = .ok (.iaload, 1) := by decide +kernel
theorem dX12_lookOf_107 : decode cX12_lookOf 107 = .ok (.iload 6, 2) := by decide +kernel
theorem dX12_lookOf_109 : decode cX12_lookOf 109 = .ok (.if_icmp .le 13, 3) := by decide +kernel
theorem dX12_lookOf_112 : decode cX12_lookOf 112 = .ok (.aload_n 0, 1) := by decide +kernel
theorem dX12_lookOf_113 : decode cX12_lookOf 113 = .ok (.getfield 37, 3) := by decide +kernel
theorem dX12_lookOf_116 : decode cX12_lookOf 116 = .ok (.iload 8, 2) := by decide +kernel
theorem dX12_lookOf_118 : decode cX12_lookOf 118 = .ok (.iaload, 1) := by decide +kernel
theorem dX12_lookOf_119 : decode cX12_lookOf 119 = .ok (.goto 5, 3) := by decide +kernel
theorem dX12_lookOf_122 : decode cX12_lookOf 122 = .ok (.iload 6, 2) := by decide +kernel
theorem dX12_lookOf_124 : decode cX12_lookOf 124 = .ok (.istore 6, 2) := by decide +kernel
theorem dX12_lookOf_126 : decode cX12_lookOf 126 = .ok (.iinc 7 1, 3) := by decide +kernel
theorem dX12_lookOf_129 : decode cX12_lookOf 129 = .ok (.goto (-71), 3) := by decide +kernel
theorem dX12_lookOf_132 : decode cX12_lookOf 132 = .ok (.iload 5, 2) := by decide +kernel
theorem dX12_lookOf_134 : decode cX12_lookOf 134 = .ok (.iload_n 1, 1) := by decide +kernel
theorem dX12_lookOf_135 : decode cX12_lookOf 135 = .ok (.if_icmp .eq 15, 3) := by decide +kernel
theorem dX12_lookOf_138 : decode cX12_lookOf 138 = .ok (.iload 6, 2) := by decide +kernel
theorem dX12_lookOf_140 : decode cX12_lookOf 140 = .ok (.iload 4, 2) := by decide +kernel
theorem dX12_lookOf_142 : decode cX12_lookOf 142 = .ok (.if_icmp .ge 8, 3) := by decide +kernel
theorem dX12_lookOf_145 : decode cX12_lookOf 145 = .ok (.iload 5, 2) := by decide +kernel
theorem dX12_lookOf_147 : decode cX12_lookOf 147 = .ok (.goto 4, 3) := by decide +kernel
theorem dX12_lookOf_150 : decode cX12_lookOf 150 = .ok (.iload_n 3, 1) := by decide +kernel
theorem dX12_lookOf_151 : decode cX12_lookOf 151 = .ok (.istore_n 3, 1) := by decide +kernel
theorem dX12_lookOf_152 : decode cX12_lookOf 152 = .ok (.iload 5, 2) := by decide +kernel
theorem dX12_lookOf_154 : decode cX12_lookOf 154 = .ok (.iload_n 1, 1) := by decide +kernel
theorem dX12_lookOf_155 : decode cX12_lookOf 155 = .ok (.if_icmp .eq 15, 3) := by decide +kernel
theorem dX12_lookOf_158 : decode cX12_lookOf 158 = .ok (.iload 6, 2) := by decide +kernel
theorem dX12_lookOf_160 : decode cX12_lookOf 160 = .ok (.iload 4, 2) := by decide +kernel
theorem dX12_lookOf_162 : decode cX12_lookOf 162 = .ok (.if_icmp .ge 8, 3) := by decide +kernel
theorem dX12_lookOf_165 : decode cX12_lookOf 165 = .ok (.iload 6, 2) := by decide +kernel
theorem dX12_lookOf_167 : decode cX12_lookOf 167 = .ok (.goto 5, 3) := by decide +kernel
theorem dX12_lookOf_170 : decode cX12_lookOf 170 = .ok (.iload 4, 2) := by decide +kernel
theorem dX12_lookOf_172 : decode cX12_lookOf 172 = .ok (.istore 4, 2) := by decide +kernel
theorem dX12_lookOf_174 : decode cX12_lookOf 174 = .ok (.iinc 5 1, 3) := by decide +kernel
theorem dX12_lookOf_177 : decode cX12_lookOf 177 = .ok (.goto (-162), 3) := by decide +kernel
theorem dX12_lookOf_180 : decode cX12_lookOf 180 = .ok (.iload_n 3, 1) := by decide +kernel
theorem dX12_lookOf_181 : decode cX12_lookOf 181 = .ok (.ireturn, 1) := by decide +kernel
theorem dX12_draw_0 : decode cX12_draw 0 = .ok (.aload_n 0, 1) := by decide +kernel
theorem dX12_draw_1 : decode cX12_draw 1 = .ok (.ldc2_w 225, 3) := by decide +kernel
theorem dX12_draw_4 : decode cX12_draw 4 = .ok (.aload_n 0, 1) := by decide +kernel
theorem dX12_draw_5 : decode cX12_draw 5 = .ok (.getfield 227, 3) := by decide +kernel
theorem dX12_draw_8 : decode cX12_draw 8 = .ok (.i2l, 1) := by decide +kernel
theorem dX12_draw_9 : decode cX12_draw 9 = .ok (.lmul, 1) := by decide +kernel
theorem dX12_draw_10 : decode cX12_draw 10 = .ok (.ldc2_w 230, 3) := by decide +kernel
theorem dX12_draw_13 : decode cX12_draw 13 = .ok (.ladd, 1) := by decide +kernel
theorem dX12_draw_14 : decode cX12_draw 14 = .ok (.ldc2_w 232, 3) := by decide +kernel
theorem dX12_draw_17 : decode cX12_draw 17 = .ok (.land, 1) := by decide +kernel
theorem dX12_draw_18 : decode cX12_draw 18 = .ok (.l2i, 1) := by decide +kernel
theorem dX12_draw_19 : decode cX12_draw 19 = .ok (.putfield 227, 3) := by decide +kernel
theorem dX12_draw_22 : decode cX12_draw 22 = .ok (.aload_n 0, 1) := by decide +kernel
theorem dX12_draw_23 : decode cX12_draw 23 = .ok (.getfield 227, 3) := by decide +kernel
theorem dX12_draw_26 : decode cX12_draw 26 = .ok (.ldc 234, 2) := by decide +kernel
theorem dX12_draw_28 : decode cX12_draw 28 = .ok (.idiv, 1) := by decide +kernel
theorem dX12_draw_29 : decode cX12_draw 29 = .ok (.iload_n 1, 1) := by decide +kernel
theorem dX12_draw_30 : decode cX12_draw 30 = .ok (.irem, 1) := by decide +kernel
theorem dX12_draw_31 : decode cX12_draw 31 = .ok (.ireturn, 1) := by decide +kernel
theorem dX12_winters_0 : decode cX12_winters 0 = .ok (.iload_n 1, 1) := by decide +kernel
theorem dX12_winters_1 : decode cX12_winters 1 = .ok (.i2l, 1) := by decide +kernel
theorem dX12_winters_2 : decode cX12_winters 2 = .ok (.lconst 1, 1) := by decide +kernel
theorem dX12_winters_3 : decode cX12_winters 3 = .ok (.ldc2_w 235, 3) := by decide +kernel
theorem dX12_winters_6 : decode cX12_winters 6 = .ok (.invokestatic 58, 3) := by decide +kernel
theorem dX12_winters_9 : decode cX12_winters 9 = .ok (.ifCond .eq 19, 3) := by decide +kernel
theorem dX12_winters_12 : decode cX12_winters 12 = .ok (.iload_n 2, 1) := by decide +kernel
theorem dX12_winters_13 : decode cX12_winters 13 = .ok (.ifCond .lt 15, 3) := by decide +kernel
theorem dX12_winters_16 : decode cX12_winters 16 = .ok (.iload_n 3, 1) := by decide +kernel
theorem dX12_winters_17 : decode cX12_winters 17 = .ok (.i2l, 1) := by decide +kernel
theorem dX12_winters_18 : decode cX12_winters 18 = .ok (.lconst 0, 1) := by decide +kernel
theorem dX12_winters_19 : decode cX12_winters 19 = .ok (.ldc2_w 237, 3) := by decide +kernel
theorem dX12_winters_22 : decode cX12_winters 22 = .ok (.invokestatic 58, 3) := by decide +kernel
theorem dX12_winters_25 : decode cX12_winters 25 = .ok (.ifCond .ne 6, 3) := by decide +kernel
theorem dX12_winters_28 : decode cX12_winters 28 = .ok (.bipush (-102), 2) := by decide +kernel
theorem dX12_winters_30 : decode cX12_winters 30 = .ok (.ireturn, 1) := by decide +kernel
theorem dX12_winters_31 : decode cX12_winters 31 = .ok (.aload_n 0, 1) := by decide +kernel
theorem dX12_winters_32 : decode cX12_winters 32 = .ok (.invokevirtual 163, 3) := by decide +kernel
theorem dX12_winters_35 : decode cX12_winters 35 = .ok (.ifCond .eq 6, 3) := by decide +kernel
theorem dX12_winters_38 : decode cX12_winters 38 = .ok (.bipush (-103), 2) := by decide +kernel
theorem dX12_winters_40 : decode cX12_winters 40 = .ok (.ireturn, 1) := by decide +kernel
theorem dX12_winters_41 : decode cX12_winters 41 = .ok (.aload_n 0, 1) := by decide +kernel
theorem dX12_winters_42 : decode cX12_winters 42 = .ok (.getfield 22, 3) := by decide +kernel
theorem dX12_winters_45 : decode cX12_winters 45 = .ok (.aload_n 0, 1) := by decide +kernel
theorem dX12_winters_46 : decode cX12_winters 46 = .ok (.getfield 25, 3) := by decide +kernel
theorem dX12_winters_49 : decode cX12_winters 49 = .ok (.invokestatic 167, 3) := by decide +kernel
theorem dX12_winters_52 : decode cX12_winters 52 = .ok (.aload_n 0, 1) := by decide +kernel
theorem dX12_winters_53 : decode cX12_winters 53 = .ok (.iload_n 2, 1) := by decide +kernel
theorem dX12_winters_54 : decode cX12_winters 54 = .ok (.putfield 227, 3) := by decide +kernel
theorem dX12_winters_57 : decode cX12_winters 57 = .ok (.iconst 0, 1) := by decide +kernel
theorem dX12_winters_58 : decode cX12_winters 58 = .ok (.istore 4, 2) := by decide +kernel
theorem dX12_winters_60 : decode cX12_winters 60 = .ok (.iconst 0, 1) := by decide +kernel
theorem dX12_winters_61 : decode cX12_winters 61 = .ok (.istore 5, 2) := by decide +kernel
theorem dX12_winters_63 : decode cX12_winters 63 = .ok (.iconst 0, 1) := by decide +kernel
theorem dX12_winters_64 : decode cX12_winters 64 = .ok (.istore 6, 2) := by decide +kernel
theorem dX12_winters_66 : decode cX12_winters 66 = .ok (.iload 6, 2) := by decide +kernel
theorem dX12_winters_68 : decode cX12_winters 68 = .ok (.iload_n 1, 1) := by decide +kernel
theorem dX12_winters_69 : decode cX12_winters 69 = .ok (.if_icmp .ge 103, 3) := by decide +kernel
theorem dX12_winters_72 : decode cX12_winters 72 = .ok (.aload_n 0, 1) := by decide +kernel
theorem dX12_winters_73 : decode cX12_winters 73 = .ok (.aload_n 0, 1) := by decide +kernel
theorem dX12_winters_74 : decode cX12_winters 74 = .ok (.getfield 85, 3) := by decide +kernel
theorem dX12_winters_77 : decode cX12_winters 77 = .ok (.invokevirtual 239, 3) := by decide +kernel
theorem dX12_winters_80 : decode cX12_winters 80 = .ok (.istore 7, 2) := by decide +kernel
theorem dX12_winters_82 : decode cX12_winters 82 = .ok (.aload_n 0, 1) := by decide +kernel
theorem dX12_winters_83 : decode cX12_winters 83 = .ok (.aload_n 0, 1) := by decide +kernel
theorem dX12_winters_84 : decode cX12_winters 84 = .ok (.getfield 85, 3) := by decide +kernel
theorem dX12_winters_87 : decode cX12_winters 87 = .ok (.invokevirtual 239, 3) := by decide +kernel
theorem dX12_winters_90 : decode cX12_winters 90 = .ok (.istore 8, 2) := by decide +kernel
theorem dX12_winters_92 : decode cX12_winters 92 = .ok (.iload 7, 2) := by decide +kernel
theorem dX12_winters_94 : decode cX12_winters 94 = .ok (.iload 8, 2) := by decide +kernel
theorem dX12_winters_96 : decode cX12_winters 96 = .ok (.if_icmp .eq 70, 3) := by decide +kernel
theorem dX12_winters_99 : decode cX12_winters 99 = .ok (.aload_n 0, 1) := by decide +kernel
theorem dX12_winters_100 : decode cX12_winters 100 = .ok (.getfield 25, 3) := by decide +kernel
theorem dX12_winters_103 : decode cX12_winters 103 = .ok (.iload 7, 2) := by decide +kernel
theorem dX12_winters_105 : decode cX12_winters 105 = .ok (.iaload, 1) := by decide +kernel
theorem dX12_winters_106 : decode cX12_winters 106 = .ok (.iconst (-1), 1) := by decide +kernel
theorem dX12_winters_107 : decode cX12_winters 107 = .ok (.if_icmp .ne 59, 3) := by decide +kernel
theorem dX12_winters_110 : decode cX12_winters 110 = .ok (.aload_n 0, 1) := by decide +kernel
theorem dX12_winters_111 : decode cX12_winters 111 = .ok (.getfield 25, 3) := by decide +kernel
theorem dX12_winters_114 : decode cX12_winters 114 = .ok (.iload 8, 2) := by decide +kernel
theorem dX12_winters_116 : decode cX12_winters 116 = .ok (.iaload, 1) := by decide +kernel
theorem dX12_winters_117 : decode cX12_winters 117 = .ok (.iconst (-1), 1) := by decide +kernel
theorem dX12_winters_118 : decode cX12_winters 118 = .ok (.if_icmp .ne 48, 3) := by decide +kernel
theorem dX12_winters_121 : decode cX12_winters 121 = .ok (.aload_n 0, 1) := by decide +kernel
theorem dX12_winters_122 : decode cX12_winters 122 = .ok (.iload 7, 2) := by decide +kernel
theorem dX12_winters_124 : decode cX12_winters 124 = .ok (.iload 8, 2) := by decide +kernel
theorem dX12_winters_126 : decode cX12_winters 126 = .ok (.invokevirtual 120, 3) := by decide +kernel
theorem dX12_winters_129 : decode cX12_winters 129 = .ok (.ifCond .eq 37, 3) := by decide +kernel
theorem dX12_winters_132 : decode cX12_winters 132 = .ok (.aload_n 0, 1) := by decide +kernel
theorem dX12_winters_133 : decode cX12_winters 133 = .ok (.getfield 25, 3) := by decide +kernel
theorem dX12_winters_136 : decode cX12_winters 136 = .ok (.iload 7, 2) := by decide +kernel
theorem dX12_winters_138 : decode cX12_winters 138 = .ok (.iload 8, 2) := by decide +kernel
theorem dX12_winters_140 : decode cX12_winters 140 = .ok (.iastore, 1) := by decide +kernel
theorem dX12_winters_141 : decode cX12_winters 141 = .ok (.aload_n 0, 1) := by decide +kernel
theorem dX12_winters_142 : decode cX12_winters 142 = .ok (.getfield 25, 3) := by decide +kernel
theorem dX12_winters_145 : decode cX12_winters 145 = .ok (.iload 8, 2) := by decide +kernel
theorem dX12_winters_147 : decode cX12_winters 147 = .ok (.iload 7, 2) := by decide +kernel
theorem dX12_winters_149 : decode cX12_winters 149 = .ok (.iastore, 1) := by decide +kernel
theorem dX12_winters_150 : decode cX12_winters 150 = .ok (.iinc 4 1, 3) := by decide +kernel
theorem dX12_winters_153 : decode cX12_winters 153 = .ok (.iload 5, 2) := by decide +kernel
theorem dX12_winters_155 : decode cX12_winters 155 = .ok (.aload_n 0, 1) := by decide +kernel
theorem dX12_winters_156 : decode cX12_winters 156 = .ok (.iload 7, 2) := by decide +kernel
theorem dX12_winters_158 : decode cX12_winters 158 = .ok (.iload 8, 2) := by decide +kernel
theorem dX12_winters_160 : decode cX12_winters 160 = .ok (.invokevirtual 126, 3) := by decide +kernel
theorem dX12_winters_163 : decode cX12_winters 163 = .ok (.iadd, 1) := by decide +kernel
theorem dX12_winters_164 : decode cX12_winters 164 = .ok (.istore 5, 2) := by decide +kernel
theorem dX12_winters_166 : decode cX12_winters 166 = .ok (.iinc 6 1, 3) := by decide +kernel
theorem dX12_winters_169 : decode cX12_winters 169 = .ok (.goto (-103), 3) := by decide +kernel
theorem dX12_winters_172 : decode cX12_winters 172 = .ok (.iload_n 3, 1) := by decide +kernel
theorem dX12_winters_173 : decode cX12_winters 173 = .ok (.ifCond .ne 8, 3) := by decide +kernel
theorem dX12_winters_176 : decode cX12_winters 176 = .ok (.iload 4, 2) := by decide +kernel
theorem dX12_winters_178 : decode cX12_winters 178 = .ok (.goto 17, 3) := by decide +kernel
theorem dX12_winters_181 : decode cX12_winters 181 = .ok (.iload_n 3, 1) := by decide +kernel
theorem dX12_winters_182 : decode cX12_winters 182 = .ok (.iconst 1, 1) := by decide +kernel
theorem dX12_winters_183 : decode cX12_winters 183 = .ok (.if_icmp .ne 8, 3) := by decide +kernel
theorem dX12_winters_186 : decode cX12_winters 186 = .ok (.iload 5, 2) := by decide +kernel
theorem dX12_winters_188 : decode cX12_winters 188 = .ok (.goto 7, 3) := by decide +kernel
theorem dX12_winters_191 : decode cX12_winters 191 = .ok (.aload_n 0, 1) := by decide +kernel
theorem dX12_winters_192 : decode cX12_winters 192 = .ok (.getfield 227, 3) := by decide +kernel
theorem dX12_winters_195 : decode cX12_winters 195 = .ok (.ireturn, 1) := by decide +kernel
theorem dX12_image_0 : decode cX12_image 0 = .ok (.aload_n 0, 1) := by decide +kernel
theorem dX12_image_1 : decode cX12_image 1 = .ok (.invokevirtual 163, 3) := by decide +kernel
theorem dX12_image_4 : decode cX12_image 4 = .ok (.ifCond .eq 6, 3) := by decide +kernel
theorem dX12_image_7 : decode cX12_image 7 = .ok (.bipush (-103), 2) := by decide +kernel
theorem dX12_image_9 : decode cX12_image 9 = .ok (.ireturn, 1) := by decide +kernel
theorem dX12_image_10 : decode cX12_image 10 = .ok (.aload_n 0, 1) := by decide +kernel
theorem dX12_image_11 : decode cX12_image 11 = .ok (.getfield 16, 3) := by decide +kernel
theorem dX12_image_14 : decode cX12_image 14 = .ok (.aload_n 0, 1) := by decide +kernel
theorem dX12_image_15 : decode cX12_image 15 = .ok (.getfield 40, 3) := by decide +kernel
theorem dX12_image_18 : decode cX12_image 18 = .ok (.invokestatic 167, 3) := by decide +kernel
theorem dX12_image_21 : decode cX12_image 21 = .ok (.aload_n 0, 1) := by decide +kernel
theorem dX12_image_22 : decode cX12_image 22 = .ok (.getfield 19, 3) := by decide +kernel
theorem dX12_image_25 : decode cX12_image 25 = .ok (.aload_n 0, 1) := by decide +kernel
theorem dX12_image_26 : decode cX12_image 26 = .ok (.getfield 43, 3) := by decide +kernel
theorem dX12_image_29 : decode cX12_image 29 = .ok (.invokestatic 167, 3) := by decide +kernel
theorem dX12_image_32 : decode cX12_image 32 = .ok (.aload_n 0, 1) := by decide +kernel
theorem dX12_image_33 : decode cX12_image 33 = .ok (.getfield 22, 3) := by decide +kernel
theorem dX12_image_36 : decode cX12_image 36 = .ok (.aload_n 0, 1) := by decide +kernel
theorem dX12_image_37 : decode cX12_image 37 = .ok (.getfield 46, 3) := by decide +kernel
theorem dX12_image_40 : decode cX12_image 40 = .ok (.invokestatic 167, 3) := by decide +kernel
theorem dX12_image_43 : decode cX12_image 43 = .ok (.aload_n 0, 1) := by decide +kernel
theorem dX12_image_44 : decode cX12_image 44 = .ok (.getfield 34, 3) := by decide +kernel
theorem dX12_image_47 : decode cX12_image 47 = .ok (.aload_n 0, 1) := by decide +kernel
theorem dX12_image_48 : decode cX12_image 48 = .ok (.getfield 49, 3) := by decide +kernel
theorem dX12_image_51 : decode cX12_image 51 = .ok (.invokestatic 167, 3) := by decide +kernel
theorem dX12_image_54 : decode cX12_image 54 = .ok (.aload_n 0, 1) := by decide +kernel
theorem dX12_image_55 : decode cX12_image 55 = .ok (.aload_n 0, 1) := by decide +kernel
theorem dX12_image_56 : decode cX12_image 56 = .ok (.getfield 88, 3) := by decide +kernel
theorem dX12_image_59 : decode cX12_image 59 = .ok (.putfield 242, 3) := by decide +kernel
theorem dX12_image_62 : decode cX12_image 62 = .ok (.aload_n 0, 1) := by decide +kernel
theorem dX12_image_63 : decode cX12_image 63 = .ok (.aload_n 0, 1) := by decide +kernel
theorem dX12_image_64 : decode cX12_image 64 = .ok (.getfield 91, 3) := by decide +kernel
theorem dX12_image_67 : decode cX12_image 67 = .ok (.putfield 245, 3) := by decide +kernel
theorem dX12_image_70 : decode cX12_image 70 = .ok (.aload_n 0, 1) := by decide +kernel
theorem dX12_image_71 : decode cX12_image 71 = .ok (.aload_n 0, 1) := by decide +kernel
theorem dX12_image_72 : decode cX12_image 72 = .ok (.getfield 94, 3) := by decide +kernel
theorem dX12_image_75 : decode cX12_image 75 = .ok (.putfield 248, 3) := by decide +kernel
theorem dX12_image_78 : decode cX12_image 78 = .ok (.aload_n 0, 1) := by decide +kernel
theorem dX12_image_79 : decode cX12_image 79 = .ok (.aload_n 0, 1) := by decide +kernel
theorem dX12_image_80 : decode cX12_image 80 = .ok (.getfield 97, 3) := by decide +kernel
theorem dX12_image_83 : decode cX12_image 83 = .ok (.putfield 251, 3) := by decide +kernel
theorem dX12_image_86 : decode cX12_image 86 = .ok (.aload_n 0, 1) := by decide +kernel
theorem dX12_image_87 : decode cX12_image 87 = .ok (.aload_n 0, 1) := by decide +kernel
theorem dX12_image_88 : decode cX12_image 88 = .ok (.getfield 100, 3) := by decide +kernel
theorem dX12_image_91 : decode cX12_image 91 = .ok (.putfield 254, 3) := by decide +kernel
theorem dX12_image_94 : decode cX12_image 94 = .ok (.aload_n 0, 1) := by decide +kernel
theorem dX12_image_95 : decode cX12_image 95 = .ok (.aload_n 0, 1) := by decide +kernel
theorem dX12_image_96 : decode cX12_image 96 = .ok (.getfield 103, 3) := by decide +kernel
theorem dX12_image_99 : decode cX12_image 99 = .ok (.putfield 52, 3) := by decide +kernel
theorem dX12_image_102 : decode cX12_image 102 = .ok (.aload_n 0, 1) := by decide +kernel
theorem dX12_image_103 : decode cX12_image 103 = .ok (.getfield 88, 3) := by decide +kernel
theorem dX12_image_106 : decode cX12_image 106 = .ok (.ireturn, 1) := by decide +kernel
theorem dX12_restore_0 : decode cX12_restore 0 = .ok (.aload_n 0, 1) := by decide +kernel
theorem dX12_restore_1 : decode cX12_restore 1 = .ok (.getfield 52, 3) := by decide +kernel
theorem dX12_restore_4 : decode cX12_restore 4 = .ok (.aload_n 0, 1) := by decide +kernel
theorem dX12_restore_5 : decode cX12_restore 5 = .ok (.getfield 103, 3) := by decide +kernel
theorem dX12_restore_8 : decode cX12_restore 8 = .ok (.if_icmp .eq 6, 3) := by decide +kernel
theorem dX12_restore_11 : decode cX12_restore 11 = .ok (.bipush (-103), 2) := by decide +kernel
theorem dX12_restore_13 : decode cX12_restore 13 = .ok (.ireturn, 1) := by decide +kernel
theorem dX12_restore_14 : decode cX12_restore 14 = .ok (.aload_n 0, 1) := by decide +kernel
theorem dX12_restore_15 : decode cX12_restore 15 = .ok (.getfield 40, 3) := by decide +kernel
theorem dX12_restore_18 : decode cX12_restore 18 = .ok (.aload_n 0, 1) := by decide +kernel
theorem dX12_restore_19 : decode cX12_restore 19 = .ok (.getfield 16, 3) := by decide +kernel
theorem dX12_restore_22 : decode cX12_restore 22 = .ok (.invokestatic 167, 3) := by decide +kernel
theorem dX12_restore_25 : decode cX12_restore 25 = .ok (.aload_n 0, 1) := by decide +kernel
theorem dX12_restore_26 : decode cX12_restore 26 = .ok (.getfield 43, 3) := by decide +kernel
theorem dX12_restore_29 : decode cX12_restore 29 = .ok (.aload_n 0, 1) := by decide +kernel
theorem dX12_restore_30 : decode cX12_restore 30 = .ok (.getfield 19, 3) := by decide +kernel
theorem dX12_restore_33 : decode cX12_restore 33 = .ok (.invokestatic 167, 3) := by decide +kernel
theorem dX12_restore_36 : decode cX12_restore 36 = .ok (.aload_n 0, 1) := by decide +kernel
theorem dX12_restore_37 : decode cX12_restore 37 = .ok (.getfield 46, 3) := by decide +kernel
theorem dX12_restore_40 : decode cX12_restore 40 = .ok (.aload_n 0, 1) := by decide +kernel
theorem dX12_restore_41 : decode cX12_restore 41 = .ok (.getfield 22, 3) := by decide +kernel
theorem dX12_restore_44 : decode cX12_restore 44 = .ok (.invokestatic 167, 3) := by decide +kernel
theorem dX12_restore_47 : decode cX12_restore 47 = .ok (.aload_n 0, 1) := by decide +kernel
theorem dX12_restore_48 : decode cX12_restore 48 = .ok (.getfield 49, 3) := by decide +kernel
theorem dX12_restore_51 : decode cX12_restore 51 = .ok (.aload_n 0, 1) := by decide +kernel
theorem dX12_restore_52 : decode cX12_restore 52 = .ok (.getfield 34, 3) := by decide +kernel
theorem dX12_restore_55 : decode cX12_restore 55 = .ok (.invokestatic 167, 3) := by decide +kernel
theorem dX12_restore_58 : decode cX12_restore 58 = .ok (.aload_n 0, 1) := by decide +kernel
theorem dX12_restore_59 : decode cX12_restore 59 = .ok (.aload_n 0, 1) := by decide +kernel
theorem dX12_restore_60 : decode cX12_restore 60 = .ok (.getfield 242, 3) := by decide +kernel
theorem dX12_restore_63 : decode cX12_restore 63 = .ok (.putfield 88, 3) := by decide +kernel
theorem dX12_restore_66 : decode cX12_restore 66 = .ok (.aload_n 0, 1) := by decide +kernel
theorem dX12_restore_67 : decode cX12_restore 67 = .ok (.aload_n 0, 1) := by decide +kernel
theorem dX12_restore_68 : decode cX12_restore 68 = .ok (.getfield 245, 3) := by decide +kernel
theorem dX12_restore_71 : decode cX12_restore 71 = .ok (.putfield 91, 3) := by decide +kernel
theorem dX12_restore_74 : decode cX12_restore 74 = .ok (.aload_n 0, 1) := by decide +kernel
theorem dX12_restore_75 : decode cX12_restore 75 = .ok (.aload_n 0, 1) := by decide +kernel
theorem dX12_restore_76 : decode cX12_restore 76 = .ok (.getfield 248, 3) := by decide +kernel
theorem dX12_restore_79 : decode cX12_restore 79 = .ok (.putfield 94, 3) := by decide +kernel
theorem dX12_restore_82 : decode cX12_restore 82 = .ok (.aload_n 0, 1) := by decide +kernel
theorem dX12_restore_83 : decode cX12_restore 83 = .ok (.aload_n 0, 1) := by decide +kernel
theorem dX12_restore_84 : decode cX12_restore 84 = .ok (.getfield 251, 3) := by decide +kernel
theorem dX12_restore_87 : decode cX12_restore 87 = .ok (.putfield 97, 3) := by decide +kernel
theorem dX12_restore_90 : decode cX12_restore 90 = .ok (.aload_n 0, 1) := by decide +kernel
theorem dX12_restore_91 : decode cX12_restore 91 = .ok (.aload_n 0, 1) := by decide +kernel
theorem dX12_restore_92 : decode cX12_restore 92 = .ok (.getfield 254, 3) := by decide +kernel
theorem dX12_restore_95 : decode cX12_restore 95 = .ok (.putfield 100, 3) := by decide +kernel
theorem dX12_restore_98 : decode cX12_restore 98 = .ok (.aload_n 0, 1) := by decide +kernel
theorem dX12_restore_99 : decode cX12_restore 99 = .ok (.getfield 88, 3) := by decide +kernel
theorem dX12_restore_102 : decode cX12_restore 102 = .ok (.ireturn, 1) := by decide +kernel
theorem dX12_likenessNow_0 : decode cX12_likenessNow 0 = .ok (.iconst 0, 1) := by decide +kernel
theorem dX12_likenessNow_1 : decode cX12_likenessNow 1 = .ok (.istore_n 1, 1) := by decide +kernel
theorem dX12_likenessNow_2 : decode cX12_likenessNow 2 = .ok (.iconst 0, 1) := by decide +kernel
theorem dX12_likenessNow_3 : decode cX12_likenessNow 3 = .ok (.istore_n 2, 1) := by decide +kernel
theorem dX12_likenessNow_4 : decode cX12_likenessNow 4 = .ok (.iload_n 2, 1) := by decide +kernel
theorem dX12_likenessNow_5 : decode cX12_likenessNow 5 = .ok (.aload_n 0, 1) := by decide +kernel
theorem dX12_likenessNow_6 : decode cX12_likenessNow 6 = .ok (.getfield 85, 3) := by decide +kernel
theorem dX12_likenessNow_9 : decode cX12_likenessNow 9 = .ok (.if_icmp .ge 37, 3) := by decide +kernel
theorem dX12_likenessNow_12 : decode cX12_likenessNow 12 = .ok (.iload_n 1, 1) := by decide +kernel
theorem dX12_likenessNow_13 : decode cX12_likenessNow 13 = .ok (.aload_n 0, 1) := by decide +kernel
theorem dX12_likenessNow_14 : decode cX12_likenessNow 14 = .ok (.getfield 22, 3) := by decide +kernel
theorem dX12_likenessNow_17 : decode cX12_likenessNow 17 = .ok (.iload_n 2, 1) := by decide +kernel
theorem dX12_likenessNow_18 : decode cX12_likenessNow 18 = .ok (.iaload, 1) := by decide +kernel
theorem dX12_likenessNow_19 : decode cX12_likenessNow 19 = .ok (.iload_n 2, 1) := by decide +kernel
theorem dX12_likenessNow_20 : decode cX12_likenessNow 20 = .ok (.if_icmp .le 17, 3) := by decide +kernel
theorem dX12_likenessNow_23 : decode cX12_likenessNow 23 = .ok (.aload_n 0, 1) := by decide +kernel
theorem dX12_likenessNow_24 : decode cX12_likenessNow 24 = .ok (.iload_n 2, 1) := by decide +kernel
theorem dX12_likenessNow_25 : decode cX12_likenessNow 25 = .ok (.aload_n 0, 1) := by decide +kernel
theorem dX12_likenessNow_26 : decode cX12_likenessNow 26 = .ok (.getfield 22, 3) := by decide +kernel
theorem dX12_likenessNow_29 : decode cX12_likenessNow 29 = .ok (.iload_n 2, 1) := by decide +kernel
theorem dX12_likenessNow_30 : decode cX12_likenessNow 30 = .ok (.iaload, 1) := by decide +kernel
theorem dX12_likenessNow_31 : decode cX12_likenessNow 31 = .ok (.invokevirtual 126, 3) := by decide +kernel
theorem dX12_likenessNow_34 : decode cX12_likenessNow 34 = .ok (.goto 4, 3) := by decide +kernel
theorem dX12_likenessNow_37 : decode cX12_likenessNow 37 = .ok (.iconst 0, 1) := by decide +kernel
theorem dX12_likenessNow_38 : decode cX12_likenessNow 38 = .ok (.iadd, 1) := by decide +kernel
theorem dX12_likenessNow_39 : decode cX12_likenessNow 39 = .ok (.istore_n 1, 1) := by decide +kernel
theorem dX12_likenessNow_40 : decode cX12_likenessNow 40 = .ok (.iinc 2 1, 3) := by decide +kernel
theorem dX12_likenessNow_43 : decode cX12_likenessNow 43 = .ok (.goto (-39), 3) := by decide +kernel
theorem dX12_likenessNow_46 : decode cX12_likenessNow 46 = .ok (.iload_n 1, 1) := by decide +kernel
theorem dX12_likenessNow_47 : decode cX12_likenessNow 47 = .ok (.ireturn, 1) := by decide +kernel
theorem dX12_mayTwos_0 : decode cX12_mayTwos 0 = .ok (.iconst 0, 1) := by decide +kernel
theorem dX12_mayTwos_1 : decode cX12_mayTwos 1 = .ok (.istore_n 1, 1) := by decide +kernel
theorem dX12_mayTwos_2 : decode cX12_mayTwos 2 = .ok (.iconst 0, 1) := by decide +kernel
theorem dX12_mayTwos_3 : decode cX12_mayTwos 3 = .ok (.istore_n 2, 1) := by decide +kernel
theorem dX12_mayTwos_4 : decode cX12_mayTwos 4 = .ok (.iload_n 2, 1) := by decide +kernel
theorem dX12_mayTwos_5 : decode cX12_mayTwos 5 = .ok (.aload_n 0, 1) := by decide +kernel
theorem dX12_mayTwos_6 : decode cX12_mayTwos 6 = .ok (.getfield 85, 3) := by decide +kernel
theorem dX12_mayTwos_9 : decode cX12_mayTwos 9 = .ok (.if_icmp .ge 20, 3) := by decide +kernel
theorem dX12_mayTwos_12 : decode cX12_mayTwos 12 = .ok (.iload_n 1, 1) := by decide +kernel
theorem dX12_mayTwos_13 : decode cX12_mayTwos 13 = .ok (.aload_n 0, 1) := by decide +kernel
theorem dX12_mayTwos_14 : decode cX12_mayTwos 14 = .ok (.iload_n 2, 1) := by decide +kernel
theorem dX12_mayTwos_15 : decode cX12_mayTwos 15 = .ok (.invokevirtual 136, 3) := by decide +kernel
theorem dX12_mayTwos_18 : decode cX12_mayTwos 18 = .ok (.invokestatic 257, 3) := by decide +kernel
theorem dX12_mayTwos_21 : decode cX12_mayTwos 21 = .ok (.iadd, 1) := by decide +kernel
theorem dX12_mayTwos_22 : decode cX12_mayTwos 22 = .ok (.istore_n 1, 1) := by decide +kernel
theorem dX12_mayTwos_23 : decode cX12_mayTwos 23 = .ok (.iinc 2 1, 3) := by decide +kernel
theorem dX12_mayTwos_26 : decode cX12_mayTwos 26 = .ok (.goto (-22), 3) := by decide +kernel
theorem dX12_mayTwos_29 : decode cX12_mayTwos 29 = .ok (.iload_n 1, 1) := by decide +kernel
theorem dX12_mayTwos_30 : decode cX12_mayTwos 30 = .ok (.iconst 2, 1) := by decide +kernel
theorem dX12_mayTwos_31 : decode cX12_mayTwos 31 = .ok (.idiv, 1) := by decide +kernel
theorem dX12_mayTwos_32 : decode cX12_mayTwos 32 = .ok (.ireturn, 1) := by decide +kernel
theorem dX12_aloneOf_0 : decode cX12_aloneOf 0 = .ok (.iconst 0, 1) := by decide +kernel
theorem dX12_aloneOf_1 : decode cX12_aloneOf 1 = .ok (.istore_n 2, 1) := by decide +kernel
theorem dX12_aloneOf_2 : decode cX12_aloneOf 2 = .ok (.iconst 0, 1) := by decide +kernel
theorem dX12_aloneOf_3 : decode cX12_aloneOf 3 = .ok (.istore_n 3, 1) := by decide +kernel
theorem dX12_aloneOf_4 : decode cX12_aloneOf 4 = .ok (.iload_n 3, 1) := by decide +kernel
theorem dX12_aloneOf_5 : decode cX12_aloneOf 5 = .ok (.aload_n 0, 1) := by decide +kernel
theorem dX12_aloneOf_6 : decode cX12_aloneOf 6 = .ok (.getfield 85, 3) := by decide +kernel
theorem dX12_aloneOf_9 : decode cX12_aloneOf 9 = .ok (.if_icmp .ge 41, 3) := by decide +kernel
theorem dX12_aloneOf_12 : decode cX12_aloneOf 12 = .ok (.iload_n 2, 1) := by decide +kernel
theorem dX12_aloneOf_13 : decode cX12_aloneOf 13 = .ok (.aload_n 0, 1) := by decide +kernel
theorem dX12_aloneOf_14 : decode cX12_aloneOf 14 = .ok (.getfield 22, 3) := by decide +kernel
theorem dX12_aloneOf_17 : decode cX12_aloneOf 17 = .ok (.iload_n 3, 1) := by decide +kernel
theorem dX12_aloneOf_18 : decode cX12_aloneOf 18 = .ok (.iaload, 1) := by decide +kernel
theorem dX12_aloneOf_19 : decode cX12_aloneOf 19 = .ok (.iconst (-1), 1) := by decide +kernel
theorem dX12_aloneOf_20 : decode cX12_aloneOf 20 = .ok (.if_icmp .ne 21, 3) := by decide +kernel
theorem dX12_aloneOf_23 : decode cX12_aloneOf 23 = .ok (.aload_n 0, 1) := by decide +kernel
theorem dX12_aloneOf_24 : decode cX12_aloneOf 24 = .ok (.getfield 13, 3) := by decide +kernel
theorem dX12_aloneOf_27 : decode cX12_aloneOf 27 = .ok (.iconst 2, 1) := by decide +kernel
theorem dX12_aloneOf_28 : decode cX12_aloneOf 28 = .ok (.iload_n 3, 1) := by decide +kernel
theorem dX12_aloneOf_29 : decode cX12_aloneOf 29 = .ok (.imul, 1) := by decide +kernel
theorem dX12_aloneOf_30 : decode cX12_aloneOf 30 = .ok (.iconst 1, 1) := by decide +kernel
theorem dX12_aloneOf_31 : decode cX12_aloneOf 31 = .ok (.iadd, 1) := by decide +kernel
theorem dX12_aloneOf_32 : decode cX12_aloneOf 32 = .ok (.iaload, 1) := by decide +kernel
theorem dX12_aloneOf_33 : decode cX12_aloneOf 33 = .ok (.iload_n 1, 1) := by decide +kernel
theorem dX12_aloneOf_34 : decode cX12_aloneOf 34 = .ok (.if_icmp .ne 7, 3) := by decide +kernel
theorem dX12_aloneOf_37 : decode cX12_aloneOf 37 = .ok (.iconst 1, 1) := by decide +kernel
theorem dX12_aloneOf_38 : decode cX12_aloneOf 38 = .ok (.goto 4, 3) := by decide +kernel
theorem dX12_aloneOf_41 : decode cX12_aloneOf 41 = .ok (.iconst 0, 1) := by decide +kernel
theorem dX12_aloneOf_42 : decode cX12_aloneOf 42 = .ok (.iadd, 1) := by decide +kernel
theorem dX12_aloneOf_43 : decode cX12_aloneOf 43 = .ok (.istore_n 2, 1) := by decide +kernel
theorem dX12_aloneOf_44 : decode cX12_aloneOf 44 = .ok (.iinc 3 1, 3) := by decide +kernel
theorem dX12_aloneOf_47 : decode cX12_aloneOf 47 = .ok (.goto (-43), 3) := by decide +kernel
theorem dX12_aloneOf_50 : decode cX12_aloneOf 50 = .ok (.iload_n 2, 1) := by decide +kernel
theorem dX12_aloneOf_51 : decode cX12_aloneOf 51 = .ok (.ireturn, 1) := by decide +kernel
theorem dX12_countOf_0 : decode cX12_countOf 0 = .ok (.iload_n 1, 1) := by decide +kernel
theorem dX12_countOf_1 : decode cX12_countOf 1 = .ok (.tableswitch 134 0 12 #[67, 72, 81, 86, 91, 91, 99, 104, 109, 114, 119, 124, 129], 67) := by decide +kernel
theorem dX12_countOf_68 : decode cX12_countOf 68 = .ok (.aload_n 0, 1) := by decide +kernel
theorem dX12_countOf_69 : decode cX12_countOf 69 = .ok (.getfield 85, 3) := by decide +kernel
theorem dX12_countOf_72 : decode cX12_countOf 72 = .ok (.ireturn, 1) := by decide +kernel
theorem dX12_countOf_73 : decode cX12_countOf 73 = .ok (.aload_n 0, 1) := by decide +kernel
theorem dX12_countOf_74 : decode cX12_countOf 74 = .ok (.aload_n 0, 1) := by decide +kernel
theorem dX12_countOf_75 : decode cX12_countOf 75 = .ok (.getfield 22, 3) := by decide +kernel
theorem dX12_countOf_78 : decode cX12_countOf 78 = .ok (.invokevirtual 171, 3) := by decide +kernel
theorem dX12_countOf_81 : decode cX12_countOf 81 = .ok (.ireturn, 1) := by decide +kernel
theorem dX12_countOf_82 : decode cX12_countOf 82 = .ok (.aload_n 0, 1) := by decide +kernel
theorem dX12_countOf_83 : decode cX12_countOf 83 = .ok (.invokevirtual 260, 3) := by decide +kernel
theorem dX12_countOf_86 : decode cX12_countOf 86 = .ok (.ireturn, 1) := by decide +kernel
theorem dX12_countOf_87 : decode cX12_countOf 87 = .ok (.aload_n 0, 1) := by decide +kernel
theorem dX12_countOf_88 : decode cX12_countOf 88 = .ok (.invokevirtual 263, 3) := by decide +kernel
theorem dX12_countOf_91 : decode cX12_countOf 91 = .ok (.ireturn, 1) := by decide +kernel
theorem dX12_countOf_92 : decode cX12_countOf 92 = .ok (.aload_n 0, 1) := by decide +kernel
theorem dX12_countOf_93 : decode cX12_countOf 93 = .ok (.iload_n 1, 1) := by decide +kernel
theorem dX12_countOf_94 : decode cX12_countOf 94 = .ok (.iconst 4, 1) := by decide +kernel
theorem dX12_countOf_95 : decode cX12_countOf 95 = .ok (.isub, 1) := by decide +kernel
theorem dX12_countOf_96 : decode cX12_countOf 96 = .ok (.invokevirtual 266, 3) := by decide +kernel
theorem dX12_countOf_99 : decode cX12_countOf 99 = .ok (.ireturn, 1) := by decide +kernel
theorem dX12_countOf_100 : decode cX12_countOf 100 = .ok (.aload_n 0, 1) := by decide +kernel
theorem dX12_countOf_101 : decode cX12_countOf 101 = .ok (.getfield 88, 3) := by decide +kernel
theorem dX12_countOf_104 : decode cX12_countOf 104 = .ok (.ireturn, 1) := by decide +kernel
theorem dX12_countOf_105 : decode cX12_countOf 105 = .ok (.aload_n 0, 1) := by decide +kernel
theorem dX12_countOf_106 : decode cX12_countOf 106 = .ok (.getfield 91, 3) := by decide +kernel
theorem dX12_countOf_109 : decode cX12_countOf 109 = .ok (.ireturn, 1) := by decide +kernel
theorem dX12_countOf_110 : decode cX12_countOf 110 = .ok (.aload_n 0, 1) := by decide +kernel
theorem dX12_countOf_111 : decode cX12_countOf 111 = .ok (.getfield 94, 3) := by decide +kernel
theorem dX12_countOf_114 : decode cX12_countOf 114 = .ok (.ireturn, 1) := by decide +kernel
theorem dX12_countOf_115 : decode cX12_countOf 115 = .ok (.aload_n 0, 1) := by decide +kernel
theorem dX12_countOf_116 : decode cX12_countOf 116 = .ok (.getfield 97, 3) := by decide +kernel
theorem dX12_countOf_119 : decode cX12_countOf 119 = .ok (.ireturn, 1) := by decide +kernel
theorem dX12_countOf_120 : decode cX12_countOf 120 = .ok (.aload_n 0, 1) := by decide +kernel
theorem dX12_countOf_121 : decode cX12_countOf 121 = .ok (.getfield 100, 3) := by decide +kernel
theorem dX12_countOf_124 : decode cX12_countOf 124 = .ok (.ireturn, 1) := by decide +kernel
theorem dX12_countOf_125 : decode cX12_countOf 125 = .ok (.aload_n 0, 1) := by decide +kernel
theorem dX12_countOf_126 : decode cX12_countOf 126 = .ok (.getfield 62, 3) := by decide +kernel
theorem dX12_countOf_129 : decode cX12_countOf 129 = .ok (.ireturn, 1) := by decide +kernel
theorem dX12_countOf_130 : decode cX12_countOf 130 = .ok (.aload_n 0, 1) := by decide +kernel
theorem dX12_countOf_131 : decode cX12_countOf 131 = .ok (.getfield 103, 3) := by decide +kernel
theorem dX12_countOf_134 : decode cX12_countOf 134 = .ok (.ireturn, 1) := by decide +kernel
theorem dX12_countOf_135 : decode cX12_countOf 135 = .ok (.bipush (-102), 2) := by decide +kernel
theorem dX12_countOf_137 : decode cX12_countOf 137 = .ok (.ireturn, 1) := by decide +kernel
theorem dX12_count_0 : decode cX12_count 0 = .ok (.aload_n 0, 1) := by decide +kernel
theorem dX12_count_1 : decode cX12_count 1 = .ok (.iload_n 1, 1) := by decide +kernel
theorem dX12_count_2 : decode cX12_count 2 = .ok (.invokevirtual 269, 3) := by decide +kernel
theorem dX12_count_5 : decode cX12_count 5 = .ok (.ireturn, 1) := by decide +kernel
theorem dX12_say_0 : decode cX12_say 0 = .ok (.aload_n 0, 1) := by decide +kernel
theorem dX12_say_1 : decode cX12_say 1 = .ok (.ldc2_w 272, 3) := by decide +kernel
theorem dX12_say_4 : decode cX12_say 4 = .ok (.aload_n 0, 1) := by decide +kernel
theorem dX12_say_5 : decode cX12_say 5 = .ok (.getfield 274, 3) := by decide +kernel
theorem dX12_say_8 : decode cX12_say 8 = .ok (.lmul, 1) := by decide +kernel
theorem dX12_say_9 : decode cX12_say 9 = .ok (.lload_n 1, 1) := by decide +kernel
theorem dX12_say_10 : decode cX12_say 10 = .ok (.ladd, 1) := by decide +kernel
theorem dX12_say_11 : decode cX12_say 11 = .ok (.putfield 274, 3) := by decide +kernel
theorem dX12_say_14 : decode cX12_say 14 = .ok (.return_, 1) := by decide +kernel
theorem dX12_sayDrawer_0 : decode cX12_sayDrawer 0 = .ok (.aload_n 0, 1) := by decide +kernel
theorem dX12_sayDrawer_1 : decode cX12_sayDrawer 1 = .ok (.aload_n 0, 1) := by decide +kernel
theorem dX12_sayDrawer_2 : decode cX12_sayDrawer 2 = .ok (.iconst 0, 1) := by decide +kernel
theorem dX12_sayDrawer_3 : decode cX12_sayDrawer 3 = .ok (.invokevirtual 191, 3) := by decide +kernel
theorem dX12_sayDrawer_6 : decode cX12_sayDrawer 6 = .ok (.i2l, 1) := by decide +kernel
theorem dX12_sayDrawer_7 : decode cX12_sayDrawer 7 = .ok (.invokevirtual 278, 3) := by decide +kernel
theorem dX12_sayDrawer_10 : decode cX12_sayDrawer 10 = .ok (.aload_n 0, 1) := by decide +kernel
theorem dX12_sayDrawer_11 : decode cX12_sayDrawer 11 = .ok (.aload_n 0, 1) := by decide +kernel
theorem dX12_sayDrawer_12 : decode cX12_sayDrawer 12 = .ok (.iconst 1, 1) := by decide +kernel
theorem dX12_sayDrawer_13 : decode cX12_sayDrawer 13 = .ok (.invokevirtual 191, 3) := by decide +kernel
theorem dX12_sayDrawer_16 : decode cX12_sayDrawer 16 = .ok (.i2l, 1) := by decide +kernel
theorem dX12_sayDrawer_17 : decode cX12_sayDrawer 17 = .ok (.invokevirtual 278, 3) := by decide +kernel
theorem dX12_sayDrawer_20 : decode cX12_sayDrawer 20 = .ok (.bipush 10, 2) := by decide +kernel
theorem dX12_sayDrawer_22 : decode cX12_sayDrawer 22 = .ok (.istore_n 1, 1) := by decide +kernel
theorem dX12_sayDrawer_23 : decode cX12_sayDrawer 23 = .ok (.iload_n 1, 1) := by decide +kernel
theorem dX12_sayDrawer_24 : decode cX12_sayDrawer 24 = .ok (.bipush 17, 2) := by decide +kernel
theorem dX12_sayDrawer_26 : decode cX12_sayDrawer 26 = .ok (.if_icmp .ge 19, 3) := by decide +kernel
theorem dX12_sayDrawer_29 : decode cX12_sayDrawer 29 = .ok (.aload_n 0, 1) := by decide +kernel
theorem dX12_sayDrawer_30 : decode cX12_sayDrawer 30 = .ok (.aload_n 0, 1) := by decide +kernel
theorem dX12_sayDrawer_31 : decode cX12_sayDrawer 31 = .ok (.iload_n 1, 1) := by decide +kernel
theorem dX12_sayDrawer_32 : decode cX12_sayDrawer 32 = .ok (.invokevirtual 191, 3) := by decide +kernel
theorem dX12_sayDrawer_35 : decode cX12_sayDrawer 35 = .ok (.i2l, 1) := by decide +kernel
theorem dX12_sayDrawer_36 : decode cX12_sayDrawer 36 = .ok (.invokevirtual 278, 3) := by decide +kernel
theorem dX12_sayDrawer_39 : decode cX12_sayDrawer 39 = .ok (.iinc 1 1, 3) := by decide +kernel
theorem dX12_sayDrawer_42 : decode cX12_sayDrawer 42 = .ok (.goto (-19), 3) := by decide +kernel
theorem dX12_sayDrawer_45 : decode cX12_sayDrawer 45 = .ok (.aload_n 0, 1) := by decide +kernel
theorem dX12_sayDrawer_46 : decode cX12_sayDrawer 46 = .ok (.aload_n 0, 1) := by decide +kernel
theorem dX12_sayDrawer_47 : decode cX12_sayDrawer 47 = .ok (.iconst 4, 1) := by decide +kernel
theorem dX12_sayDrawer_48 : decode cX12_sayDrawer 48 = .ok (.iconst 0, 1) := by decide +kernel
theorem dX12_sayDrawer_49 : decode cX12_sayDrawer 49 = .ok (.invokevirtual 199, 3) := by decide +kernel
theorem dX12_sayDrawer_52 : decode cX12_sayDrawer 52 = .ok (.i2l, 1) := by decide +kernel
theorem dX12_sayDrawer_53 : decode cX12_sayDrawer 53 = .ok (.invokevirtual 278, 3) := by decide +kernel
theorem dX12_sayDrawer_56 : decode cX12_sayDrawer 56 = .ok (.aload_n 0, 1) := by decide +kernel
theorem dX12_sayDrawer_57 : decode cX12_sayDrawer 57 = .ok (.aload_n 0, 1) := by decide +kernel
theorem dX12_sayDrawer_58 : decode cX12_sayDrawer 58 = .ok (.iconst 4, 1) := by decide +kernel
theorem dX12_sayDrawer_59 : decode cX12_sayDrawer 59 = .ok (.iconst 1, 1) := by decide +kernel
theorem dX12_sayDrawer_60 : decode cX12_sayDrawer 60 = .ok (.invokevirtual 199, 3) := by decide +kernel
theorem dX12_sayDrawer_63 : decode cX12_sayDrawer 63 = .ok (.i2l, 1) := by decide +kernel
theorem dX12_sayDrawer_64 : decode cX12_sayDrawer 64 = .ok (.invokevirtual 278, 3) := by decide +kernel
theorem dX12_sayDrawer_67 : decode cX12_sayDrawer 67 = .ok (.aload_n 0, 1) := by decide +kernel
theorem dX12_sayDrawer_68 : decode cX12_sayDrawer 68 = .ok (.aload_n 0, 1) := by decide +kernel
theorem dX12_sayDrawer_69 : decode cX12_sayDrawer 69 = .ok (.iconst 0, 1) := by decide +kernel
theorem dX12_sayDrawer_70 : decode cX12_sayDrawer 70 = .ok (.invokevirtual 205, 3) := by decide +kernel
theorem dX12_sayDrawer_73 : decode cX12_sayDrawer 73 = .ok (.i2l, 1) := by decide +kernel
theorem dX12_sayDrawer_74 : decode cX12_sayDrawer 74 = .ok (.invokevirtual 278, 3) := by decide +kernel
theorem dX12_sayDrawer_77 : decode cX12_sayDrawer 77 = .ok (.aload_n 0, 1) := by decide +kernel
theorem dX12_sayDrawer_78 : decode cX12_sayDrawer 78 = .ok (.aload_n 0, 1) := by decide +kernel
theorem dX12_sayDrawer_79 : decode cX12_sayDrawer 79 = .ok (.iconst 1, 1) := by decide +kernel
theorem dX12_sayDrawer_80 : decode cX12_sayDrawer 80 = .ok (.invokevirtual 205, 3) := by decide +kernel
theorem dX12_sayDrawer_83 : decode cX12_sayDrawer 83 = .ok (.i2l, 1) := by decide +kernel
theorem dX12_sayDrawer_84 : decode cX12_sayDrawer 84 = .ok (.invokevirtual 278, 3) := by decide +kernel
theorem dX12_sayDrawer_87 : decode cX12_sayDrawer 87 = .ok (.iconst 0, 1) := by decide +kernel
theorem dX12_sayDrawer_88 : decode cX12_sayDrawer 88 = .ok (.istore_n 1, 1) := by decide +kernel
theorem dX12_sayDrawer_89 : decode cX12_sayDrawer 89 = .ok (.iload_n 1, 1) := by decide +kernel
theorem dX12_sayDrawer_90 : decode cX12_sayDrawer 90 = .ok (.bipush 6, 2) := by decide +kernel
theorem dX12_sayDrawer_92 : decode cX12_sayDrawer 92 = .ok (.if_icmp .ge 19, 3) := by decide +kernel
theorem dX12_sayDrawer_95 : decode cX12_sayDrawer 95 = .ok (.aload_n 0, 1) := by decide +kernel
theorem dX12_sayDrawer_96 : decode cX12_sayDrawer 96 = .ok (.aload_n 0, 1) := by decide +kernel
theorem dX12_sayDrawer_97 : decode cX12_sayDrawer 97 = .ok (.iload_n 1, 1) := by decide +kernel
theorem dX12_sayDrawer_98 : decode cX12_sayDrawer 98 = .ok (.invokevirtual 208, 3) := by decide +kernel
theorem dX12_sayDrawer_101 : decode cX12_sayDrawer 101 = .ok (.i2l, 1) := by decide +kernel
theorem dX12_sayDrawer_102 : decode cX12_sayDrawer 102 = .ok (.invokevirtual 278, 3) := by decide +kernel
theorem dX12_sayDrawer_105 : decode cX12_sayDrawer 105 = .ok (.iinc 1 1, 3) := by decide +kernel
theorem dX12_sayDrawer_108 : decode cX12_sayDrawer 108 = .ok (.goto (-19), 3) := by decide +kernel
theorem dX12_sayDrawer_111 : decode cX12_sayDrawer 111 = .ok (.aload_n 0, 1) := by decide +kernel
theorem dX12_sayDrawer_112 : decode cX12_sayDrawer 112 = .ok (.aload_n 0, 1) := by decide +kernel
theorem dX12_sayDrawer_113 : decode cX12_sayDrawer 113 = .ok (.iconst 0, 1) := by decide +kernel
theorem dX12_sayDrawer_114 : decode cX12_sayDrawer 114 = .ok (.invokevirtual 214, 3) := by decide +kernel
theorem dX12_sayDrawer_117 : decode cX12_sayDrawer 117 = .ok (.i2l, 1) := by decide +kernel
theorem dX12_sayDrawer_118 : decode cX12_sayDrawer 118 = .ok (.invokevirtual 278, 3) := by decide +kernel
theorem dX12_sayDrawer_121 : decode cX12_sayDrawer 121 = .ok (.aload_n 0, 1) := by decide +kernel
theorem dX12_sayDrawer_122 : decode cX12_sayDrawer 122 = .ok (.aload_n 0, 1) := by decide +kernel
theorem dX12_sayDrawer_123 : decode cX12_sayDrawer 123 = .ok (.iconst 1, 1) := by decide +kernel
theorem dX12_sayDrawer_124 : decode cX12_sayDrawer 124 = .ok (.invokevirtual 214, 3) := by decide +kernel
theorem dX12_sayDrawer_127 : decode cX12_sayDrawer 127 = .ok (.i2l, 1) := by decide +kernel
theorem dX12_sayDrawer_128 : decode cX12_sayDrawer 128 = .ok (.invokevirtual 278, 3) := by decide +kernel
theorem dX12_sayDrawer_131 : decode cX12_sayDrawer 131 = .ok (.return_, 1) := by decide +kernel
theorem dX12_digest_0 : decode cX12_digest 0 = .ok (.aload_n 0, 1) := by decide +kernel
theorem dX12_digest_1 : decode cX12_digest 1 = .ok (.ldc2_w 282, 3) := by decide +kernel
theorem dX12_digest_4 : decode cX12_digest 4 = .ok (.putfield 274, 3) := by decide +kernel
theorem dX12_digest_7 : decode cX12_digest 7 = .ok (.iconst 0, 1) := by decide +kernel
theorem dX12_digest_8 : decode cX12_digest 8 = .ok (.istore_n 1, 1) := by decide +kernel
theorem dX12_digest_9 : decode cX12_digest 9 = .ok (.iload_n 1, 1) := by decide +kernel
theorem dX12_digest_10 : decode cX12_digest 10 = .ok (.aload_n 0, 1) := by decide +kernel
theorem dX12_digest_11 : decode cX12_digest 11 = .ok (.getfield 85, 3) := by decide +kernel
theorem dX12_digest_14 : decode cX12_digest 14 = .ok (.if_icmp .ge 66, 3) := by decide +kernel
theorem dX12_digest_17 : decode cX12_digest 17 = .ok (.iconst 0, 1) := by decide +kernel
theorem dX12_digest_18 : decode cX12_digest 18 = .ok (.istore_n 2, 1) := by decide +kernel
theorem dX12_digest_19 : decode cX12_digest 19 = .ok (.iload_n 2, 1) := by decide +kernel
theorem dX12_digest_20 : decode cX12_digest 20 = .ok (.bipush 11, 2) := by decide +kernel
theorem dX12_digest_22 : decode cX12_digest 22 = .ok (.if_icmp .ge 20, 3) := by decide +kernel
theorem dX12_digest_25 : decode cX12_digest 25 = .ok (.aload_n 0, 1) := by decide +kernel
theorem dX12_digest_26 : decode cX12_digest 26 = .ok (.aload_n 0, 1) := by decide +kernel
theorem dX12_digest_27 : decode cX12_digest 27 = .ok (.iload_n 1, 1) := by decide +kernel
theorem dX12_digest_28 : decode cX12_digest 28 = .ok (.iload_n 2, 1) := by decide +kernel
theorem dX12_digest_29 : decode cX12_digest 29 = .ok (.invokevirtual 151, 3) := by decide +kernel
theorem dX12_digest_32 : decode cX12_digest 32 = .ok (.i2l, 1) := by decide +kernel
theorem dX12_digest_33 : decode cX12_digest 33 = .ok (.invokevirtual 278, 3) := by decide +kernel
theorem dX12_digest_36 : decode cX12_digest 36 = .ok (.iinc 2 1, 3) := by decide +kernel
theorem dX12_digest_39 : decode cX12_digest 39 = .ok (.goto (-20), 3) := by decide +kernel
theorem dX12_digest_42 : decode cX12_digest 42 = .ok (.iconst 0, 1) := by decide +kernel
theorem dX12_digest_43 : decode cX12_digest 43 = .ok (.istore_n 2, 1) := by decide +kernel
theorem dX12_digest_44 : decode cX12_digest 44 = .ok (.iload_n 2, 1) := by decide +kernel
theorem dX12_digest_45 : decode cX12_digest 45 = .ok (.aload_n 0, 1) := by decide +kernel
theorem dX12_digest_46 : decode cX12_digest 46 = .ok (.getfield 85, 3) := by decide +kernel
theorem dX12_digest_49 : decode cX12_digest 49 = .ok (.if_icmp .ge 25, 3) := by decide +kernel
theorem dX12_digest_52 : decode cX12_digest 52 = .ok (.iload_n 2, 1) := by decide +kernel
theorem dX12_digest_53 : decode cX12_digest 53 = .ok (.iload_n 1, 1) := by decide +kernel
theorem dX12_digest_54 : decode cX12_digest 54 = .ok (.if_icmp .eq 14, 3) := by decide +kernel
theorem dX12_digest_57 : decode cX12_digest 57 = .ok (.aload_n 0, 1) := by decide +kernel
theorem dX12_digest_58 : decode cX12_digest 58 = .ok (.aload_n 0, 1) := by decide +kernel
theorem dX12_digest_59 : decode cX12_digest 59 = .ok (.iload_n 1, 1) := by decide +kernel
theorem dX12_digest_60 : decode cX12_digest 60 = .ok (.iload_n 2, 1) := by decide +kernel
theorem dX12_digest_61 : decode cX12_digest 61 = .ok (.invokevirtual 126, 3) := by decide +kernel
theorem dX12_digest_64 : decode cX12_digest 64 = .ok (.i2l, 1) := by decide +kernel
theorem dX12_digest_65 : decode cX12_digest 65 = .ok (.invokevirtual 278, 3) := by decide +kernel
theorem dX12_digest_68 : decode cX12_digest 68 = .ok (.iinc 2 1, 3) := by decide +kernel
theorem dX12_digest_71 : decode cX12_digest 71 = .ok (.goto (-27), 3) := by decide +kernel
theorem dX12_digest_74 : decode cX12_digest 74 = .ok (.iinc 1 1, 3) := by decide +kernel
theorem dX12_digest_77 : decode cX12_digest 77 = .ok (.goto (-68), 3) := by decide +kernel
theorem dX12_digest_80 : decode cX12_digest 80 = .ok (.aload_n 0, 1) := by decide +kernel
theorem dX12_digest_81 : decode cX12_digest 81 = .ok (.invokevirtual 163, 3) := by decide +kernel
theorem dX12_digest_84 : decode cX12_digest 84 = .ok (.ifCond .ne 7, 3) := by decide +kernel
theorem dX12_digest_87 : decode cX12_digest 87 = .ok (.aload_n 0, 1) := by decide +kernel
theorem dX12_digest_88 : decode cX12_digest 88 = .ok (.invokevirtual 284, 3) := by decide +kernel
theorem dX12_digest_91 : decode cX12_digest 91 = .ok (.iconst 0, 1) := by decide +kernel
theorem dX12_digest_92 : decode cX12_digest 92 = .ok (.istore_n 1, 1) := by decide +kernel
theorem dX12_digest_93 : decode cX12_digest 93 = .ok (.iload_n 1, 1) := by decide +kernel
theorem dX12_digest_94 : decode cX12_digest 94 = .ok (.aload_n 0, 1) := by decide +kernel
theorem dX12_digest_95 : decode cX12_digest 95 = .ok (.getfield 62, 3) := by decide +kernel
theorem dX12_digest_98 : decode cX12_digest 98 = .ok (.if_icmp .ge 20, 3) := by decide +kernel
theorem dX12_digest_101 : decode cX12_digest 101 = .ok (.aload_n 0, 1) := by decide +kernel
theorem dX12_digest_102 : decode cX12_digest 102 = .ok (.aload_n 0, 1) := by decide +kernel
theorem dX12_digest_103 : decode cX12_digest 103 = .ok (.getfield 7, 3) := by decide +kernel
theorem dX12_digest_106 : decode cX12_digest 106 = .ok (.iload_n 1, 1) := by decide +kernel
theorem dX12_digest_107 : decode cX12_digest 107 = .ok (.iaload, 1) := by decide +kernel
theorem dX12_digest_108 : decode cX12_digest 108 = .ok (.i2l, 1) := by decide +kernel
theorem dX12_digest_109 : decode cX12_digest 109 = .ok (.invokevirtual 278, 3) := by decide +kernel
theorem dX12_digest_112 : decode cX12_digest 112 = .ok (.iinc 1 1, 3) := by decide +kernel
theorem dX12_digest_115 : decode cX12_digest 115 = .ok (.goto (-22), 3) := by decide +kernel
theorem dX12_digest_118 : decode cX12_digest 118 = .ok (.iconst 0, 1) := by decide +kernel
theorem dX12_digest_119 : decode cX12_digest 119 = .ok (.istore_n 1, 1) := by decide +kernel
theorem dX12_digest_120 : decode cX12_digest 120 = .ok (.iload_n 1, 1) := by decide +kernel
theorem dX12_digest_121 : decode cX12_digest 121 = .ok (.bipush 13, 2) := by decide +kernel
theorem dX12_digest_123 : decode cX12_digest 123 = .ok (.if_icmp .ge 19, 3) := by decide +kernel
theorem dX12_digest_126 : decode cX12_digest 126 = .ok (.aload_n 0, 1) := by decide +kernel
theorem dX12_digest_127 : decode cX12_digest 127 = .ok (.aload_n 0, 1) := by decide +kernel
theorem dX12_digest_128 : decode cX12_digest 128 = .ok (.iload_n 1, 1) := by decide +kernel
theorem dX12_digest_129 : decode cX12_digest 129 = .ok (.invokevirtual 269, 3) := by decide +kernel
theorem dX12_digest_132 : decode cX12_digest 132 = .ok (.i2l, 1) := by decide +kernel
theorem dX12_digest_133 : decode cX12_digest 133 = .ok (.invokevirtual 278, 3) := by decide +kernel
theorem dX12_digest_136 : decode cX12_digest 136 = .ok (.iinc 1 1, 3) := by decide +kernel
theorem dX12_digest_139 : decode cX12_digest 139 = .ok (.goto (-19), 3) := by decide +kernel
theorem dX12_digest_142 : decode cX12_digest 142 = .ok (.aload_n 0, 1) := by decide +kernel
theorem dX12_digest_143 : decode cX12_digest 143 = .ok (.getfield 274, 3) := by decide +kernel
theorem dX12_digest_146 : decode cX12_digest 146 = .ok (.lreturn, 1) := by decide +kernel
end
section
theorem dL_law_0 : decode cL_law 0 = .ok (.new 7, 3) := by decide +kernel
theorem dL_law_3 : decode cL_law 3 = .ok (.dup, 1) := by decide +kernel
theorem dL_law_4 : decode cL_law 4 = .ok (.invokespecial 9, 3) := by decide +kernel
theorem dL_law_7 : decode cL_law 7 = .ok (.astore_n 1, 1) := by decide +kernel
theorem dL_law_8 : decode cL_law 8 = .ok (.new 10, 3) := by decide +kernel
theorem dL_law_11 : decode cL_law 11 = .ok (.dup, 1) := by decide +kernel
theorem dL_law_12 : decode cL_law 12 = .ok (.invokespecial 12, 3) := by decide +kernel
theorem dL_law_15 : decode cL_law 15 = .ok (.astore_n 2, 1) := by decide +kernel
theorem dL_law_16 : decode cL_law 16 = .ok (.iconst 0, 1) := by decide +kernel
theorem dL_law_17 : decode cL_law 17 = .ok (.istore_n 3, 1) := by decide +kernel
theorem dL_law_18 : decode cL_law 18 = .ok (.iload_n 3, 1) := by decide +kernel
theorem dL_law_19 : decode cL_law 19 = .ok (.aload_n 0, 1) := by decide +kernel
theorem dL_law_20 : decode cL_law 20 = .ok (.arraylength, 1) := by decide +kernel
theorem dL_law_21 : decode cL_law 21 = .ok (.iconst 4, 1) := by decide +kernel
theorem dL_law_22 : decode cL_law 22 = .ok (.isub, 1) := by decide +kernel
theorem dL_law_23 : decode cL_law 23 = .ok (.if_icmp .gt 774, 3) := by decide +kernel
theorem dL_law_26 : decode cL_law 26 = .ok (.aload_n 0, 1) := by decide +kernel
theorem dL_law_27 : decode cL_law 27 = .ok (.iload_n 3, 1) := by decide +kernel
theorem dL_law_28 : decode cL_law 28 = .ok (.iaload, 1) := by decide +kernel
theorem dL_law_29 : decode cL_law 29 = .ok (.bipush 31, 2) := by decide +kernel
theorem dL_law_31 : decode cL_law 31 = .ok (.iand, 1) := by decide +kernel
theorem dL_law_32 : decode cL_law 32 = .ok (.tableswitch 759 0 25 #[120, 143, 156, 169, 182, 215, 248, 281, 314, 347, 380, 403, 436, 449, 472, 505, 528, 551, 574, 597, 640, 653, 696, 709, 722, 745], 120) := by decide +kernel
theorem dL_law_152 : decode cL_law 152 = .ok (.aload_n 1, 1) := by decide +kernel
theorem dL_law_153 : decode cL_law 153 = .ok (.aload_n 0, 1) := by decide +kernel
theorem dL_law_154 : decode cL_law 154 = .ok (.iload_n 3, 1) := by decide +kernel
theorem dL_law_155 : decode cL_law 155 = .ok (.iconst 1, 1) := by decide +kernel
theorem dL_law_156 : decode cL_law 156 = .ok (.iadd, 1) := by decide +kernel
theorem dL_law_157 : decode cL_law 157 = .ok (.iaload, 1) := by decide +kernel
theorem dL_law_158 : decode cL_law 158 = .ok (.invokevirtual 13, 3) := by decide +kernel
theorem dL_law_161 : decode cL_law 161 = .ok (.aload_n 2, 1) := by decide +kernel
theorem dL_law_162 : decode cL_law 162 = .ok (.aload_n 0, 1) := by decide +kernel
theorem dL_law_163 : decode cL_law 163 = .ok (.iload_n 3, 1) := by decide +kernel
theorem dL_law_164 : decode cL_law 164 = .ok (.iconst 1, 1) := by decide +kernel
theorem dL_law_165 : decode cL_law 165 = .ok (.iadd, 1) := by decide +kernel
theorem dL_law_166 : decode cL_law 166 = .ok (.iaload, 1) := by decide +kernel
theorem dL_law_167 : decode cL_law 167 = .ok (.invokevirtual 17, 3) := by decide +kernel
theorem dL_law_170 : decode cL_law 170 = .ok (.if_icmp .eq 621, 3) := by decide +kernel
theorem dL_law_173 : decode cL_law 173 = .ok (.iconst 0, 1) := by decide +kernel
theorem dL_law_174 : decode cL_law 174 = .ok (.ireturn, 1) := by decide +kernel
theorem dL_law_175 : decode cL_law 175 = .ok (.aload_n 1, 1) := by decide +kernel
theorem dL_law_176 : decode cL_law 176 = .ok (.invokevirtual 18, 3) := by decide +kernel
theorem dL_law_179 : decode cL_law 179 = .ok (.aload_n 2, 1) := by decide +kernel
theorem dL_law_180 : decode cL_law 180 = .ok (.invokevirtual 22, 3) := by decide +kernel
theorem dL_law_183 : decode cL_law 183 = .ok (.if_icmp .eq 608, 3) := by decide +kernel
theorem dL_law_186 : decode cL_law 186 = .ok (.iconst 0, 1) := by decide +kernel
theorem dL_law_187 : decode cL_law 187 = .ok (.ireturn, 1) := by decide +kernel
theorem dL_law_188 : decode cL_law 188 = .ok (.aload_n 1, 1) := by decide +kernel
theorem dL_law_189 : decode cL_law 189 = .ok (.invokevirtual 23, 3) := by decide +kernel
theorem dL_law_192 : decode cL_law 192 = .ok (.aload_n 2, 1) := by decide +kernel
theorem dL_law_193 : decode cL_law 193 = .ok (.invokevirtual 26, 3) := by decide +kernel
theorem dL_law_196 : decode cL_law 196 = .ok (.if_icmp .eq 595, 3) := by decide +kernel
theorem dL_law_199 : decode cL_law 199 = .ok (.iconst 0, 1) := by decide +kernel
theorem dL_law_200 : decode cL_law 200 = .ok (.ireturn, 1) := by decide +kernel
theorem dL_law_201 : decode cL_law 201 = .ok (.aload_n 1, 1) := by decide +kernel
theorem dL_law_202 : decode cL_law 202 = .ok (.invokevirtual 27, 3) := by decide +kernel
theorem dL_law_205 : decode cL_law 205 = .ok (.aload_n 2, 1) := by decide +kernel
theorem dL_law_206 : decode cL_law 206 = .ok (.invokevirtual 30, 3) := by decide +kernel
theorem dL_law_209 : decode cL_law 209 = .ok (.if_icmp .eq 582, 3) := by decide +kernel
theorem dL_law_212 : decode cL_law 212 = .ok (.iconst 0, 1) := by decide +kernel
theorem dL_law_213 : decode cL_law 213 = .ok (.ireturn, 1) := by decide +kernel
theorem dL_law_214 : decode cL_law 214 = .ok (.aload_n 1, 1) := by decide +kernel
theorem dL_law_215 : decode cL_law 215 = .ok (.aload_n 0, 1) := by decide +kernel
theorem dL_law_216 : decode cL_law 216 = .ok (.iload_n 3, 1) := by decide +kernel
theorem dL_law_217 : decode cL_law 217 = .ok (.iconst 1, 1) := by decide +kernel
theorem dL_law_218 : decode cL_law 218 = .ok (.iadd, 1) := by decide +kernel
theorem dL_law_219 : decode cL_law 219 = .ok (.iaload, 1) := by decide +kernel
theorem dL_law_220 : decode cL_law 220 = .ok (.aload_n 0, 1) := by decide +kernel
theorem dL_law_221 : decode cL_law 221 = .ok (.iload_n 3, 1) := by decide +kernel
theorem dL_law_222 : decode cL_law 222 = .ok (.iconst 2, 1) := by decide +kernel
theorem dL_law_223 : decode cL_law 223 = .ok (.iadd, 1) := by decide +kernel
theorem dL_law_224 : decode cL_law 224 = .ok (.iaload, 1) := by decide +kernel
theorem dL_law_225 : decode cL_law 225 = .ok (.invokevirtual 31, 3) := by decide +kernel
theorem dL_law_228 : decode cL_law 228 = .ok (.aload_n 2, 1) := by decide +kernel
theorem dL_law_229 : decode cL_law 229 = .ok (.aload_n 0, 1) := by decide +kernel
theorem dL_law_230 : decode cL_law 230 = .ok (.iload_n 3, 1) := by decide +kernel
theorem dL_law_231 : decode cL_law 231 = .ok (.iconst 1, 1) := by decide +kernel
theorem dL_law_232 : decode cL_law 232 = .ok (.iadd, 1) := by decide +kernel
theorem dL_law_233 : decode cL_law 233 = .ok (.iaload, 1) := by decide +kernel
theorem dL_law_234 : decode cL_law 234 = .ok (.aload_n 0, 1) := by decide +kernel
theorem dL_law_235 : decode cL_law 235 = .ok (.iload_n 3, 1) := by decide +kernel
theorem dL_law_236 : decode cL_law 236 = .ok (.iconst 2, 1) := by decide +kernel
theorem dL_law_237 : decode cL_law 237 = .ok (.iadd, 1) := by decide +kernel
theorem dL_law_238 : decode cL_law 238 = .ok (.iaload, 1) := by decide +kernel
theorem dL_law_239 : decode cL_law 239 = .ok (.invokevirtual 35, 3) := by decide +kernel
theorem dL_law_242 : decode cL_law 242 = .ok (.if_icmp .eq 549, 3) := by decide +kernel
theorem dL_law_245 : decode cL_law 245 = .ok (.iconst 0, 1) := by decide +kernel
theorem dL_law_246 : decode cL_law 246 = .ok (.ireturn, 1) := by decide +kernel
theorem dL_law_247 : decode cL_law 247 = .ok (.aload_n 1, 1) := by decide +kernel
theorem dL_law_248 : decode cL_law 248 = .ok (.aload_n 0, 1) := by decide +kernel
theorem dL_law_249 : decode cL_law 249 = .ok (.iload_n 3, 1) := by decide +kernel
theorem dL_law_250 : decode cL_law 250 = .ok (.iconst 1, 1) := by decide +kernel
theorem dL_law_251 : decode cL_law 251 = .ok (.iadd, 1) := by decide +kernel
theorem dL_law_252 : decode cL_law 252 = .ok (.iaload, 1) := by decide +kernel
theorem dL_law_253 : decode cL_law 253 = .ok (.aload_n 0, 1) := by decide +kernel
theorem dL_law_254 : decode cL_law 254 = .ok (.iload_n 3, 1) := by decide +kernel
theorem dL_law_255 : decode cL_law 255 = .ok (.iconst 2, 1) := by decide +kernel
theorem dL_law_256 : decode cL_law 256 = .ok (.iadd, 1) := by decide +kernel
theorem dL_law_257 : decode cL_law 257 = .ok (.iaload, 1) := by decide +kernel
theorem dL_law_258 : decode cL_law 258 = .ok (.invokevirtual 36, 3) := by decide +kernel
theorem dL_law_261 : decode cL_law 261 = .ok (.aload_n 2, 1) := by decide +kernel
theorem dL_law_262 : decode cL_law 262 = .ok (.aload_n 0, 1) := by decide +kernel
theorem dL_law_263 : decode cL_law 263 = .ok (.iload_n 3, 1) := by decide +kernel
theorem dL_law_264 : decode cL_law 264 = .ok (.iconst 1, 1) := by decide +kernel
theorem dL_law_265 : decode cL_law 265 = .ok (.iadd, 1) := by decide +kernel
theorem dL_law_266 : decode cL_law 266 = .ok (.iaload, 1) := by decide +kernel
theorem dL_law_267 : decode cL_law 267 = .ok (.aload_n 0, 1) := by decide +kernel
theorem dL_law_268 : decode cL_law 268 = .ok (.iload_n 3, 1) := by decide +kernel
theorem dL_law_269 : decode cL_law 269 = .ok (.iconst 2, 1) := by decide +kernel
theorem dL_law_270 : decode cL_law 270 = .ok (.iadd, 1) := by decide +kernel
theorem dL_law_271 : decode cL_law 271 = .ok (.iaload, 1) := by decide +kernel
theorem dL_law_272 : decode cL_law 272 = .ok (.invokevirtual 39, 3) := by decide +kernel
theorem dL_law_275 : decode cL_law 275 = .ok (.if_icmp .eq 516, 3) := by decide +kernel
theorem dL_law_278 : decode cL_law 278 = .ok (.iconst 0, 1) := by decide +kernel
theorem dL_law_279 : decode cL_law 279 = .ok (.ireturn, 1) := by decide +kernel
theorem dL_law_280 : decode cL_law 280 = .ok (.aload_n 1, 1) := by decide +kernel
theorem dL_law_281 : decode cL_law 281 = .ok (.aload_n 0, 1) := by decide +kernel
theorem dL_law_282 : decode cL_law 282 = .ok (.iload_n 3, 1) := by decide +kernel
theorem dL_law_283 : decode cL_law 283 = .ok (.iconst 1, 1) := by decide +kernel
theorem dL_law_284 : decode cL_law 284 = .ok (.iadd, 1) := by decide +kernel
theorem dL_law_285 : decode cL_law 285 = .ok (.iaload, 1) := by decide +kernel
theorem dL_law_286 : decode cL_law 286 = .ok (.aload_n 0, 1) := by decide +kernel
theorem dL_law_287 : decode cL_law 287 = .ok (.iload_n 3, 1) := by decide +kernel
theorem dL_law_288 : decode cL_law 288 = .ok (.iconst 2, 1) := by decide +kernel
theorem dL_law_289 : decode cL_law 289 = .ok (.iadd, 1) := by decide +kernel
theorem dL_law_290 : decode cL_law 290 = .ok (.iaload, 1) := by decide +kernel
theorem dL_law_291 : decode cL_law 291 = .ok (.invokevirtual 40, 3) := by decide +kernel
theorem dL_law_294 : decode cL_law 294 = .ok (.aload_n 2, 1) := by decide +kernel
theorem dL_law_295 : decode cL_law 295 = .ok (.aload_n 0, 1) := by decide +kernel
theorem dL_law_296 : decode cL_law 296 = .ok (.iload_n 3, 1) := by decide +kernel
theorem dL_law_297 : decode cL_law 297 = .ok (.iconst 1, 1) := by decide +kernel
theorem dL_law_298 : decode cL_law 298 = .ok (.iadd, 1) := by decide +kernel
theorem dL_law_299 : decode cL_law 299 = .ok (.iaload, 1) := by decide +kernel
theorem dL_law_300 : decode cL_law 300 = .ok (.aload_n 0, 1) := by decide +kernel
theorem dL_law_301 : decode cL_law 301 = .ok (.iload_n 3, 1) := by decide +kernel
theorem dL_law_302 : decode cL_law 302 = .ok (.iconst 2, 1) := by decide +kernel
theorem dL_law_303 : decode cL_law 303 = .ok (.iadd, 1) := by decide +kernel
theorem dL_law_304 : decode cL_law 304 = .ok (.iaload, 1) := by decide +kernel
theorem dL_law_305 : decode cL_law 305 = .ok (.invokevirtual 43, 3) := by decide +kernel
theorem dL_law_308 : decode cL_law 308 = .ok (.if_icmp .eq 483, 3) := by decide +kernel
theorem dL_law_311 : decode cL_law 311 = .ok (.iconst 0, 1) := by decide +kernel
theorem dL_law_312 : decode cL_law 312 = .ok (.ireturn, 1) := by decide +kernel
theorem dL_law_313 : decode cL_law 313 = .ok (.aload_n 1, 1) := by decide +kernel
theorem dL_law_314 : decode cL_law 314 = .ok (.aload_n 0, 1) := by decide +kernel
theorem dL_law_315 : decode cL_law 315 = .ok (.iload_n 3, 1) := by decide +kernel
theorem dL_law_316 : decode cL_law 316 = .ok (.iconst 1, 1) := by decide +kernel
theorem dL_law_317 : decode cL_law 317 = .ok (.iadd, 1) := by decide +kernel
theorem dL_law_318 : decode cL_law 318 = .ok (.iaload, 1) := by decide +kernel
theorem dL_law_319 : decode cL_law 319 = .ok (.aload_n 0, 1) := by decide +kernel
theorem dL_law_320 : decode cL_law 320 = .ok (.iload_n 3, 1) := by decide +kernel
theorem dL_law_321 : decode cL_law 321 = .ok (.iconst 2, 1) := by decide +kernel
theorem dL_law_322 : decode cL_law 322 = .ok (.iadd, 1) := by decide +kernel
theorem dL_law_323 : decode cL_law 323 = .ok (.iaload, 1) := by decide +kernel
theorem dL_law_324 : decode cL_law 324 = .ok (.invokevirtual 44, 3) := by decide +kernel
theorem dL_law_327 : decode cL_law 327 = .ok (.aload_n 2, 1) := by decide +kernel
theorem dL_law_328 : decode cL_law 328 = .ok (.aload_n 0, 1) := by decide +kernel
theorem dL_law_329 : decode cL_law 329 = .ok (.iload_n 3, 1) := by decide +kernel
theorem dL_law_330 : decode cL_law 330 = .ok (.iconst 1, 1) := by decide +kernel
theorem dL_law_331 : decode cL_law 331 = .ok (.iadd, 1) := by decide +kernel
theorem dL_law_332 : decode cL_law 332 = .ok (.iaload, 1) := by decide +kernel
theorem dL_law_333 : decode cL_law 333 = .ok (.aload_n 0, 1) := by decide +kernel
theorem dL_law_334 : decode cL_law 334 = .ok (.iload_n 3, 1) := by decide +kernel
theorem dL_law_335 : decode cL_law 335 = .ok (.iconst 2, 1) := by decide +kernel
theorem dL_law_336 : decode cL_law 336 = .ok (.iadd, 1) := by decide +kernel
theorem dL_law_337 : decode cL_law 337 = .ok (.iaload, 1) := by decide +kernel
theorem dL_law_338 : decode cL_law 338 = .ok (.invokevirtual 47, 3) := by decide +kernel
theorem dL_law_341 : decode cL_law 341 = .ok (.if_icmp .eq 450, 3) := by decide +kernel
theorem dL_law_344 : decode cL_law 344 = .ok (.iconst 0, 1) := by decide +kernel
theorem dL_law_345 : decode cL_law 345 = .ok (.ireturn, 1) := by decide +kernel
theorem dL_law_346 : decode cL_law 346 = .ok (.aload_n 1, 1) := by decide +kernel
theorem dL_law_347 : decode cL_law 347 = .ok (.aload_n 0, 1) := by decide +kernel
theorem dL_law_348 : decode cL_law 348 = .ok (.iload_n 3, 1) := by decide +kernel
theorem dL_law_349 : decode cL_law 349 = .ok (.iconst 1, 1) := by decide +kernel
theorem dL_law_350 : decode cL_law 350 = .ok (.iadd, 1) := by decide +kernel
theorem dL_law_351 : decode cL_law 351 = .ok (.iaload, 1) := by decide +kernel
theorem dL_law_352 : decode cL_law 352 = .ok (.aload_n 0, 1) := by decide +kernel
theorem dL_law_353 : decode cL_law 353 = .ok (.iload_n 3, 1) := by decide +kernel
theorem dL_law_354 : decode cL_law 354 = .ok (.iconst 2, 1) := by decide +kernel
theorem dL_law_355 : decode cL_law 355 = .ok (.iadd, 1) := by decide +kernel
theorem dL_law_356 : decode cL_law 356 = .ok (.iaload, 1) := by decide +kernel
theorem dL_law_357 : decode cL_law 357 = .ok (.invokevirtual 48, 3) := by decide +kernel
theorem dL_law_360 : decode cL_law 360 = .ok (.aload_n 2, 1) := by decide +kernel
theorem dL_law_361 : decode cL_law 361 = .ok (.aload_n 0, 1) := by decide +kernel
theorem dL_law_362 : decode cL_law 362 = .ok (.iload_n 3, 1) := by decide +kernel
theorem dL_law_363 : decode cL_law 363 = .ok (.iconst 1, 1) := by decide +kernel
theorem dL_law_364 : decode cL_law 364 = .ok (.iadd, 1) := by decide +kernel
theorem dL_law_365 : decode cL_law 365 = .ok (.iaload, 1) := by decide +kernel
theorem dL_law_366 : decode cL_law 366 = .ok (.aload_n 0, 1) := by decide +kernel
theorem dL_law_367 : decode cL_law 367 = .ok (.iload_n 3, 1) := by decide +kernel
theorem dL_law_368 : decode cL_law 368 = .ok (.iconst 2, 1) := by decide +kernel
theorem dL_law_369 : decode cL_law 369 = .ok (.iadd, 1) := by decide +kernel
theorem dL_law_370 : decode cL_law 370 = .ok (.iaload, 1) := by decide +kernel
theorem dL_law_371 : decode cL_law 371 = .ok (.invokevirtual 51, 3) := by decide +kernel
theorem dL_law_374 : decode cL_law 374 = .ok (.if_icmp .eq 417, 3) := by decide +kernel
theorem dL_law_377 : decode cL_law 377 = .ok (.iconst 0, 1) := by decide +kernel
theorem dL_law_378 : decode cL_law 378 = .ok (.ireturn, 1) := by decide +kernel
theorem dL_law_379 : decode cL_law 379 = .ok (.aload_n 1, 1) := by decide +kernel
theorem dL_law_380 : decode cL_law 380 = .ok (.aload_n 0, 1) := by decide +kernel
theorem dL_law_381 : decode cL_law 381 = .ok (.iload_n 3, 1) := by decide +kernel
theorem dL_law_382 : decode cL_law 382 = .ok (.iconst 1, 1) := by decide +kernel
theorem dL_law_383 : decode cL_law 383 = .ok (.iadd, 1) := by decide +kernel
theorem dL_law_384 : decode cL_law 384 = .ok (.iaload, 1) := by decide +kernel
theorem dL_law_385 : decode cL_law 385 = .ok (.aload_n 0, 1) := by decide +kernel
theorem dL_law_386 : decode cL_law 386 = .ok (.iload_n 3, 1) := by decide +kernel
theorem dL_law_387 : decode cL_law 387 = .ok (.iconst 2, 1) := by decide +kernel
theorem dL_law_388 : decode cL_law 388 = .ok (.iadd, 1) := by decide +kernel
theorem dL_law_389 : decode cL_law 389 = .ok (.iaload, 1) := by decide +kernel
theorem dL_law_390 : decode cL_law 390 = .ok (.invokevirtual 52, 3) := by decide +kernel
theorem dL_law_393 : decode cL_law 393 = .ok (.aload_n 2, 1) := by decide +kernel
theorem dL_law_394 : decode cL_law 394 = .ok (.aload_n 0, 1) := by decide +kernel
theorem dL_law_395 : decode cL_law 395 = .ok (.iload_n 3, 1) := by decide +kernel
theorem dL_law_396 : decode cL_law 396 = .ok (.iconst 1, 1) := by decide +kernel
theorem dL_law_397 : decode cL_law 397 = .ok (.iadd, 1) := by decide +kernel
theorem dL_law_398 : decode cL_law 398 = .ok (.iaload, 1) := by decide +kernel
theorem dL_law_399 : decode cL_law 399 = .ok (.aload_n 0, 1) := by decide +kernel
theorem dL_law_400 : decode cL_law 400 = .ok (.iload_n 3, 1) := by decide +kernel
theorem dL_law_401 : decode cL_law 401 = .ok (.iconst 2, 1) := by decide +kernel
theorem dL_law_402 : decode cL_law 402 = .ok (.iadd, 1) := by decide +kernel
theorem dL_law_403 : decode cL_law 403 = .ok (.iaload, 1) := by decide +kernel
theorem dL_law_404 : decode cL_law 404 = .ok (.invokevirtual 55, 3) := by decide +kernel
theorem dL_law_407 : decode cL_law 407 = .ok (.if_icmp .eq 384, 3) := by decide +kernel
theorem dL_law_410 : decode cL_law 410 = .ok (.iconst 0, 1) := by decide +kernel
theorem dL_law_411 : decode cL_law 411 = .ok (.ireturn, 1) := by decide +kernel
theorem dL_law_412 : decode cL_law 412 = .ok (.aload_n 1, 1) := by decide +kernel
theorem dL_law_413 : decode cL_law 413 = .ok (.aload_n 0, 1) := by decide +kernel
theorem dL_law_414 : decode cL_law 414 = .ok (.iload_n 3, 1) := by decide +kernel
theorem dL_law_415 : decode cL_law 415 = .ok (.iconst 1, 1) := by decide +kernel
theorem dL_law_416 : decode cL_law 416 = .ok (.iadd, 1) := by decide +kernel
theorem dL_law_417 : decode cL_law 417 = .ok (.iaload, 1) := by decide +kernel
theorem dL_law_418 : decode cL_law 418 = .ok (.invokevirtual 56, 3) := by decide +kernel
theorem dL_law_421 : decode cL_law 421 = .ok (.aload_n 2, 1) := by decide +kernel
theorem dL_law_422 : decode cL_law 422 = .ok (.aload_n 0, 1) := by decide +kernel
theorem dL_law_423 : decode cL_law 423 = .ok (.iload_n 3, 1) := by decide +kernel
theorem dL_law_424 : decode cL_law 424 = .ok (.iconst 1, 1) := by decide +kernel
theorem dL_law_425 : decode cL_law 425 = .ok (.iadd, 1) := by decide +kernel
theorem dL_law_426 : decode cL_law 426 = .ok (.iaload, 1) := by decide +kernel
theorem dL_law_427 : decode cL_law 427 = .ok (.invokevirtual 59, 3) := by decide +kernel
theorem dL_law_430 : decode cL_law 430 = .ok (.if_icmp .eq 361, 3) := by decide +kernel
theorem dL_law_433 : decode cL_law 433 = .ok (.iconst 0, 1) := by decide +kernel
theorem dL_law_434 : decode cL_law 434 = .ok (.ireturn, 1) := by decide +kernel
theorem dL_law_435 : decode cL_law 435 = .ok (.aload_n 1, 1) := by decide +kernel
theorem dL_law_436 : decode cL_law 436 = .ok (.aload_n 0, 1) := by decide +kernel
theorem dL_law_437 : decode cL_law 437 = .ok (.iload_n 3, 1) := by decide +kernel
theorem dL_law_438 : decode cL_law 438 = .ok (.iconst 1, 1) := by decide +kernel
theorem dL_law_439 : decode cL_law 439 = .ok (.iadd, 1) := by decide +kernel
theorem dL_law_440 : decode cL_law 440 = .ok (.iaload, 1) := by decide +kernel
theorem dL_law_441 : decode cL_law 441 = .ok (.aload_n 0, 1) := by decide +kernel
theorem dL_law_442 : decode cL_law 442 = .ok (.iload_n 3, 1) := by decide +kernel
theorem dL_law_443 : decode cL_law 443 = .ok (.iconst 2, 1) := by decide +kernel
theorem dL_law_444 : decode cL_law 444 = .ok (.iadd, 1) := by decide +kernel
theorem dL_law_445 : decode cL_law 445 = .ok (.iaload, 1) := by decide +kernel
theorem dL_law_446 : decode cL_law 446 = .ok (.invokevirtual 60, 3) := by decide +kernel
theorem dL_law_449 : decode cL_law 449 = .ok (.aload_n 2, 1) := by decide +kernel
theorem dL_law_450 : decode cL_law 450 = .ok (.aload_n 0, 1) := by decide +kernel
theorem dL_law_451 : decode cL_law 451 = .ok (.iload_n 3, 1) := by decide +kernel
theorem dL_law_452 : decode cL_law 452 = .ok (.iconst 1, 1) := by decide +kernel
theorem dL_law_453 : decode cL_law 453 = .ok (.iadd, 1) := by decide +kernel
theorem dL_law_454 : decode cL_law 454 = .ok (.iaload, 1) := by decide +kernel
theorem dL_law_455 : decode cL_law 455 = .ok (.aload_n 0, 1) := by decide +kernel
theorem dL_law_456 : decode cL_law 456 = .ok (.iload_n 3, 1) := by decide +kernel
theorem dL_law_457 : decode cL_law 457 = .ok (.iconst 2, 1) := by decide +kernel
theorem dL_law_458 : decode cL_law 458 = .ok (.iadd, 1) := by decide +kernel
theorem dL_law_459 : decode cL_law 459 = .ok (.iaload, 1) := by decide +kernel
theorem dL_law_460 : decode cL_law 460 = .ok (.invokevirtual 63, 3) := by decide +kernel
theorem dL_law_463 : decode cL_law 463 = .ok (.if_icmp .eq 328, 3) := by decide +kernel
theorem dL_law_466 : decode cL_law 466 = .ok (.iconst 0, 1) := by decide +kernel
theorem dL_law_467 : decode cL_law 467 = .ok (.ireturn, 1) := by decide +kernel
theorem dL_law_468 : decode cL_law 468 = .ok (.aload_n 1, 1) := by decide +kernel
theorem dL_law_469 : decode cL_law 469 = .ok (.invokevirtual 64, 3) := by decide +kernel
theorem dL_law_472 : decode cL_law 472 = .ok (.aload_n 2, 1) := by decide +kernel
theorem dL_law_473 : decode cL_law 473 = .ok (.invokevirtual 67, 3) := by decide +kernel
theorem dL_law_476 : decode cL_law 476 = .ok (.if_icmp .eq 315, 3) := by decide +kernel
theorem dL_law_479 : decode cL_law 479 = .ok (.iconst 0, 1) := by decide +kernel
theorem dL_law_480 : decode cL_law 480 = .ok (.ireturn, 1) := by decide +kernel
theorem dL_law_481 : decode cL_law 481 = .ok (.aload_n 1, 1) := by decide +kernel
theorem dL_law_482 : decode cL_law 482 = .ok (.aload_n 0, 1) := by decide +kernel
theorem dL_law_483 : decode cL_law 483 = .ok (.iload_n 3, 1) := by decide +kernel
theorem dL_law_484 : decode cL_law 484 = .ok (.iconst 1, 1) := by decide +kernel
theorem dL_law_485 : decode cL_law 485 = .ok (.iadd, 1) := by decide +kernel
theorem dL_law_486 : decode cL_law 486 = .ok (.iaload, 1) := by decide +kernel
theorem dL_law_487 : decode cL_law 487 = .ok (.invokevirtual 68, 3) := by decide +kernel
theorem dL_law_490 : decode cL_law 490 = .ok (.aload_n 2, 1) := by decide +kernel
theorem dL_law_491 : decode cL_law 491 = .ok (.aload_n 0, 1) := by decide +kernel
theorem dL_law_492 : decode cL_law 492 = .ok (.iload_n 3, 1) := by decide +kernel
theorem dL_law_493 : decode cL_law 493 = .ok (.iconst 1, 1) := by decide +kernel
theorem dL_law_494 : decode cL_law 494 = .ok (.iadd, 1) := by decide +kernel
theorem dL_law_495 : decode cL_law 495 = .ok (.iaload, 1) := by decide +kernel
theorem dL_law_496 : decode cL_law 496 = .ok (.invokevirtual 71, 3) := by decide +kernel
theorem dL_law_499 : decode cL_law 499 = .ok (.if_icmp .eq 292, 3) := by decide +kernel
theorem dL_law_502 : decode cL_law 502 = .ok (.iconst 0, 1) := by decide +kernel
theorem dL_law_503 : decode cL_law 503 = .ok (.ireturn, 1) := by decide +kernel
theorem dL_law_504 : decode cL_law 504 = .ok (.aload_n 1, 1) := by decide +kernel
theorem dL_law_505 : decode cL_law 505 = .ok (.aload_n 0, 1) := by decide +kernel
theorem dL_law_506 : decode cL_law 506 = .ok (.iload_n 3, 1) := by decide +kernel
theorem dL_law_507 : decode cL_law 507 = .ok (.iconst 1, 1) := by decide +kernel
theorem dL_law_508 : decode cL_law 508 = .ok (.iadd, 1) := by decide +kernel
theorem dL_law_509 : decode cL_law 509 = .ok (.iaload, 1) := by decide +kernel
theorem dL_law_510 : decode cL_law 510 = .ok (.aload_n 0, 1) := by decide +kernel
theorem dL_law_511 : decode cL_law 511 = .ok (.iload_n 3, 1) := by decide +kernel
theorem dL_law_512 : decode cL_law 512 = .ok (.iconst 2, 1) := by decide +kernel
theorem dL_law_513 : decode cL_law 513 = .ok (.iadd, 1) := by decide +kernel
theorem dL_law_514 : decode cL_law 514 = .ok (.iaload, 1) := by decide +kernel
theorem dL_law_515 : decode cL_law 515 = .ok (.invokevirtual 72, 3) := by decide +kernel
theorem dL_law_518 : decode cL_law 518 = .ok (.aload_n 2, 1) := by decide +kernel
theorem dL_law_519 : decode cL_law 519 = .ok (.aload_n 0, 1) := by decide +kernel
theorem dL_law_520 : decode cL_law 520 = .ok (.iload_n 3, 1) := by decide +kernel
theorem dL_law_521 : decode cL_law 521 = .ok (.iconst 1, 1) := by decide +kernel
theorem dL_law_522 : decode cL_law 522 = .ok (.iadd, 1) := by decide +kernel
theorem dL_law_523 : decode cL_law 523 = .ok (.iaload, 1) := by decide +kernel
theorem dL_law_524 : decode cL_law 524 = .ok (.aload_n 0, 1) := by decide +kernel
theorem dL_law_525 : decode cL_law 525 = .ok (.iload_n 3, 1) := by decide +kernel
theorem dL_law_526 : decode cL_law 526 = .ok (.iconst 2, 1) := by decide +kernel
theorem dL_law_527 : decode cL_law 527 = .ok (.iadd, 1) := by decide +kernel
theorem dL_law_528 : decode cL_law 528 = .ok (.iaload, 1) := by decide +kernel
theorem dL_law_529 : decode cL_law 529 = .ok (.invokevirtual 75, 3) := by decide +kernel
theorem dL_law_532 : decode cL_law 532 = .ok (.if_icmp .eq 259, 3) := by decide +kernel
theorem dL_law_535 : decode cL_law 535 = .ok (.iconst 0, 1) := by decide +kernel
theorem dL_law_536 : decode cL_law 536 = .ok (.ireturn, 1) := by decide +kernel
theorem dL_law_537 : decode cL_law 537 = .ok (.aload_n 1, 1) := by decide +kernel
theorem dL_law_538 : decode cL_law 538 = .ok (.aload_n 0, 1) := by decide +kernel
theorem dL_law_539 : decode cL_law 539 = .ok (.iload_n 3, 1) := by decide +kernel
theorem dL_law_540 : decode cL_law 540 = .ok (.iconst 1, 1) := by decide +kernel
theorem dL_law_541 : decode cL_law 541 = .ok (.iadd, 1) := by decide +kernel
theorem dL_law_542 : decode cL_law 542 = .ok (.iaload, 1) := by decide +kernel
theorem dL_law_543 : decode cL_law 543 = .ok (.invokevirtual 76, 3) := by decide +kernel
theorem dL_law_546 : decode cL_law 546 = .ok (.aload_n 2, 1) := by decide +kernel
theorem dL_law_547 : decode cL_law 547 = .ok (.aload_n 0, 1) := by decide +kernel
theorem dL_law_548 : decode cL_law 548 = .ok (.iload_n 3, 1) := by decide +kernel
theorem dL_law_549 : decode cL_law 549 = .ok (.iconst 1, 1) := by decide +kernel
theorem dL_law_550 : decode cL_law 550 = .ok (.iadd, 1) := by decide +kernel
theorem dL_law_551 : decode cL_law 551 = .ok (.iaload, 1) := by decide +kernel
theorem dL_law_552 : decode cL_law 552 = .ok (.invokevirtual 79, 3) := by decide +kernel
theorem dL_law_555 : decode cL_law 555 = .ok (.if_icmp .eq 236, 3) := by decide +kernel
theorem dL_law_558 : decode cL_law 558 = .ok (.iconst 0, 1) := by decide +kernel
theorem dL_law_559 : decode cL_law 559 = .ok (.ireturn, 1) := by decide +kernel
theorem dL_law_560 : decode cL_law 560 = .ok (.aload_n 1, 1) := by decide +kernel
theorem dL_law_561 : decode cL_law 561 = .ok (.aload_n 0, 1) := by decide +kernel
theorem dL_law_562 : decode cL_law 562 = .ok (.iload_n 3, 1) := by decide +kernel
theorem dL_law_563 : decode cL_law 563 = .ok (.iconst 1, 1) := by decide +kernel
theorem dL_law_564 : decode cL_law 564 = .ok (.iadd, 1) := by decide +kernel
theorem dL_law_565 : decode cL_law 565 = .ok (.iaload, 1) := by decide +kernel
theorem dL_law_566 : decode cL_law 566 = .ok (.invokevirtual 80, 3) := by decide +kernel
theorem dL_law_569 : decode cL_law 569 = .ok (.aload_n 2, 1) := by decide +kernel
theorem dL_law_570 : decode cL_law 570 = .ok (.aload_n 0, 1) := by decide +kernel
theorem dL_law_571 : decode cL_law 571 = .ok (.iload_n 3, 1) := by decide +kernel
theorem dL_law_572 : decode cL_law 572 = .ok (.iconst 1, 1) := by decide +kernel
theorem dL_law_573 : decode cL_law 573 = .ok (.iadd, 1) := by decide +kernel
theorem dL_law_574 : decode cL_law 574 = .ok (.iaload, 1) := by decide +kernel
theorem dL_law_575 : decode cL_law 575 = .ok (.invokevirtual 83, 3) := by decide +kernel
theorem dL_law_578 : decode cL_law 578 = .ok (.if_icmp .eq 213, 3) := by decide +kernel
theorem dL_law_581 : decode cL_law 581 = .ok (.iconst 0, 1) := by decide +kernel
theorem dL_law_582 : decode cL_law 582 = .ok (.ireturn, 1) := by decide +kernel
theorem dL_law_583 : decode cL_law 583 = .ok (.aload_n 1, 1) := by decide +kernel
theorem dL_law_584 : decode cL_law 584 = .ok (.aload_n 0, 1) := by decide +kernel
theorem dL_law_585 : decode cL_law 585 = .ok (.iload_n 3, 1) := by decide +kernel
theorem dL_law_586 : decode cL_law 586 = .ok (.iconst 1, 1) := by decide +kernel
theorem dL_law_587 : decode cL_law 587 = .ok (.iadd, 1) := by decide +kernel
theorem dL_law_588 : decode cL_law 588 = .ok (.iaload, 1) := by decide +kernel
theorem dL_law_589 : decode cL_law 589 = .ok (.invokevirtual 84, 3) := by decide +kernel
theorem dL_law_592 : decode cL_law 592 = .ok (.aload_n 2, 1) := by decide +kernel
theorem dL_law_593 : decode cL_law 593 = .ok (.aload_n 0, 1) := by decide +kernel
theorem dL_law_594 : decode cL_law 594 = .ok (.iload_n 3, 1) := by decide +kernel
theorem dL_law_595 : decode cL_law 595 = .ok (.iconst 1, 1) := by decide +kernel
theorem dL_law_596 : decode cL_law 596 = .ok (.iadd, 1) := by decide +kernel
theorem dL_law_597 : decode cL_law 597 = .ok (.iaload, 1) := by decide +kernel
theorem dL_law_598 : decode cL_law 598 = .ok (.invokevirtual 87, 3) := by decide +kernel
theorem dL_law_601 : decode cL_law 601 = .ok (.if_icmp .eq 190, 3) := by decide +kernel
theorem dL_law_604 : decode cL_law 604 = .ok (.iconst 0, 1) := by decide +kernel
theorem dL_law_605 : decode cL_law 605 = .ok (.ireturn, 1) := by decide +kernel
theorem dL_law_606 : decode cL_law 606 = .ok (.aload_n 1, 1) := by decide +kernel
theorem dL_law_607 : decode cL_law 607 = .ok (.aload_n 0, 1) := by decide +kernel
theorem dL_law_608 : decode cL_law 608 = .ok (.iload_n 3, 1) := by decide +kernel
theorem dL_law_609 : decode cL_law 609 = .ok (.iconst 1, 1) := by decide +kernel
theorem dL_law_610 : decode cL_law 610 = .ok (.iadd, 1) := by decide +kernel
theorem dL_law_611 : decode cL_law 611 = .ok (.iaload, 1) := by decide +kernel
theorem dL_law_612 : decode cL_law 612 = .ok (.invokevirtual 88, 3) := by decide +kernel
theorem dL_law_615 : decode cL_law 615 = .ok (.aload_n 2, 1) := by decide +kernel
theorem dL_law_616 : decode cL_law 616 = .ok (.aload_n 0, 1) := by decide +kernel
theorem dL_law_617 : decode cL_law 617 = .ok (.iload_n 3, 1) := by decide +kernel
theorem dL_law_618 : decode cL_law 618 = .ok (.iconst 1, 1) := by decide +kernel
theorem dL_law_619 : decode cL_law 619 = .ok (.iadd, 1) := by decide +kernel
theorem dL_law_620 : decode cL_law 620 = .ok (.iaload, 1) := by decide +kernel
theorem dL_law_621 : decode cL_law 621 = .ok (.invokevirtual 91, 3) := by decide +kernel
theorem dL_law_624 : decode cL_law 624 = .ok (.if_icmp .eq 167, 3) := by decide +kernel
theorem dL_law_627 : decode cL_law 627 = .ok (.iconst 0, 1) := by decide +kernel
theorem dL_law_628 : decode cL_law 628 = .ok (.ireturn, 1) := by decide +kernel
theorem dL_law_629 : decode cL_law 629 = .ok (.aload_n 1, 1) := by decide +kernel
theorem dL_law_630 : decode cL_law 630 = .ok (.aload_n 0, 1) := by decide +kernel
theorem dL_law_631 : decode cL_law 631 = .ok (.iload_n 3, 1) := by decide +kernel
theorem dL_law_632 : decode cL_law 632 = .ok (.iconst 1, 1) := by decide +kernel
theorem dL_law_633 : decode cL_law 633 = .ok (.iadd, 1) := by decide +kernel
theorem dL_law_634 : decode cL_law 634 = .ok (.iaload, 1) := by decide +kernel
theorem dL_law_635 : decode cL_law 635 = .ok (.aload_n 0, 1) := by decide +kernel
theorem dL_law_636 : decode cL_law 636 = .ok (.iload_n 3, 1) := by decide +kernel
theorem dL_law_637 : decode cL_law 637 = .ok (.iconst 2, 1) := by decide +kernel
theorem dL_law_638 : decode cL_law 638 = .ok (.iadd, 1) := by decide +kernel
theorem dL_law_639 : decode cL_law 639 = .ok (.iaload, 1) := by decide +kernel
theorem dL_law_640 : decode cL_law 640 = .ok (.aload_n 0, 1) := by decide +kernel
theorem dL_law_641 : decode cL_law 641 = .ok (.iload_n 3, 1) := by decide +kernel
theorem dL_law_642 : decode cL_law 642 = .ok (.iconst 3, 1) := by decide +kernel
theorem dL_law_643 : decode cL_law 643 = .ok (.iadd, 1) := by decide +kernel
theorem dL_law_644 : decode cL_law 644 = .ok (.iaload, 1) := by decide +kernel
theorem dL_law_645 : decode cL_law 645 = .ok (.invokevirtual 92, 3) := by decide +kernel
theorem dL_law_648 : decode cL_law 648 = .ok (.aload_n 2, 1) := by decide +kernel
theorem dL_law_649 : decode cL_law 649 = .ok (.aload_n 0, 1) := by decide +kernel
theorem dL_law_650 : decode cL_law 650 = .ok (.iload_n 3, 1) := by decide +kernel
theorem dL_law_651 : decode cL_law 651 = .ok (.iconst 1, 1) := by decide +kernel
theorem dL_law_652 : decode cL_law 652 = .ok (.iadd, 1) := by decide +kernel
theorem dL_law_653 : decode cL_law 653 = .ok (.iaload, 1) := by decide +kernel
theorem dL_law_654 : decode cL_law 654 = .ok (.aload_n 0, 1) := by decide +kernel
theorem dL_law_655 : decode cL_law 655 = .ok (.iload_n 3, 1) := by decide +kernel
theorem dL_law_656 : decode cL_law 656 = .ok (.iconst 2, 1) := by decide +kernel
theorem dL_law_657 : decode cL_law 657 = .ok (.iadd, 1) := by decide +kernel
theorem dL_law_658 : decode cL_law 658 = .ok (.iaload, 1) := by decide +kernel
theorem dL_law_659 : decode cL_law 659 = .ok (.aload_n 0, 1) := by decide +kernel
theorem dL_law_660 : decode cL_law 660 = .ok (.iload_n 3, 1) := by decide +kernel
theorem dL_law_661 : decode cL_law 661 = .ok (.iconst 3, 1) := by decide +kernel
theorem dL_law_662 : decode cL_law 662 = .ok (.iadd, 1) := by decide +kernel
theorem dL_law_663 : decode cL_law 663 = .ok (.iaload, 1) := by decide +kernel
theorem dL_law_664 : decode cL_law 664 = .ok (.invokevirtual 96, 3) := by decide +kernel
theorem dL_law_667 : decode cL_law 667 = .ok (.if_icmp .eq 124, 3) := by decide +kernel
theorem dL_law_670 : decode cL_law 670 = .ok (.iconst 0, 1) := by decide +kernel
theorem dL_law_671 : decode cL_law 671 = .ok (.ireturn, 1) := by decide +kernel
theorem dL_law_672 : decode cL_law 672 = .ok (.aload_n 1, 1) := by decide +kernel
theorem dL_law_673 : decode cL_law 673 = .ok (.invokevirtual 97, 3) := by decide +kernel
theorem dL_law_676 : decode cL_law 676 = .ok (.aload_n 2, 1) := by decide +kernel
theorem dL_law_677 : decode cL_law 677 = .ok (.invokevirtual 100, 3) := by decide +kernel
theorem dL_law_680 : decode cL_law 680 = .ok (.if_icmp .eq 111, 3) := by decide +kernel
theorem dL_law_683 : decode cL_law 683 = .ok (.iconst 0, 1) := by decide +kernel
theorem dL_law_684 : decode cL_law 684 = .ok (.ireturn, 1) := by decide +kernel
theorem dL_law_685 : decode cL_law 685 = .ok (.aload_n 1, 1) := by decide +kernel
theorem dL_law_686 : decode cL_law 686 = .ok (.aload_n 0, 1) := by decide +kernel
theorem dL_law_687 : decode cL_law 687 = .ok (.iload_n 3, 1) := by decide +kernel
theorem dL_law_688 : decode cL_law 688 = .ok (.iconst 1, 1) := by decide +kernel
theorem dL_law_689 : decode cL_law 689 = .ok (.iadd, 1) := by decide +kernel
theorem dL_law_690 : decode cL_law 690 = .ok (.iaload, 1) := by decide +kernel
theorem dL_law_691 : decode cL_law 691 = .ok (.aload_n 0, 1) := by decide +kernel
theorem dL_law_692 : decode cL_law 692 = .ok (.iload_n 3, 1) := by decide +kernel
theorem dL_law_693 : decode cL_law 693 = .ok (.iconst 2, 1) := by decide +kernel
theorem dL_law_694 : decode cL_law 694 = .ok (.iadd, 1) := by decide +kernel
theorem dL_law_695 : decode cL_law 695 = .ok (.iaload, 1) := by decide +kernel
theorem dL_law_696 : decode cL_law 696 = .ok (.aload_n 0, 1) := by decide +kernel
theorem dL_law_697 : decode cL_law 697 = .ok (.iload_n 3, 1) := by decide +kernel
theorem dL_law_698 : decode cL_law 698 = .ok (.iconst 3, 1) := by decide +kernel
theorem dL_law_699 : decode cL_law 699 = .ok (.iadd, 1) := by decide +kernel
theorem dL_law_700 : decode cL_law 700 = .ok (.iaload, 1) := by decide +kernel
theorem dL_law_701 : decode cL_law 701 = .ok (.invokevirtual 101, 3) := by decide +kernel
theorem dL_law_704 : decode cL_law 704 = .ok (.aload_n 2, 1) := by decide +kernel
theorem dL_law_705 : decode cL_law 705 = .ok (.aload_n 0, 1) := by decide +kernel
theorem dL_law_706 : decode cL_law 706 = .ok (.iload_n 3, 1) := by decide +kernel
theorem dL_law_707 : decode cL_law 707 = .ok (.iconst 1, 1) := by decide +kernel
theorem dL_law_708 : decode cL_law 708 = .ok (.iadd, 1) := by decide +kernel
theorem dL_law_709 : decode cL_law 709 = .ok (.iaload, 1) := by decide +kernel
theorem dL_law_710 : decode cL_law 710 = .ok (.aload_n 0, 1) := by decide +kernel
theorem dL_law_711 : decode cL_law 711 = .ok (.iload_n 3, 1) := by decide +kernel
theorem dL_law_712 : decode cL_law 712 = .ok (.iconst 2, 1) := by decide +kernel
theorem dL_law_713 : decode cL_law 713 = .ok (.iadd, 1) := by decide +kernel
theorem dL_law_714 : decode cL_law 714 = .ok (.iaload, 1) := by decide +kernel
theorem dL_law_715 : decode cL_law 715 = .ok (.aload_n 0, 1) := by decide +kernel
theorem dL_law_716 : decode cL_law 716 = .ok (.iload_n 3, 1) := by decide +kernel
theorem dL_law_717 : decode cL_law 717 = .ok (.iconst 3, 1) := by decide +kernel
theorem dL_law_718 : decode cL_law 718 = .ok (.iadd, 1) := by decide +kernel
theorem dL_law_719 : decode cL_law 719 = .ok (.iaload, 1) := by decide +kernel
theorem dL_law_720 : decode cL_law 720 = .ok (.invokevirtual 104, 3) := by decide +kernel
theorem dL_law_723 : decode cL_law 723 = .ok (.if_icmp .eq 68, 3) := by decide +kernel
theorem dL_law_726 : decode cL_law 726 = .ok (.iconst 0, 1) := by decide +kernel
theorem dL_law_727 : decode cL_law 727 = .ok (.ireturn, 1) := by decide +kernel
theorem dL_law_728 : decode cL_law 728 = .ok (.aload_n 1, 1) := by decide +kernel
theorem dL_law_729 : decode cL_law 729 = .ok (.invokevirtual 105, 3) := by decide +kernel
theorem dL_law_732 : decode cL_law 732 = .ok (.aload_n 2, 1) := by decide +kernel
theorem dL_law_733 : decode cL_law 733 = .ok (.invokevirtual 108, 3) := by decide +kernel
theorem dL_law_736 : decode cL_law 736 = .ok (.if_icmp .eq 55, 3) := by decide +kernel
theorem dL_law_739 : decode cL_law 739 = .ok (.iconst 0, 1) := by decide +kernel
theorem dL_law_740 : decode cL_law 740 = .ok (.ireturn, 1) := by decide +kernel
theorem dL_law_741 : decode cL_law 741 = .ok (.aload_n 1, 1) := by decide +kernel
theorem dL_law_742 : decode cL_law 742 = .ok (.invokevirtual 109, 3) := by decide +kernel
theorem dL_law_745 : decode cL_law 745 = .ok (.aload_n 2, 1) := by decide +kernel
theorem dL_law_746 : decode cL_law 746 = .ok (.invokevirtual 112, 3) := by decide +kernel
theorem dL_law_749 : decode cL_law 749 = .ok (.if_icmp .eq 42, 3) := by decide +kernel
theorem dL_law_752 : decode cL_law 752 = .ok (.iconst 0, 1) := by decide +kernel
theorem dL_law_753 : decode cL_law 753 = .ok (.ireturn, 1) := by decide +kernel
theorem dL_law_754 : decode cL_law 754 = .ok (.aload_n 1, 1) := by decide +kernel
theorem dL_law_755 : decode cL_law 755 = .ok (.aload_n 0, 1) := by decide +kernel
theorem dL_law_756 : decode cL_law 756 = .ok (.iload_n 3, 1) := by decide +kernel
theorem dL_law_757 : decode cL_law 757 = .ok (.iconst 1, 1) := by decide +kernel
theorem dL_law_758 : decode cL_law 758 = .ok (.iadd, 1) := by decide +kernel
theorem dL_law_759 : decode cL_law 759 = .ok (.iaload, 1) := by decide +kernel
theorem dL_law_760 : decode cL_law 760 = .ok (.invokevirtual 113, 3) := by decide +kernel
theorem dL_law_763 : decode cL_law 763 = .ok (.aload_n 2, 1) := by decide +kernel
theorem dL_law_764 : decode cL_law 764 = .ok (.aload_n 0, 1) := by decide +kernel
theorem dL_law_765 : decode cL_law 765 = .ok (.iload_n 3, 1) := by decide +kernel
theorem dL_law_766 : decode cL_law 766 = .ok (.iconst 1, 1) := by decide +kernel
theorem dL_law_767 : decode cL_law 767 = .ok (.iadd, 1) := by decide +kernel
theorem dL_law_768 : decode cL_law 768 = .ok (.iaload, 1) := by decide +kernel
theorem dL_law_769 : decode cL_law 769 = .ok (.invokevirtual 116, 3) := by decide +kernel
theorem dL_law_772 : decode cL_law 772 = .ok (.if_icmp .eq 19, 3) := by decide +kernel
theorem dL_law_775 : decode cL_law 775 = .ok (.iconst 0, 1) := by decide +kernel
theorem dL_law_776 : decode cL_law 776 = .ok (.ireturn, 1) := by decide +kernel
theorem dL_law_777 : decode cL_law 777 = .ok (.aload_n 1, 1) := by decide +kernel
theorem dL_law_778 : decode cL_law 778 = .ok (.invokevirtual 117, 3) := by decide +kernel
theorem dL_law_781 : decode cL_law 781 = .ok (.aload_n 2, 1) := by decide +kernel
theorem dL_law_782 : decode cL_law 782 = .ok (.invokevirtual 121, 3) := by decide +kernel
theorem dL_law_785 : decode cL_law 785 = .ok (.lcmp, 1) := by decide +kernel
theorem dL_law_786 : decode cL_law 786 = .ok (.ifCond .eq 5, 3) := by decide +kernel
theorem dL_law_789 : decode cL_law 789 = .ok (.iconst 0, 1) := by decide +kernel
theorem dL_law_790 : decode cL_law 790 = .ok (.ireturn, 1) := by decide +kernel
theorem dL_law_791 : decode cL_law 791 = .ok (.iinc 3 4, 3) := by decide +kernel
theorem dL_law_794 : decode cL_law 794 = .ok (.goto (-776), 3) := by decide +kernel
theorem dL_law_797 : decode cL_law 797 = .ok (.iconst 1, 1) := by decide +kernel
theorem dL_law_798 : decode cL_law 798 = .ok (.ireturn, 1) := by decide +kernel
end
section
theorem dJ6_bitCount_0f7a4_0 : decode cJ6_bitCount_0f7a4 0 = .ok (.iload_n 0, 1) := by decide +kernel
theorem dJ6_bitCount_0f7a4_1 : decode cJ6_bitCount_0f7a4 1 = .ok (.iload_n 0, 1) := by decide +kernel
theorem dJ6_bitCount_0f7a4_2 : decode cJ6_bitCount_0f7a4 2 = .ok (.iconst 1, 1) := by decide +kernel
theorem dJ6_bitCount_0f7a4_3 : decode cJ6_bitCount_0f7a4 3 = .ok (.iushr, 1) := by decide +kernel
theorem dJ6_bitCount_0f7a4_4 : decode cJ6_bitCount_0f7a4 4 = .ok (.ldc_w 265, 3) := by decide +kernel
theorem dJ6_bitCount_0f7a4_7 : decode cJ6_bitCount_0f7a4 7 = .ok (.iand, 1) := by decide +kernel
theorem dJ6_bitCount_0f7a4_8 : decode cJ6_bitCount_0f7a4 8 = .ok (.isub, 1) := by decide +kernel
theorem dJ6_bitCount_0f7a4_9 : decode cJ6_bitCount_0f7a4 9 = .ok (.istore_n 0, 1) := by decide +kernel
theorem dJ6_bitCount_0f7a4_10 : decode cJ6_bitCount_0f7a4 10 = .ok (.iload_n 0, 1) := by decide +kernel
theorem dJ6_bitCount_0f7a4_11 : decode cJ6_bitCount_0f7a4 11 = .ok (.ldc_w 266, 3) := by decide +kernel
theorem dJ6_bitCount_0f7a4_14 : decode cJ6_bitCount_0f7a4 14 = .ok (.iand, 1) := by decide +kernel
theorem dJ6_bitCount_0f7a4_15 : decode cJ6_bitCount_0f7a4 15 = .ok (.iload_n 0, 1) := by decide +kernel
theorem dJ6_bitCount_0f7a4_16 : decode cJ6_bitCount_0f7a4 16 = .ok (.iconst 2, 1) := by decide +kernel
theorem dJ6_bitCount_0f7a4_17 : decode cJ6_bitCount_0f7a4 17 = .ok (.iushr, 1) := by decide +kernel
theorem dJ6_bitCount_0f7a4_18 : decode cJ6_bitCount_0f7a4 18 = .ok (.ldc_w 266, 3) := by decide +kernel
theorem dJ6_bitCount_0f7a4_21 : decode cJ6_bitCount_0f7a4 21 = .ok (.iand, 1) := by decide +kernel
theorem dJ6_bitCount_0f7a4_22 : decode cJ6_bitCount_0f7a4 22 = .ok (.iadd, 1) := by decide +kernel
theorem dJ6_bitCount_0f7a4_23 : decode cJ6_bitCount_0f7a4 23 = .ok (.istore_n 0, 1) := by decide +kernel
theorem dJ6_bitCount_0f7a4_24 : decode cJ6_bitCount_0f7a4 24 = .ok (.iload_n 0, 1) := by decide +kernel
theorem dJ6_bitCount_0f7a4_25 : decode cJ6_bitCount_0f7a4 25 = .ok (.iload_n 0, 1) := by decide +kernel
theorem dJ6_bitCount_0f7a4_26 : decode cJ6_bitCount_0f7a4 26 = .ok (.iconst 4, 1) := by decide +kernel
theorem dJ6_bitCount_0f7a4_27 : decode cJ6_bitCount_0f7a4 27 = .ok (.iushr, 1) := by decide +kernel
theorem dJ6_bitCount_0f7a4_28 : decode cJ6_bitCount_0f7a4 28 = .ok (.iadd, 1) := by decide +kernel
theorem dJ6_bitCount_0f7a4_29 : decode cJ6_bitCount_0f7a4 29 = .ok (.ldc_w 267, 3) := by decide +kernel
theorem dJ6_bitCount_0f7a4_32 : decode cJ6_bitCount_0f7a4 32 = .ok (.iand, 1) := by decide +kernel
theorem dJ6_bitCount_0f7a4_33 : decode cJ6_bitCount_0f7a4 33 = .ok (.istore_n 0, 1) := by decide +kernel
theorem dJ6_bitCount_0f7a4_34 : decode cJ6_bitCount_0f7a4 34 = .ok (.iload_n 0, 1) := by decide +kernel
theorem dJ6_bitCount_0f7a4_35 : decode cJ6_bitCount_0f7a4 35 = .ok (.iload_n 0, 1) := by decide +kernel
theorem dJ6_bitCount_0f7a4_36 : decode cJ6_bitCount_0f7a4 36 = .ok (.bipush 8, 2) := by decide +kernel
theorem dJ6_bitCount_0f7a4_38 : decode cJ6_bitCount_0f7a4 38 = .ok (.iushr, 1) := by decide +kernel
theorem dJ6_bitCount_0f7a4_39 : decode cJ6_bitCount_0f7a4 39 = .ok (.iadd, 1) := by decide +kernel
theorem dJ6_bitCount_0f7a4_40 : decode cJ6_bitCount_0f7a4 40 = .ok (.istore_n 0, 1) := by decide +kernel
theorem dJ6_bitCount_0f7a4_41 : decode cJ6_bitCount_0f7a4 41 = .ok (.iload_n 0, 1) := by decide +kernel
theorem dJ6_bitCount_0f7a4_42 : decode cJ6_bitCount_0f7a4 42 = .ok (.iload_n 0, 1) := by decide +kernel
theorem dJ6_bitCount_0f7a4_43 : decode cJ6_bitCount_0f7a4 43 = .ok (.bipush 16, 2) := by decide +kernel
theorem dJ6_bitCount_0f7a4_45 : decode cJ6_bitCount_0f7a4 45 = .ok (.iushr, 1) := by decide +kernel
theorem dJ6_bitCount_0f7a4_46 : decode cJ6_bitCount_0f7a4 46 = .ok (.iadd, 1) := by decide +kernel
theorem dJ6_bitCount_0f7a4_47 : decode cJ6_bitCount_0f7a4 47 = .ok (.istore_n 0, 1) := by decide +kernel
theorem dJ6_bitCount_0f7a4_48 : decode cJ6_bitCount_0f7a4 48 = .ok (.iload_n 0, 1) := by decide +kernel
theorem dJ6_bitCount_0f7a4_49 : decode cJ6_bitCount_0f7a4 49 = .ok (.bipush 63, 2) := by decide +kernel
theorem dJ6_bitCount_0f7a4_51 : decode cJ6_bitCount_0f7a4 51 = .ok (.iand, 1) := by decide +kernel
theorem dJ6_bitCount_0f7a4_52 : decode cJ6_bitCount_0f7a4 52 = .ok (.ireturn, 1) := by decide +kernel
theorem dJ9_abs_0f7a4_0 : decode cJ9_abs_0f7a4 0 = .ok (.iload_n 0, 1) := by decide +kernel
theorem dJ9_abs_0f7a4_1 : decode cJ9_abs_0f7a4 1 = .ok (.ifCond .ge 8, 3) := by decide +kernel
theorem dJ9_abs_0f7a4_4 : decode cJ9_abs_0f7a4 4 = .ok (.iload_n 0, 1) := by decide +kernel
theorem dJ9_abs_0f7a4_5 : decode cJ9_abs_0f7a4 5 = .ok (.ineg, 1) := by decide +kernel
theorem dJ9_abs_0f7a4_6 : decode cJ9_abs_0f7a4 6 = .ok (.goto 4, 3) := by decide +kernel
theorem dJ9_abs_0f7a4_9 : decode cJ9_abs_0f7a4 9 = .ok (.iload_n 0, 1) := by decide +kernel
theorem dJ9_abs_0f7a4_10 : decode cJ9_abs_0f7a4 10 = .ok (.ireturn, 1) := by decide +kernel
theorem dJ9_max_7cf53_0 : decode cJ9_max_7cf53 0 = .ok (.iload_n 0, 1) := by decide +kernel
theorem dJ9_max_7cf53_1 : decode cJ9_max_7cf53 1 = .ok (.iload_n 1, 1) := by decide +kernel
theorem dJ9_max_7cf53_2 : decode cJ9_max_7cf53 2 = .ok (.if_icmp .lt 7, 3) := by decide +kernel
theorem dJ9_max_7cf53_5 : decode cJ9_max_7cf53 5 = .ok (.iload_n 0, 1) := by decide +kernel
theorem dJ9_max_7cf53_6 : decode cJ9_max_7cf53 6 = .ok (.goto 4, 3) := by decide +kernel
theorem dJ9_max_7cf53_9 : decode cJ9_max_7cf53 9 = .ok (.iload_n 1, 1) := by decide +kernel
theorem dJ9_max_7cf53_10 : decode cJ9_max_7cf53 10 = .ok (.ireturn, 1) := by decide +kernel
theorem dJ9_min_7cf53_0 : decode cJ9_min_7cf53 0 = .ok (.iload_n 0, 1) := by decide +kernel
theorem dJ9_min_7cf53_1 : decode cJ9_min_7cf53 1 = .ok (.iload_n 1, 1) := by decide +kernel
theorem dJ9_min_7cf53_2 : decode cJ9_min_7cf53 2 = .ok (.if_icmp .gt 7, 3) := by decide +kernel
theorem dJ9_min_7cf53_5 : decode cJ9_min_7cf53 5 = .ok (.iload_n 0, 1) := by decide +kernel
theorem dJ9_min_7cf53_6 : decode cJ9_min_7cf53 6 = .ok (.goto 4, 3) := by decide +kernel
theorem dJ9_min_7cf53_9 : decode cJ9_min_7cf53 9 = .ok (.iload_n 1, 1) := by decide +kernel
theorem dJ9_min_7cf53_10 : decode cJ9_min_7cf53 10 = .ok (.ireturn, 1) := by decide +kernel
theorem dJ0_length_8abf5_0 : decode cJ0_length_8abf5 0 = .ok (.aload_n 0, 1) := by decide +kernel
theorem dJ0_length_8abf5_1 : decode cJ0_length_8abf5 1 = .ok (.getfield 9, 3) := by decide +kernel
theorem dJ0_length_8abf5_4 : decode cJ0_length_8abf5 4 = .ok (.arraylength, 1) := by decide +kernel
theorem dJ0_length_8abf5_5 : decode cJ0_length_8abf5 5 = .ok (.aload_n 0, 1) := by decide +kernel
theorem dJ0_length_8abf5_6 : decode cJ0_length_8abf5 6 = .ok (.invokevirtual 335, 3) := by decide +kernel
theorem dJ0_length_8abf5_9 : decode cJ0_length_8abf5 9 = .ok (.ishr, 1) := by decide +kernel
theorem dJ0_length_8abf5_10 : decode cJ0_length_8abf5 10 = .ok (.ireturn, 1) := by decide +kernel
theorem dJ0_indexOf_0f7a4_0 : decode cJ0_indexOf_0f7a4 0 = .ok (.aload_n 0, 1) := by decide +kernel
theorem dJ0_indexOf_0f7a4_1 : decode cJ0_indexOf_0f7a4 1 = .ok (.iload_n 1, 1) := by decide +kernel
theorem dJ0_indexOf_0f7a4_2 : decode cJ0_indexOf_0f7a4 2 = .ok (.iconst 0, 1) := by decide +kernel
theorem dJ0_indexOf_0f7a4_3 : decode cJ0_indexOf_0f7a4 3 = .ok (.invokevirtual 633, 3) := by decide +kernel
theorem dJ0_indexOf_0f7a4_6 : decode cJ0_indexOf_0f7a4 6 = .ok (.ireturn, 1) := by decide +kernel
theorem dJ0_indexOf_7cf53_0 : decode cJ0_indexOf_7cf53 0 = .ok (.aload_n 0, 1) := by decide +kernel
theorem dJ0_indexOf_7cf53_1 : decode cJ0_indexOf_7cf53 1 = .ok (.invokevirtual 492, 3) := by decide +kernel
theorem dJ0_indexOf_7cf53_4 : decode cJ0_indexOf_7cf53 4 = .ok (.ifCond .eq 19, 3) := by decide +kernel
theorem dJ0_indexOf_7cf53_7 : decode cJ0_indexOf_7cf53 7 = .ok (.aload_n 0, 1) := by decide +kernel
theorem dJ0_indexOf_7cf53_8 : decode cJ0_indexOf_7cf53 8 = .ok (.getfield 9, 3) := by decide +kernel
theorem dJ0_indexOf_7cf53_11 : decode cJ0_indexOf_7cf53 11 = .ok (.iload_n 1, 1) := by decide +kernel
theorem dJ0_indexOf_7cf53_12 : decode cJ0_indexOf_7cf53 12 = .ok (.iload_n 2, 1) := by decide +kernel
theorem dJ0_indexOf_7cf53_13 : decode cJ0_indexOf_7cf53 13 = .ok (.aload_n 0, 1) := by decide +kernel
theorem dJ0_indexOf_7cf53_14 : decode cJ0_indexOf_7cf53 14 = .ok (.invokevirtual 505, 3) := by decide +kernel
theorem dJ0_indexOf_7cf53_17 : decode cJ0_indexOf_7cf53 17 = .ok (.invokestatic 637, 3) := by decide +kernel
theorem dJ0_indexOf_7cf53_20 : decode cJ0_indexOf_7cf53 20 = .ok (.goto 16, 3) := by decide +kernel
theorem dJ0_indexOf_7cf53_23 : decode cJ0_indexOf_7cf53 23 = .ok (.aload_n 0, 1) := by decide +kernel
theorem dJ0_indexOf_7cf53_24 : decode cJ0_indexOf_7cf53 24 = .ok (.getfield 9, 3) := by decide +kernel
theorem dJ0_indexOf_7cf53_27 : decode cJ0_indexOf_7cf53 27 = .ok (.iload_n 1, 1) := by decide +kernel
theorem dJ0_indexOf_7cf53_28 : decode cJ0_indexOf_7cf53 28 = .ok (.iload_n 2, 1) := by decide +kernel
theorem dJ0_indexOf_7cf53_29 : decode cJ0_indexOf_7cf53 29 = .ok (.aload_n 0, 1) := by decide +kernel
theorem dJ0_indexOf_7cf53_30 : decode cJ0_indexOf_7cf53 30 = .ok (.invokevirtual 505, 3) := by decide +kernel
theorem dJ0_indexOf_7cf53_33 : decode cJ0_indexOf_7cf53 33 = .ok (.invokestatic 640, 3) := by decide +kernel
theorem dJ0_indexOf_7cf53_36 : decode cJ0_indexOf_7cf53 36 = .ok (.ireturn, 1) := by decide +kernel
theorem dJ0_coder_7d493_0 : decode cJ0_coder_7d493 0 = .ok (.getstatic 38, 3) := by decide +kernel
theorem dJ0_coder_7d493_3 : decode cJ0_coder_7d493 3 = .ok (.ifCond .eq 10, 3) := by decide +kernel
theorem dJ0_coder_7d493_6 : decode cJ0_coder_7d493 6 = .ok (.aload_n 0, 1) := by decide +kernel
theorem dJ0_coder_7d493_7 : decode cJ0_coder_7d493 7 = .ok (.getfield 15, 3) := by decide +kernel
theorem dJ0_coder_7d493_10 : decode cJ0_coder_7d493 10 = .ok (.goto 4, 3) := by decide +kernel
theorem dJ0_coder_7d493_13 : decode cJ0_coder_7d493 13 = .ok (.iconst 1, 1) := by decide +kernel
theorem dJ0_coder_7d493_14 : decode cJ0_coder_7d493 14 = .ok (.ireturn, 1) := by decide +kernel
theorem dJ0_isLatin1_aae02_0 : decode cJ0_isLatin1_aae02 0 = .ok (.getstatic 38, 3) := by decide +kernel
theorem dJ0_isLatin1_aae02_3 : decode cJ0_isLatin1_aae02 3 = .ok (.ifCond .eq 14, 3) := by decide +kernel
theorem dJ0_isLatin1_aae02_6 : decode cJ0_isLatin1_aae02 6 = .ok (.aload_n 0, 1) := by decide +kernel
theorem dJ0_isLatin1_aae02_7 : decode cJ0_isLatin1_aae02 7 = .ok (.getfield 15, 3) := by decide +kernel
theorem dJ0_isLatin1_aae02_10 : decode cJ0_isLatin1_aae02 10 = .ok (.ifCond .ne 7, 3) := by decide +kernel
theorem dJ0_isLatin1_aae02_13 : decode cJ0_isLatin1_aae02 13 = .ok (.iconst 1, 1) := by decide +kernel
theorem dJ0_isLatin1_aae02_14 : decode cJ0_isLatin1_aae02 14 = .ok (.goto 4, 3) := by decide +kernel
theorem dJ0_isLatin1_aae02_17 : decode cJ0_isLatin1_aae02 17 = .ok (.iconst 0, 1) := by decide +kernel
theorem dJ0_isLatin1_aae02_18 : decode cJ0_isLatin1_aae02 18 = .ok (.ireturn, 1) := by decide +kernel
theorem dJ0_checkBoundsBeginEnd_23922_0 : decode cJ0_checkBoundsBeginEnd_23922 0 = .ok (.iload_n 0, 1) := by decide +kernel
theorem dJ0_checkBoundsBeginEnd_23922_1 : decode cJ0_checkBoundsBeginEnd_23922 1 = .ok (.iload_n 1, 1) := by decide +kernel
theorem dJ0_checkBoundsBeginEnd_23922_2 : decode cJ0_checkBoundsBeginEnd_23922 2 = .ok (.iload_n 2, 1) := by decide +kernel
theorem dJ0_checkBoundsBeginEnd_23922_3 : decode cJ0_checkBoundsBeginEnd_23922 3 = .ok (.getstatic 1053, 3) := by decide +kernel
theorem dJ0_checkBoundsBeginEnd_23922_6 : decode cJ0_checkBoundsBeginEnd_23922 6 = .ok (.invokestatic 1062, 3) := by decide +kernel
theorem dJ0_checkBoundsBeginEnd_23922_9 : decode cJ0_checkBoundsBeginEnd_23922 9 = .ok (.pop, 1) := by decide +kernel
theorem dJ0_checkBoundsBeginEnd_23922_10 : decode cJ0_checkBoundsBeginEnd_23922 10 = .ok (.return_, 1) := by decide +kernel
theorem dJ1_canEncode_9a6ad_0 : decode cJ1_canEncode_9a6ad 0 = .ok (.iload_n 0, 1) := by decide +kernel
theorem dJ1_canEncode_9a6ad_1 : decode cJ1_canEncode_9a6ad 1 = .ok (.ifCond .lt 14, 3) := by decide +kernel
theorem dJ1_canEncode_9a6ad_4 : decode cJ1_canEncode_9a6ad 4 = .ok (.iload_n 0, 1) := by decide +kernel
theorem dJ1_canEncode_9a6ad_5 : decode cJ1_canEncode_9a6ad 5 = .ok (.sipush 255, 3) := by decide +kernel
theorem dJ1_canEncode_9a6ad_8 : decode cJ1_canEncode_9a6ad 8 = .ok (.if_icmp .gt 7, 3) := by decide +kernel
theorem dJ1_canEncode_9a6ad_11 : decode cJ1_canEncode_9a6ad 11 = .ok (.iconst 1, 1) := by decide +kernel
theorem dJ1_canEncode_9a6ad_12 : decode cJ1_canEncode_9a6ad 12 = .ok (.goto 4, 3) := by decide +kernel
theorem dJ1_canEncode_9a6ad_15 : decode cJ1_canEncode_9a6ad 15 = .ok (.iconst 0, 1) := by decide +kernel
theorem dJ1_canEncode_9a6ad_16 : decode cJ1_canEncode_9a6ad 16 = .ok (.ireturn, 1) := by decide +kernel
theorem dJ1_indexOf_4cfef_0 : decode cJ1_indexOf_4cfef 0 = .ok (.iload_n 1, 1) := by decide +kernel
theorem dJ1_indexOf_4cfef_1 : decode cJ1_indexOf_4cfef 1 = .ok (.invokestatic 88, 3) := by decide +kernel
theorem dJ1_indexOf_4cfef_4 : decode cJ1_indexOf_4cfef 4 = .ok (.ifCond .ne 5, 3) := by decide +kernel
theorem dJ1_indexOf_4cfef_7 : decode cJ1_indexOf_4cfef 7 = .ok (.iconst (-1), 1) := by decide +kernel
theorem dJ1_indexOf_4cfef_8 : decode cJ1_indexOf_4cfef 8 = .ok (.ireturn, 1) := by decide +kernel
theorem dJ1_indexOf_4cfef_9 : decode cJ1_indexOf_4cfef 9 = .ok (.iload_n 2, 1) := by decide +kernel
theorem dJ1_indexOf_4cfef_10 : decode cJ1_indexOf_4cfef 10 = .ok (.iconst 0, 1) := by decide +kernel
theorem dJ1_indexOf_4cfef_11 : decode cJ1_indexOf_4cfef 11 = .ok (.invokestatic 92, 3) := by decide +kernel
theorem dJ1_indexOf_4cfef_14 : decode cJ1_indexOf_4cfef 14 = .ok (.istore_n 2, 1) := by decide +kernel
theorem dJ1_indexOf_4cfef_15 : decode cJ1_indexOf_4cfef 15 = .ok (.iload_n 3, 1) := by decide +kernel
theorem dJ1_indexOf_4cfef_16 : decode cJ1_indexOf_4cfef 16 = .ok (.aload_n 0, 1) := by decide +kernel
theorem dJ1_indexOf_4cfef_17 : decode cJ1_indexOf_4cfef 17 = .ok (.arraylength, 1) := by decide +kernel
theorem dJ1_indexOf_4cfef_18 : decode cJ1_indexOf_4cfef 18 = .ok (.invokestatic 38, 3) := by decide +kernel
theorem dJ1_indexOf_4cfef_21 : decode cJ1_indexOf_4cfef 21 = .ok (.istore_n 3, 1) := by decide +kernel
theorem dJ1_indexOf_4cfef_22 : decode cJ1_indexOf_4cfef 22 = .ok (.iload_n 2, 1) := by decide +kernel
theorem dJ1_indexOf_4cfef_23 : decode cJ1_indexOf_4cfef 23 = .ok (.iload_n 3, 1) := by decide +kernel
theorem dJ1_indexOf_4cfef_24 : decode cJ1_indexOf_4cfef 24 = .ok (.if_icmp .lt 5, 3) := by decide +kernel
theorem dJ1_indexOf_4cfef_27 : decode cJ1_indexOf_4cfef 27 = .ok (.iconst (-1), 1) := by decide +kernel
theorem dJ1_indexOf_4cfef_28 : decode cJ1_indexOf_4cfef 28 = .ok (.ireturn, 1) := by decide +kernel
theorem dJ1_indexOf_4cfef_29 : decode cJ1_indexOf_4cfef 29 = .ok (.aload_n 0, 1) := by decide +kernel
theorem dJ1_indexOf_4cfef_30 : decode cJ1_indexOf_4cfef 30 = .ok (.iload_n 1, 1) := by decide +kernel
theorem dJ1_indexOf_4cfef_31 : decode cJ1_indexOf_4cfef 31 = .ok (.iload_n 2, 1) := by decide +kernel
theorem dJ1_indexOf_4cfef_32 : decode cJ1_indexOf_4cfef 32 = .ok (.iload_n 3, 1) := by decide +kernel
theorem dJ1_indexOf_4cfef_33 : decode cJ1_indexOf_4cfef 33 = .ok (.invokestatic 95, 3) := by decide +kernel
theorem dJ1_indexOf_4cfef_36 : decode cJ1_indexOf_4cfef 36 = .ok (.ireturn, 1) := by decide +kernel
theorem dJ1_indexOfChar_4cfef_0 : decode cJ1_indexOfChar_4cfef 0 = .ok (.iload_n 1, 1) := by decide +kernel
theorem dJ1_indexOfChar_4cfef_1 : decode cJ1_indexOfChar_4cfef 1 = .ok (.i2b, 1) := by decide +kernel
theorem dJ1_indexOfChar_4cfef_2 : decode cJ1_indexOfChar_4cfef 2 = .ok (.istore 4, 2) := by decide +kernel
theorem dJ1_indexOfChar_4cfef_4 : decode cJ1_indexOfChar_4cfef 4 = .ok (.iload_n 2, 1) := by decide +kernel
theorem dJ1_indexOfChar_4cfef_5 : decode cJ1_indexOfChar_4cfef 5 = .ok (.istore 5, 2) := by decide +kernel
theorem dJ1_indexOfChar_4cfef_7 : decode cJ1_indexOfChar_4cfef 7 = .ok (.iload 5, 2) := by decide +kernel
theorem dJ1_indexOfChar_4cfef_9 : decode cJ1_indexOfChar_4cfef 9 = .ok (.iload_n 3, 1) := by decide +kernel
theorem dJ1_indexOfChar_4cfef_10 : decode cJ1_indexOfChar_4cfef 10 = .ok (.if_icmp .ge 21, 3) := by decide +kernel
theorem dJ1_indexOfChar_4cfef_13 : decode cJ1_indexOfChar_4cfef 13 = .ok (.aload_n 0, 1) := by decide +kernel
theorem dJ1_indexOfChar_4cfef_14 : decode cJ1_indexOfChar_4cfef 14 = .ok (.iload 5, 2) := by decide +kernel
theorem dJ1_indexOfChar_4cfef_16 : decode cJ1_indexOfChar_4cfef 16 = .ok (.baload, 1) := by decide +kernel
theorem dJ1_indexOfChar_4cfef_17 : decode cJ1_indexOfChar_4cfef 17 = .ok (.iload 4, 2) := by decide +kernel
theorem dJ1_indexOfChar_4cfef_19 : decode cJ1_indexOfChar_4cfef 19 = .ok (.if_icmp .ne 6, 3) := by decide +kernel
theorem dJ1_indexOfChar_4cfef_22 : decode cJ1_indexOfChar_4cfef 22 = .ok (.iload 5, 2) := by decide +kernel
theorem dJ1_indexOfChar_4cfef_24 : decode cJ1_indexOfChar_4cfef 24 = .ok (.ireturn, 1) := by decide +kernel
theorem dJ1_indexOfChar_4cfef_25 : decode cJ1_indexOfChar_4cfef 25 = .ok (.iinc 5 1, 3) := by decide +kernel
theorem dJ1_indexOfChar_4cfef_28 : decode cJ1_indexOfChar_4cfef 28 = .ok (.goto (-21), 3) := by decide +kernel
theorem dJ1_indexOfChar_4cfef_31 : decode cJ1_indexOfChar_4cfef 31 = .ok (.iconst (-1), 1) := by decide +kernel
theorem dJ1_indexOfChar_4cfef_32 : decode cJ1_indexOfChar_4cfef 32 = .ok (.ireturn, 1) := by decide +kernel
theorem dJ7_fill_53178_0 : decode cJ7_fill_53178 0 = .ok (.iconst 0, 1) := by decide +kernel
theorem dJ7_fill_53178_1 : decode cJ7_fill_53178 1 = .ok (.istore_n 2, 1) := by decide +kernel
theorem dJ7_fill_53178_2 : decode cJ7_fill_53178 2 = .ok (.aload_n 0, 1) := by decide +kernel
theorem dJ7_fill_53178_3 : decode cJ7_fill_53178 3 = .ok (.arraylength, 1) := by decide +kernel
theorem dJ7_fill_53178_4 : decode cJ7_fill_53178 4 = .ok (.istore_n 3, 1) := by decide +kernel
theorem dJ7_fill_53178_5 : decode cJ7_fill_53178 5 = .ok (.iload_n 2, 1) := by decide +kernel
theorem dJ7_fill_53178_6 : decode cJ7_fill_53178 6 = .ok (.iload_n 3, 1) := by decide +kernel
theorem dJ7_fill_53178_7 : decode cJ7_fill_53178 7 = .ok (.if_icmp .ge 13, 3) := by decide +kernel
theorem dJ7_fill_53178_10 : decode cJ7_fill_53178 10 = .ok (.aload_n 0, 1) := by decide +kernel
theorem dJ7_fill_53178_11 : decode cJ7_fill_53178 11 = .ok (.iload_n 2, 1) := by decide +kernel
theorem dJ7_fill_53178_12 : decode cJ7_fill_53178 12 = .ok (.iload_n 1, 1) := by decide +kernel
theorem dJ7_fill_53178_13 : decode cJ7_fill_53178 13 = .ok (.iastore, 1) := by decide +kernel
theorem dJ7_fill_53178_14 : decode cJ7_fill_53178 14 = .ok (.iinc 2 1, 3) := by decide +kernel
theorem dJ7_fill_53178_17 : decode cJ7_fill_53178 17 = .ok (.goto (-12), 3) := by decide +kernel
theorem dJ7_fill_53178_20 : decode cJ7_fill_53178 20 = .ok (.return_, 1) := by decide +kernel
theorem dJ3_checkFromToIndex_8c36e_0 : decode cJ3_checkFromToIndex_8c36e 0 = .ok (.iload_n 0, 1) := by decide +kernel
theorem dJ3_checkFromToIndex_8c36e_1 : decode cJ3_checkFromToIndex_8c36e 1 = .ok (.ifCond .lt 13, 3) := by decide +kernel
theorem dJ3_checkFromToIndex_8c36e_4 : decode cJ3_checkFromToIndex_8c36e 4 = .ok (.iload_n 0, 1) := by decide +kernel
theorem dJ3_checkFromToIndex_8c36e_5 : decode cJ3_checkFromToIndex_8c36e 5 = .ok (.iload_n 1, 1) := by decide +kernel
theorem dJ3_checkFromToIndex_8c36e_6 : decode cJ3_checkFromToIndex_8c36e 6 = .ok (.if_icmp .gt 8, 3) := by decide +kernel
theorem dJ3_checkFromToIndex_8c36e_9 : decode cJ3_checkFromToIndex_8c36e 9 = .ok (.iload_n 1, 1) := by decide +kernel
theorem dJ3_checkFromToIndex_8c36e_10 : decode cJ3_checkFromToIndex_8c36e 10 = .ok (.iload_n 2, 1) := by decide +kernel
theorem dJ3_checkFromToIndex_8c36e_11 : decode cJ3_checkFromToIndex_8c36e 11 = .ok (.if_icmp .le 11, 3) := by decide +kernel
theorem dJ3_checkFromToIndex_8c36e_14 : decode cJ3_checkFromToIndex_8c36e 14 = .ok (.aload_n 3, 1) := by decide +kernel
theorem dJ3_checkFromToIndex_8c36e_15 : decode cJ3_checkFromToIndex_8c36e 15 = .ok (.iload_n 0, 1) := by decide +kernel
theorem dJ3_checkFromToIndex_8c36e_16 : decode cJ3_checkFromToIndex_8c36e 16 = .ok (.iload_n 1, 1) := by decide +kernel
theorem dJ3_checkFromToIndex_8c36e_17 : decode cJ3_checkFromToIndex_8c36e 17 = .ok (.iload_n 2, 1) := by decide +kernel
theorem dJ3_checkFromToIndex_8c36e_18 : decode cJ3_checkFromToIndex_8c36e 18 = .ok (.invokestatic 99, 3) := by decide +kernel
theorem dJ3_checkFromToIndex_8c36e_21 : decode cJ3_checkFromToIndex_8c36e 21 = .ok (.athrow, 1) := by decide +kernel
theorem dJ3_checkFromToIndex_8c36e_22 : decode cJ3_checkFromToIndex_8c36e 22 = .ok (.iload_n 0, 1) := by decide +kernel
theorem dJ3_checkFromToIndex_8c36e_23 : decode cJ3_checkFromToIndex_8c36e 23 = .ok (.ireturn, 1) := by decide +kernel
end
section
/-! THE ABSTRACT MACHINE: a method's code as a list of steps over an abstract heap whose references are places -/
abbrev ah_E : Type := (Nat × Nat × ((Nat → Int32) ⊕ (Nat → Option Nat))) ⊕ (Nat × List Value)
abbrev ah_H : Type := List ah_E
abbrev ah_L : Type := List (Nat × Value)
abbrev ah_R : Type := Option Value × ah_H
abbrev ah_K : Type := ah_L → List Value → ah_H → Option ah_R
abbrev ah_J : Type := Nat → ah_K
abbrev ah_S : Type := ah_J → ah_K
def ah_v (ad : Nat → Nat) : Value → Value := fun v => match v with
  | .ref k => .ref (ad k)
  | v => v
def ah_e (ad : Nat → Nat) (tc : Nat → ClassId) : ah_E → va_E := fun e => match e with
  | .inl (t, n, .inl f) => .inl (tc t, n, .inl f)
  | .inl (t, n, .inr g) => .inl (tc t, n, .inr (.inr (.inr (.inr (fun i => (g i).map ad)))))
  | .inr (ci, fs) => .inr (ci, fs.map (ah_v ad))
def ah_w (ad : Nat → Nat) (tc : Nat → ClassId) (h : ah_H) : va_W := h.zipIdx.map (fun q => (ad q.2, ah_e ad tc q.1))
theorem ah_w_get {ad : Nat → Nat} {tc : Nat → ClassId} {h : ah_H} {k : Nat} {e : ah_E} (hk : h[k]? = some e) : (ah_w ad tc h)[k]? = some (ad k, ah_e ad tc e) := by
  unfold ah_w
  rw [List.getElem?_map, List.getElem?_zipIdx, hk]
  simp
theorem ah_w_set {ad : Nat → Nat} {tc : Nat → ClassId} {h : ah_H} {k : Nat} {e : ah_E} : (ah_w ad tc h).set k (ad k, ah_e ad tc e) = ah_w ad tc (h.set k e) := by
  apply List.ext_getElem?
  intro i
  unfold ah_w
  simp only [List.getElem?_set, List.getElem?_map, List.getElem?_zipIdx, List.length_map, List.length_zipIdx]
  by_cases hik : k = i
  · subst hik
    by_cases hk : k < h.length <;> simp [hk]
  · simp [hik]
def ah_lm (ad : Nat → Nat) (lv : ah_L) : List (Nat × Value) := lv.map (fun q => (q.1, ah_v ad q.2))
def ah_get : ah_L → Nat → Option Value
  | [], _ => none
  | (j, v) :: r, i => bif Nat.beq j i then some v else ah_get r i
theorem ah_get_mem {i : Nat} {v : Value} : ∀ {lv : ah_L}, ah_get lv i = some v → (i, v) ∈ lv
  | [], h => by cases h
  | (j, w) :: r, h => by
    unfold ah_get at h
    cases hb : Nat.beq j i with
    | true =>
      rw [hb] at h
      have e1 : j = i := Nat.eq_of_beq_eq_true hb
      have e2 : w = v := Option.some.inj h
      rw [e1, e2]
      exact List.mem_cons_self
    | false =>
      rw [hb] at h
      exact List.mem_cons_of_mem _ (ah_get_mem h)
theorem ah_loc {ad : Nat → Nat} {ls : Array Slot} {nL : Nat} {lv : ah_L} {i : Nat} {v : Value} (hl : lv_has ls nL (ah_lm ad lv)) (h : ah_get lv i = some v) : ls[i]? = some (.val (ah_v ad v)) :=
  hl.2.2 (i, ah_v ad v) (List.mem_map.mpr ⟨(i, v), ah_get_mem h, rfl⟩)
def ah_two : Value → Bool := fun v => match v with
  | .long _ => true
  | .double _ => true
  | _ => false
def ah_del : ah_L → Nat → ah_L
  | [], _ => []
  | (j, w) :: r, i => bif Nat.beq j i || (Nat.beq (j + 1) i && ah_two w) then ah_del r i else (j, w) :: ah_del r i
def ah_ins : ah_L → Nat → Value → ah_L
  | [], i, v => [(i, v)]
  | (j, w) :: r, i, v => bif Nat.blt i j then (i, v) :: (j, w) :: r else (j, w) :: ah_ins r i v
def ah_set (lv : ah_L) (i : Nat) (v : Value) : ah_L := ah_ins (ah_del lv i) i v
def ah_set2 (lv : ah_L) (i : Nat) (v : Value) : ah_L := ah_ins (ah_del (ah_del lv i) (i + 1)) i v
def ah_res : List Nat → ah_L → ah_L
  | [], _ => []
  | k :: ks, lv => match ah_get lv k with
    | some v => (k, v) :: ah_res ks lv
    | none => ah_res ks lv
theorem ah_del_mem {i : Nat} {q : Nat × Value} : ∀ {lv : ah_L}, q ∈ ah_del lv i → q ∈ lv ∧ ¬ q.1 = i ∧ ¬ (q.1 + 1 = i ∧ ah_two q.2 = true)
  | [], h => by cases h
  | (j, w) :: r, h => by
    unfold ah_del at h
    cases hb : (Nat.beq j i || (Nat.beq (j + 1) i && ah_two w)) with
    | true =>
      rw [hb] at h
      have := ah_del_mem (lv := r) h
      exact ⟨List.mem_cons_of_mem _ this.1, this.2⟩
    | false =>
      rw [hb] at h
      rcases List.mem_cons.mp h with e | h
      · subst e
        simp only [Bool.or_eq_false_iff, Bool.and_eq_false_iff] at hb
        refine ⟨List.mem_cons_self, fun e => ?_, fun e => ?_⟩
        · have e : j = i := e
          rw [e, Nat.beq_refl] at hb
          cases hb.1
        · have e1 : j + 1 = i := e.1
          rcases hb.2 with z | z
          · rw [e1, Nat.beq_refl] at z; cases z
          · have e2 : ah_two w = true := e.2
            rw [e2] at z; cases z
      · have := ah_del_mem (lv := r) h
        exact ⟨List.mem_cons_of_mem _ this.1, this.2⟩
theorem ah_ins_mem {i : Nat} {v : Value} {q : Nat × Value} : ∀ {lv : ah_L}, q ∈ ah_ins lv i v → q = (i, v) ∨ q ∈ lv
  | [], h => by
    have h : q ∈ [(i, v)] := h
    rcases List.mem_cons.mp h with e | h
    · exact Or.inl e
    · cases h
  | (j, w) :: r, h => by
    unfold ah_ins at h
    cases hb : Nat.blt i j with
    | true =>
      rw [hb] at h
      rcases List.mem_cons.mp h with e | h
      · exact Or.inl e
      · exact Or.inr h
    | false =>
      rw [hb] at h
      rcases List.mem_cons.mp h with e | h
      · exact Or.inr (by rw [e]; exact List.mem_cons_self)
      · rcases ah_ins_mem h with e | h
        · exact Or.inl e
        · exact Or.inr (List.mem_cons_of_mem _ h)
theorem ah_res_mem {lv : ah_L} {q : Nat × Value} : ∀ {ks : List Nat}, q ∈ ah_res ks lv → q ∈ lv
  | [], h => by cases h
  | k :: ks, h => by
    unfold ah_res at h
    split at h
    next v hv =>
      rcases List.mem_cons.mp h with e | h
      · rw [e]; exact ah_get_mem hv
      · exact ah_res_mem h
    next => exact ah_res_mem h
theorem ah_cat (ad : Nat → Nat) (v : Value) : (ah_v ad v).category = v.category := by cases v <;> rfl
theorem ah_two_cat (v : Value) : (v.category == 2) = ah_two v := by cases v <;> rfl
theorem ah_lmem {ad : Nat → Nat} {lv lv2 : ah_L} (h : ∀ q ∈ lv2, q ∈ lv) {ls : Array Slot} {nL : Nat} (hl : lv_has ls nL (ah_lm ad lv)) : lv_has ls nL (ah_lm ad lv2) := by
  refine ⟨hl.1, hl.2.1, fun q hq => ?_⟩
  obtain ⟨q0, h0, rfl⟩ := List.mem_map.mp hq
  exact hl.2.2 _ (List.mem_map.mpr ⟨q0, h q0 h0, rfl⟩)
theorem ah_st1 {ad : Nat → Nat} {lv : ah_L} {i : Nat} {v : Value} {ls : Array Slot} {nL : Nat} (hl : lv_has ls nL ((i, ah_v ad v) :: (ah_lm ad lv).filter (fun q => !(q.1 == i) && !(q.1 + 1 == i && q.2.category == 2)))) : lv_has ls nL (ah_lm ad (ah_set lv i v)) := by
  refine ⟨hl.1, hl.2.1, fun q hq => ?_⟩
  obtain ⟨q0, h0, rfl⟩ := List.mem_map.mp hq
  rcases ah_ins_mem h0 with e | h1
  · subst e
    exact hl.2.2 _ List.mem_cons_self
  · obtain ⟨h2, h3, h4⟩ := ah_del_mem h1
    refine hl.2.2 _ (List.mem_cons_of_mem _ (List.mem_filter.mpr ⟨List.mem_map.mpr ⟨q0, h2, rfl⟩, ?_⟩))
    have e1 : (q0.1 == i) = false := by simpa using h3
    simp only [ah_cat, ah_two_cat, e1]
    cases hb : (q0.1 + 1 == i && ah_two q0.2) with
    | false => rfl
    | true =>
      simp only [Bool.and_eq_true, beq_iff_eq] at hb
      exact absurd hb h4
theorem ah_st2 {ad : Nat → Nat} {lv : ah_L} {i : Nat} {v : Value} {ls : Array Slot} {nL : Nat} (hl : lv_has ls nL ((i, ah_v ad v) :: (ah_lm ad lv).filter (fun q => !(q.1 == i) && (!(q.1 == i + 1) && !(q.1 + 1 == i && q.2.category == 2))))) : lv_has ls nL (ah_lm ad (ah_set2 lv i v)) := by
  refine ⟨hl.1, hl.2.1, fun q hq => ?_⟩
  obtain ⟨q0, h0, rfl⟩ := List.mem_map.mp hq
  rcases ah_ins_mem h0 with e | h1
  · subst e
    exact hl.2.2 _ List.mem_cons_self
  · obtain ⟨h5, h6, -⟩ := ah_del_mem h1
    obtain ⟨h2, h3, h4⟩ := ah_del_mem h5
    refine hl.2.2 _ (List.mem_cons_of_mem _ (List.mem_filter.mpr ⟨List.mem_map.mpr ⟨q0, h2, rfl⟩, ?_⟩))
    have e1 : (q0.1 == i) = false := by simpa using h3
    have e2 : (q0.1 == i + 1) = false := by simpa using h6
    simp only [ah_cat, ah_two_cat, e1, e2]
    cases hb : (q0.1 + 1 == i && ah_two q0.2) with
    | false => rfl
    | true =>
      simp only [Bool.and_eq_true, beq_iff_eq] at hb
      exact absurd hb h4
def ah_den (back : ah_J) : List (Nat × ah_S) → ah_J
  | [] => back
  | (pc, f) :: rest => fun p => bif Nat.beq p pc then f (ah_den back rest) else ah_den back rest p
def ah_run (code : List (Nat × ah_S)) : Nat → ah_J
  | 0 => fun _ _ _ _ => none
  | f + 1 => ah_den (ah_run code f) code
def ah_Snd (G : Nat → ah_L → List Value → ah_H → Prop) (res : ah_R) (pc : Nat) (f : ah_S) : Prop := ∀ J : ah_J, (∀ p lv st h, J p lv st h = some res → G p lv st h) → ∀ lv st h, f J lv st h = some res → G pc lv st h
def ah_All (G : Nat → ah_L → List Value → ah_H → Prop) (res : ah_R) (code : List (Nat × ah_S)) : Prop := ∀ q ∈ code, ah_Snd G res q.1 q.2
theorem ah_nil {G : Nat → ah_L → List Value → ah_H → Prop} {res : ah_R} : ah_All G res [] := fun _ h => by cases h
theorem ah_cons {G : Nat → ah_L → List Value → ah_H → Prop} {res : ah_R} {pc : Nat} {f : ah_S} {r : List (Nat × ah_S)} (h : ah_Snd G res pc f) (t : ah_All G res r) : ah_All G res ((pc, f) :: r) := fun q hq => by
  rcases List.mem_cons.mp hq with e | hq
  · subst e; exact h
  · exact t q hq
theorem ah_den_ok {G : Nat → ah_L → List Value → ah_H → Prop} {res : ah_R} {back : ah_J} (hb : ∀ p lv st h, back p lv st h = some res → G p lv st h) : ∀ (code : List (Nat × ah_S)), ah_All G res code → ∀ p lv st h, ah_den back code p lv st h = some res → G p lv st h
  | [], _, p, lv, st, h, hf => hb p lv st h hf
  | (pc, f) :: rest, hc, p, lv, st, h, hf => by
    have ht : ah_All G res rest := fun q hq => hc q (List.mem_cons_of_mem _ hq)
    have ih := ah_den_ok hb rest ht
    unfold ah_den at hf
    cases hp : Nat.beq p pc with
    | true =>
      rw [hp] at hf
      have e : p = pc := Nat.eq_of_beq_eq_true hp
      rw [e]
      exact hc (pc, f) List.mem_cons_self _ ih lv st h hf
    | false =>
      rw [hp] at hf
      exact ih p lv st h hf
theorem ah_run_ok {G : Nat → ah_L → List Value → ah_H → Prop} {res : ah_R} {code : List (Nat × ah_S)} (hc : ah_All G res code) : ∀ (f : Nat) (p : Nat) (lv : ah_L) (st : List Value) (h : ah_H), ah_run code f p lv st h = some res → G p lv st h
  | 0, _, _, _, _, hf => by cases hf
  | f + 1, p, lv, st, h, hf => ah_den_ok (ah_run_ok hc f) code hc p lv st h hf
/-- jumps to n drop the locals that aren't in ks -/
def ah_lim (n : Nat) (ks : List Nat) (f : ah_S) : ah_S := fun J => f (fun p lv => bif Nat.beq p n then J p (ah_res ks lv) else J p lv)
-- what a step takes
def ah_aI : Option Value → Option Int32 := fun o => match o with
  | some (.int x) => some x
  | _ => none
def ah_aL : Option Value → Option Int64 := fun o => match o with
  | some (.long x) => some x
  | _ => none
def ah_aR : Option Value → Option Nat := fun o => match o with
  | some (.ref x) => some x
  | _ => none
theorem ah_aI_i {o : Option Value} {x : Int32} (h : ah_aI o = some x) : o = some (.int x) := by
  unfold ah_aI at h
  split at h
  · cases h; rfl
  · cases h
theorem ah_aL_i {o : Option Value} {x : Int64} (h : ah_aL o = some x) : o = some (.long x) := by
  unfold ah_aL at h
  split at h
  · cases h; rfl
  · cases h
theorem ah_aR_i {o : Option Value} {x : Nat} (h : ah_aR o = some x) : o = some (.ref x) := by
  unfold ah_aR at h
  split at h
  · cases h; rfl
  · cases h
def ah_p1 : List Value → Option (Int32 × List Value) := fun st => match st with
  | .int x :: r => some (x, r)
  | _ => none
def ah_p2 : List Value → Option (Int32 × Int32 × List Value) := fun st => match st with
  | .int y :: .int x :: r => some (x, y, r)
  | _ => none
def ah_g1 : List Value → Option (Int64 × List Value) := fun st => match st with
  | .long x :: r => some (x, r)
  | _ => none
def ah_g2 : List Value → Option (Int64 × Int64 × List Value) := fun st => match st with
  | .long y :: .long x :: r => some (x, y, r)
  | _ => none
def ah_q1 : List Value → Option (Nat × List Value) := fun st => match st with
  | .ref a :: r => some (a, r)
  | _ => none
def ah_qi : List Value → Option (Nat × Int32 × List Value) := fun st => match st with
  | .int i :: .ref a :: r => some (a, i, r)
  | _ => none
def ah_qii : List Value → Option (Nat × Int32 × Int32 × List Value) := fun st => match st with
  | .int x :: .int i :: .ref a :: r => some (a, i, x, r)
  | _ => none
def ah_ql : List Value → Option (Nat × Int64 × List Value) := fun st => match st with
  | .long i :: .ref a :: r => some (a, i, r)
  | _ => none
theorem ah_p1_i {st : List Value} {q : Int32 × List Value} (h : ah_p1 st = some q) : st = .int q.1 :: q.2 := by
  unfold ah_p1 at h
  split at h
  · cases h; rfl
  · cases h
theorem ah_p2_i {st : List Value} {q : Int32 × Int32 × List Value} (h : ah_p2 st = some q) : st = .int q.2.1 :: .int q.1 :: q.2.2 := by
  unfold ah_p2 at h
  split at h
  · cases h; rfl
  · cases h
theorem ah_g1_i {st : List Value} {q : Int64 × List Value} (h : ah_g1 st = some q) : st = .long q.1 :: q.2 := by
  unfold ah_g1 at h
  split at h
  · cases h; rfl
  · cases h
theorem ah_g2_i {st : List Value} {q : Int64 × Int64 × List Value} (h : ah_g2 st = some q) : st = .long q.2.1 :: .long q.1 :: q.2.2 := by
  unfold ah_g2 at h
  split at h
  · cases h; rfl
  · cases h
theorem ah_q1_i {st : List Value} {q : Nat × List Value} (h : ah_q1 st = some q) : st = .ref q.1 :: q.2 := by
  unfold ah_q1 at h
  split at h
  · cases h; rfl
  · cases h
theorem ah_qi_i {st : List Value} {q : Nat × Int32 × List Value} (h : ah_qi st = some q) : st = .int q.2.1 :: .ref q.1 :: q.2.2 := by
  unfold ah_qi at h
  split at h
  · cases h; rfl
  · cases h
theorem ah_qii_i {st : List Value} {q : Nat × Int32 × Int32 × List Value} (h : ah_qii st = some q) : st = .int q.2.2.1 :: .int q.2.1 :: .ref q.1 :: q.2.2.2 := by
  unfold ah_qii at h
  split at h
  · cases h; rfl
  · cases h
theorem ah_ql_i {st : List Value} {q : Nat × Int64 × List Value} (h : ah_ql st = some q) : st = .long q.2.1 :: .ref q.1 :: q.2.2 := by
  unfold ah_ql at h
  split at h
  · cases h; rfl
  · cases h
-- the heap
def ah_rd (f : Nat → Int32) (n : Nat) (i : Int32) : Option Int32 := if i < 0 ∨ n ≤ i.toNatClampNeg then none else some (f i.toNatClampNeg)
def ah_wr (f : Nat → Int32) (n : Nat) (i x : Int32) : Option (Nat → Int32) := if i < 0 ∨ n ≤ i.toNatClampNeg then none else some (upd f i.toNatClampNeg x)
def ah_rr (g : Nat → Option Nat) (n : Nat) (i : Int32) : Option Nat := if i < 0 ∨ n ≤ i.toNatClampNeg then none else g i.toNatClampNeg
def ah_in (c : Nat) : List Nat → Bool
  | [] => false
  | k :: r => bif Nat.beq c k then true else ah_in c r
theorem ah_in_mem {c : Nat} : ∀ {l : List Nat}, ah_in c l = true → c ∈ l
  | [], h => by cases h
  | k :: r, h => by
    unfold ah_in at h
    cases hb : Nat.beq c k with
    | true => rw [Nat.eq_of_beq_eq_true hb]; exact List.mem_cons_self
    | false => rw [hb] at h; exact List.mem_cons_of_mem _ (ah_in_mem h)
def ah_ob (h : ah_H) (a : Nat) : Option (Nat × List Value) := match h[a]? with
  | some (.inr q) => some q
  | _ => none
theorem ah_ob_i {h : ah_H} {a : Nat} {q : Nat × List Value} (e : ah_ob h a = some q) : h[a]? = some (.inr q) := by
  unfold ah_ob at e
  split at e
  next x hx => cases e; exact hx
  next => cases e
def ah_fv (h : ah_H) (a : Nat) (cs : List Nat) (k : Nat) : Option Value := (ah_ob h a).bind fun q => bif ah_in q.1 cs then q.2[k]? else none
def ah_fi (h : ah_H) (a : Nat) (cs : List Nat) (k : Nat) : Option Int32 := ah_aI (ah_fv h a cs k)
def ah_fl (h : ah_H) (a : Nat) (cs : List Nat) (k : Nat) : Option Int64 := ah_aL (ah_fv h a cs k)
def ah_fr (h : ah_H) (a : Nat) (cs : List Nat) (k : Nat) : Option Nat := ah_aR (ah_fv h a cs k)
def ah_sv (h : ah_H) (a : Nat) (cs : List Nat) (k : Nat) (v : Value) : Option ah_H := (ah_ob h a).bind fun q => bif ah_in q.1 cs && Nat.blt k q.2.length then some (h.set a (.inr (q.1, q.2.set k v))) else none
def ah_is (h : ah_H) (a : Nat) (cs : List Nat) : Bool := match ah_ob h a with
  | some q => ah_in q.1 cs
  | none => false
theorem ah_is_i {h : ah_H} {a : Nat} {cs : List Nat} (e : ah_is h a cs = true) : ∃ q, ah_ob h a = some q ∧ ah_in q.1 cs = true := by
  unfold ah_is at e
  split at e
  next q hq => exact ⟨q, hq, e⟩
  next => cases e
def ah_ai (h : ah_H) (a t : Nat) : Option (Nat × (Nat → Int32)) := match h[a]? with
  | some (.inl (t2, n, .inl f)) => bif Nat.beq t2 t then some (n, f) else none
  | _ => none
theorem ah_ai_i {h : ah_H} {a t : Nat} {q : Nat × (Nat → Int32)} (e : ah_ai h a t = some q) : h[a]? = some (.inl (t, q.1, .inl q.2)) := by
  unfold ah_ai at e
  split at e
  next t2 n f hx =>
    cases hb : Nat.beq t2 t with
    | true => rw [hb] at e; cases e; rw [hx, Nat.eq_of_beq_eq_true hb]
    | false => rw [hb] at e; cases e
  next => cases e
def ah_ar (h : ah_H) (a t : Nat) : Option (Nat × (Nat → Option Nat)) := match h[a]? with
  | some (.inl (t2, n, .inr f)) => bif Nat.beq t2 t then some (n, f) else none
  | _ => none
theorem ah_ar_i {h : ah_H} {a t : Nat} {q : Nat × (Nat → Option Nat)} (e : ah_ar h a t = some q) : h[a]? = some (.inl (t, q.1, .inr q.2)) := by
  unfold ah_ar at e
  split at e
  next t2 n f hx =>
    cases hb : Nat.beq t2 t with
    | true => rw [hb] at e; cases e; rw [hx, Nat.eq_of_beq_eq_true hb]
    | false => rw [hb] at e; cases e
  next => cases e
-- the steps
def ah_push (v : Value) (n : Nat) : ah_S := fun J lv st h => J n lv (v :: st) h
def ah_ild (i n : Nat) : ah_S := fun J lv st h => (ah_aI (ah_get lv i)).bind fun x => J n lv (.int x :: st) h
def ah_lld (i n : Nat) : ah_S := fun J lv st h => (ah_aL (ah_get lv i)).bind fun x => J n lv (.long x :: st) h
def ah_ald (i n : Nat) : ah_S := fun J lv st h => (ah_aR (ah_get lv i)).bind fun x => J n lv (.ref x :: st) h
def ah_ist (i n : Nat) : ah_S := fun J lv st h => (ah_p1 st).bind fun q => J n (ah_set lv i (.int q.1)) q.2 h
def ah_lst (i n : Nat) : ah_S := fun J lv st h => (ah_g1 st).bind fun q => J n (ah_set2 lv i (.long q.1)) q.2 h
def ah_rst (i n : Nat) : ah_S := fun J lv st h => (ah_q1 st).bind fun q => J n (ah_set lv i (.ref q.1)) q.2 h
def ah_inc (i : Nat) (d : Int32) (n : Nat) : ah_S := fun J lv st h => (ah_aI (ah_get lv i)).bind fun x => J n (ah_set lv i (.int (x + d))) st h
def ah_bin (g : Int32 → Int32 → Int32) (n : Nat) : ah_S := fun J lv st h => (ah_p2 st).bind fun q => J n lv (.int (g q.1 q.2.1) :: q.2.2) h
def ah_un (g : Int32 → Int32) (n : Nat) : ah_S := fun J lv st h => (ah_p1 st).bind fun q => J n lv (.int (g q.1) :: q.2) h
def ah_div (n : Nat) : ah_S := fun J lv st h => (ah_p2 st).bind fun q => if q.2.1 = 0 then none else J n lv (.int (q.1 / q.2.1) :: q.2.2) h
def ah_rem (n : Nat) : ah_S := fun J lv st h => (ah_p2 st).bind fun q => if q.2.1 = 0 then none else J n lv (.int (q.1 - q.1 / q.2.1 * q.2.1) :: q.2.2) h
def ah_lbin (g : Int64 → Int64 → Int64) (n : Nat) : ah_S := fun J lv st h => (ah_g2 st).bind fun q => J n lv (.long (g q.1 q.2.1) :: q.2.2) h
def ah_ldiv (n : Nat) : ah_S := fun J lv st h => (ah_g2 st).bind fun q => if q.2.1 = 0 then none else J n lv (.long (q.1 / q.2.1) :: q.2.2) h
def ah_lrem (n : Nat) : ah_S := fun J lv st h => (ah_g2 st).bind fun q => if q.2.1 = 0 then none else J n lv (.long (q.1 - q.1 / q.2.1 * q.2.1) :: q.2.2) h
def ah_lcmp (n : Nat) : ah_S := fun J lv st h => (ah_g2 st).bind fun q => J n lv (.int (lg_cmp q.1 q.2.1) :: q.2.2) h
def ah_i2l (n : Nat) : ah_S := fun J lv st h => (ah_p1 st).bind fun q => J n lv (.long q.1.toInt64 :: q.2) h
def ah_l2i (n : Nat) : ah_S := fun J lv st h => (ah_g1 st).bind fun q => J n lv (.int q.1.toInt32 :: q.2) h
def ah_dupR (n : Nat) : ah_S := fun J lv st h => (ah_q1 st).bind fun q => J n lv (.ref q.1 :: .ref q.1 :: q.2) h
def ah_dup2 (n : Nat) : ah_S := fun J lv st h => (ah_qi st).bind fun q => J n lv (.int q.2.1 :: .ref q.1 :: .int q.2.1 :: .ref q.1 :: q.2.2) h
def ah_goto (t : Nat) : ah_S := fun J lv st h => J t lv st h
def ah_ceq (t n : Nat) : ah_S := fun J lv st h => (ah_p2 st).bind fun q => if q.1 = q.2.1 then J t lv q.2.2 h else J n lv q.2.2 h
def ah_clt (t n : Nat) : ah_S := fun J lv st h => (ah_p2 st).bind fun q => if q.1 < q.2.1 then J t lv q.2.2 h else J n lv q.2.2 h
def ah_cgt (t n : Nat) : ah_S := fun J lv st h => (ah_p2 st).bind fun q => if q.2.1 < q.1 then J t lv q.2.2 h else J n lv q.2.2 h
def ah_zeq (t n : Nat) : ah_S := fun J lv st h => (ah_p1 st).bind fun q => if q.1 = 0 then J t lv q.2 h else J n lv q.2 h
def ah_zlt (t n : Nat) : ah_S := fun J lv st h => (ah_p1 st).bind fun q => if q.1 < 0 then J t lv q.2 h else J n lv q.2 h
def ah_zgt (t n : Nat) : ah_S := fun J lv st h => (ah_p1 st).bind fun q => if 0 < q.1 then J t lv q.2 h else J n lv q.2 h
def ah_swt (J : ah_J) (lv : ah_L) (r : List Value) (h : ah_H) (x : Int32) (d : Nat) : List (Int32 × Nat) → Option ah_R
  | [] => J d lv r h
  | (k, t) :: ks => if x = k then J t lv r h else ah_swt J lv r h x d ks
def ah_sw (ks : List (Int32 × Nat)) (d : Nat) : ah_S := fun J lv st h => (ah_p1 st).bind fun q => ah_swt J lv q.2 h q.1 d ks
def ah_gfi (cs : List Nat) (k n : Nat) : ah_S := fun J lv st h => (ah_q1 st).bind fun q => (ah_fi h q.1 cs k).bind fun x => J n lv (.int x :: q.2) h
def ah_gfl (cs : List Nat) (k n : Nat) : ah_S := fun J lv st h => (ah_q1 st).bind fun q => (ah_fl h q.1 cs k).bind fun x => J n lv (.long x :: q.2) h
def ah_gfr (cs : List Nat) (k n : Nat) : ah_S := fun J lv st h => (ah_q1 st).bind fun q => (ah_fr h q.1 cs k).bind fun x => J n lv (.ref x :: q.2) h
def ah_pfi (cs : List Nat) (k n : Nat) : ah_S := fun J lv st h => (ah_qi st).bind fun q => (ah_sv h q.1 cs k (.int q.2.1)).bind fun h2 => J n lv q.2.2 h2
def ah_pfz (cs : List Nat) (k n : Nat) : ah_S := fun J lv st h => (ah_qi st).bind fun q => if q.2.1 = 0 ∨ q.2.1 = 1 then (ah_sv h q.1 cs k (.int q.2.1)).bind fun h2 => J n lv q.2.2 h2 else none
def ah_pfl (cs : List Nat) (k n : Nat) : ah_S := fun J lv st h => (ah_ql st).bind fun q => (ah_sv h q.1 cs k (.long q.2.1)).bind fun h2 => J n lv q.2.2 h2
def ah_iald (t n : Nat) : ah_S := fun J lv st h => (ah_qi st).bind fun q => (ah_ai h q.1 t).bind fun w => (ah_rd w.2 w.1 q.2.1).bind fun x => J n lv (.int x :: q.2.2) h
def ah_iast (n : Nat) : ah_S := fun J lv st h => (ah_qii st).bind fun q => (ah_ai h q.1 0).bind fun w => (ah_wr w.2 w.1 q.2.1 q.2.2.1).bind fun f => J n lv q.2.2.2 (h.set q.1 (.inl (0, w.1, .inl f)))
def ah_zast (n : Nat) : ah_S := fun J lv st h => (ah_qii st).bind fun q => if q.2.2.1 = 0 ∨ q.2.2.1 = 1 then (ah_ai h q.1 1).bind fun w => (ah_wr w.2 w.1 q.2.1 q.2.2.1).bind fun f => J n lv q.2.2.2 (h.set q.1 (.inl (1, w.1, .inl f))) else none
def ah_aald (t n : Nat) : ah_S := fun J lv st h => (ah_qi st).bind fun q => (ah_ar h q.1 t).bind fun w => (ah_rr w.2 w.1 q.2.1).bind fun x => J n lv (.ref x :: q.2.2) h
def ah_alen (n : Nat) : ah_S := fun J lv st h => (ah_q1 st).bind fun q => (ah_ai h q.1 0).bind fun w => J n lv (.int (Int32.ofNat w.1) :: q.2) h
def ah_inst (ys ns : List Nat) (n : Nat) : ah_S := fun J lv st h => (ah_q1 st).bind fun q => bif ah_is h q.1 ys then J n lv (.int 1 :: q.2) h else bif ah_is h q.1 ns then J n lv (.int 0 :: q.2) h else none
def ah_iret : ah_S := fun _ _ st h => (ah_p1 st).bind fun q => match q.2 with
  | [] => some (some (.int q.1), h)
  | _ => none
def ah_zret : ah_S := fun _ _ st h => (ah_p1 st).bind fun q => match q.2 with
  | [] => if q.1 = 0 ∨ q.1 = 1 then some (some (.int q.1), h) else none
  | _ => none
def ah_lret : ah_S := fun _ _ st h => (ah_g1 st).bind fun q => match q.2 with
  | [] => some (some (.long q.1), h)
  | _ => none
def ah_vret : ah_S := fun _ _ st h => match st with
  | [] => some (none, h)
  | _ => none
end
section
/-! THE MACHINE IS SOUND: what the abstract steps answer, the Java machine answers -/
def ah_tys (tc : Nat → ClassId) : List (ClassId × FieldType) := [(tc 0, .int), (tc 1, .boolean), (tc 2, .object "GloveSaint$Single"), (tc 3, .array .int)]
def ah_TT : List Cond := lw_tbl.filter goodWord
theorem ah_TT_in {w : Cond} (h : w ∈ lw_tbl) (g : goodWord w = true) : w ∈ ah_TT := List.mem_filter.mpr ⟨h, g⟩
theorem ah_TT_good {w : Cond} (h : w ∈ ah_TT) : (w.onTables && w.keeps) = true ∨ ∃ ty, w = .arrayClass ty := good_of_word (List.mem_filter.mp h).2
def ah_Ev (s0 U : State) : Prop := s0.vm.Alike U.vm ∧ s0.heap.size ≤ U.heap.size ∧ ∀ q : Nat, q < s0.heap.size → U.heap[q]? = s0.heap[q]?
def ah_Pre (s0 : State) (D : va_G) (tc : Nat → ClassId) (ad : Nat → Nat) (A : Nat → Prop) (as : List Value) (h : ah_H) : Array Value → State → Prop := va_Pc (as.map (ah_v ad)) (fun U => va_P D vwCl (ah_w ad tc h) U.heap ∧ va_K D vwCl (ah_tys tc) U ∧ va_D A (ah_w ad tc h) ∧ ah_Ev s0 U)
def ah_Q (D : va_G) (tc : Nat → ClassId) (ad : Nat → Nat) (A : Nat → Prop) (res : ah_R) : Array Value → State → Outcome → State → Prop := fun _ st o t => o = .returned (res.1.map (ah_v ad)) ∧ va_P D vwCl (ah_w ad tc res.2) t.heap ∧ va_D A (ah_w ad tc res.2) ∧ va_F A st t
def ah_C (p : Program) (s : State) (m : MethodId) (args : Array Value) (meth : Method) (c : Code) (cc : ByteArray) (nL : Nat) (own : String) (ret : Option FieldType) (s0 : State) (D : va_G) (tc : Nat → ClassId) (A : Nat → Prop) : Prop :=
  p.tables.exec = Jvm.exec ∧ c.code = cc ∧ c.maxLocals = nL ∧ s.vm.findClass own = some m.cls ∧ (∀ w ∈ ah_TT, w.before args s = true) ∧ va_K D vwCl (ah_tys tc) s ∧ ah_Ev s0 s ∧ (∀ q, A q → s0.heap.size ≤ q) ∧ meth.locks = false ∧ meth.sig.returnType = ret
def ah_G (p : Program) (l : Launch) (e : Env) (R : Room) (s : State) (m : MethodId) (args : Array Value) (below : List Frame) (meth : Method) (c : Code) (nL : Nat) (D : va_G) (tc : Nat → ClassId) (ad : Nat → Nat) (A : Nat → Prop) (res : ah_R) : Nat → ah_L → List Value → ah_H → Prop := fun pc lv st h =>
  ∀ (ls : Array Slot) (H : Heap) (locs : List Loc), lv_has ls nL (ah_lm ad lv) → va_P D vwCl (ah_w ad tc h) H → va_D A (ah_w ad tc h) → va_S A s.heap H locs → W p l e R s m args below meth c H locs 0 0 (MQ below (ah_Q D tc ad A res) args s 0 0 A) (F0 m pc ls (st.map (ah_v ad)))
section AHS
variable {p : Program} {l : Launch} {e : Env} {R : Room} {s : State} {m : MethodId} {args : Array Value} {below : List Frame} {meth : Method} {c : Code} {cc : ByteArray} {nL : Nat} {own : String} {ret : Option FieldType} {s0 : State} {D : va_G} {tc : Nat → ClassId} {ad : Nat → Nat} {A : Nat → Prop} {res : ah_R} {pc : Nat}
theorem as_lim {f : ah_S} {n : Nat} {ks : List Nat} (h : ah_Snd (ah_G p l e R s m args below meth c nL D tc ad A res) res pc f) : ah_Snd (ah_G p l e R s m args below meth c nL D tc ad A res) res pc (ah_lim n ks f) := by
  intro J hJ lv st h0 hf
  refine h _ (fun p lv st h hp => ?_) lv st h0 hf
  cases hb : Nat.beq p n with
  | true =>
    rw [hb] at hp
    have := hJ _ _ _ _ hp
    intro ls H locs hl hP hD hS
    exact this ls H locs (ah_lmem (fun q hq => ah_res_mem hq) hl) hP hD hS
  | false =>
    rw [hb] at hp
    exact hJ _ _ _ _ hp
theorem as_iconst (C : ah_C p s m args meth c cc nL own ret s0 D tc A) {k : Int} {v : Int32} (hd : decode cc pc = .ok (.iconst k, 1)) (hv : Int32.ofInt k = v) : ah_Snd (ah_G p l e R s m args below meth c nL D tc ad A res) res pc (ah_push (.int v) (pc + 1)) := by
  intro J hJ lv st h hf ls H locs hl hP hD hS
  exact lv_iconst C.1 C.2.1 hd hv (hJ _ _ _ _ hf ls H locs hl hP hD hS)
theorem as_bipush (C : ah_C p s m args meth c cc nL own ret s0 D tc A) {k : Int} {v : Int32} (hd : decode cc pc = .ok (.bipush k, 2)) (hv : (Int8.ofInt k).toInt32 = v) : ah_Snd (ah_G p l e R s m args below meth c nL D tc ad A res) res pc (ah_push (.int v) (pc + 2)) := by
  intro J hJ lv st h hf ls H locs hl hP hD hS
  exact lv_bipush C.1 C.2.1 hd hv (hJ _ _ _ _ hf ls H locs hl hP hD hS)
theorem as_sipush (C : ah_C p s m args meth c cc nL own ret s0 D tc A) {k : Int} {v : Int32} (hd : decode cc pc = .ok (.sipush k, 3)) (hv : (Int16.ofInt k).toInt32 = v) : ah_Snd (ah_G p l e R s m args below meth c nL D tc ad A res) res pc (ah_push (.int v) (pc + 3)) := by
  intro J hJ lv st h hf ls H locs hl hP hD hS
  exact lv_sipush C.1 C.2.1 hd hv (hJ _ _ _ _ hf ls H locs hl hP hD hS)
theorem as_lconst (C : ah_C p s m args meth c cc nL own ret s0 D tc A) {k : Fin 2} {v : Int64} (hd : decode cc pc = .ok (.lconst k, 1)) (hv : Int64.ofNat (k : Nat) = v) : ah_Snd (ah_G p l e R s m args below meth c nL D tc ad A res) res pc (ah_push (.long v) (pc + 1)) := by
  intro J hJ lv st h hf ls H locs hl hP hD hS
  exact lv_lconst C.1 C.2.1 hd hv (hJ _ _ _ _ hf ls H locs hl hP hD hS)
theorem as_ldc (C : ah_C p s m args meth c cc nL own ret s0 D tc A) {k : Nat} {v : Int32} (hd : decode cc pc = .ok (.ldc k, 2)) (hw : Cond.constant own k v ∈ ah_TT) : ah_Snd (ah_G p l e R s m args below meth c nL D tc ad A res) res pc (ah_push (.int v) (pc + 2)) := by
  intro J hJ lv st h hf ls H locs hl hP hD hS
  exact lv_ldc C.1 C.2.1 C.2.2.2.1 (C.2.2.2.2.1 _ hw) hd (hJ _ _ _ _ hf ls H locs hl hP hD hS)
theorem as_ldcw (C : ah_C p s m args meth c cc nL own ret s0 D tc A) {k : Nat} {v : Int32} (hd : decode cc pc = .ok (.ldc_w k, 3)) (hw : Cond.constant own k v ∈ ah_TT) : ah_Snd (ah_G p l e R s m args below meth c nL D tc ad A res) res pc (ah_push (.int v) (pc + 3)) := by
  intro J hJ lv st h hf ls H locs hl hP hD hS
  exact lv_ldcw C.1 C.2.1 C.2.2.2.1 (C.2.2.2.2.1 _ hw) hd (hJ _ _ _ _ hf ls H locs hl hP hD hS)
theorem as_ldc2 (C : ah_C p s m args meth c cc nL own ret s0 D tc A) {k : Nat} {v : Int64} (hd : decode cc pc = .ok (.ldc2_w k, 3)) (hw : Cond.constantLong own k v ∈ ah_TT) : ah_Snd (ah_G p l e R s m args below meth c nL D tc ad A res) res pc (ah_push (.long v) (pc + 3)) := by
  intro J hJ lv st h hf ls H locs hl hP hD hS
  exact lv_ldc2 C.1 C.2.1 C.2.2.2.1 (C.2.2.2.2.1 _ hw) hd (hJ _ _ _ _ hf ls H locs hl hP hD hS)
theorem as_iload (C : ah_C p s m args meth c cc nL own ret s0 D tc A) {i : Nat} (hd : decode cc pc = .ok (.iload i, 2)) : ah_Snd (ah_G p l e R s m args below meth c nL D tc ad A res) res pc (ah_ild i (pc + 2)) := by
  intro J hJ lv st h hf ls H locs hl hP hD hS
  replace hf := Option.bind_eq_some_iff.mp hf
  obtain ⟨x, hx, hf⟩ := hf
  exact lv_iload C.1 C.2.1 hd (ah_loc hl (ah_aI_i hx)) (hJ _ _ _ _ hf ls H locs hl hP hD hS)
theorem as_iload_n (C : ah_C p s m args meth c cc nL own ret s0 D tc A) {k : Fin 4} {i : Nat} (hd : decode cc pc = .ok (.iload_n k, 1)) (hi : (k : Nat) = i) : ah_Snd (ah_G p l e R s m args below meth c nL D tc ad A res) res pc (ah_ild i (pc + 1)) := by
  intro J hJ lv st h hf ls H locs hl hP hD hS
  replace hf := Option.bind_eq_some_iff.mp hf
  obtain ⟨x, hx, hf⟩ := hf
  exact lv_iload_n C.1 C.2.1 hd hi (ah_loc hl (ah_aI_i hx)) (hJ _ _ _ _ hf ls H locs hl hP hD hS)
theorem as_lload (C : ah_C p s m args meth c cc nL own ret s0 D tc A) {i : Nat} (hd : decode cc pc = .ok (.lload i, 2)) : ah_Snd (ah_G p l e R s m args below meth c nL D tc ad A res) res pc (ah_lld i (pc + 2)) := by
  intro J hJ lv st h hf ls H locs hl hP hD hS
  replace hf := Option.bind_eq_some_iff.mp hf
  obtain ⟨x, hx, hf⟩ := hf
  exact lv_lload C.1 C.2.1 hd (ah_loc hl (ah_aL_i hx)) (hJ _ _ _ _ hf ls H locs hl hP hD hS)
theorem as_lload_n (C : ah_C p s m args meth c cc nL own ret s0 D tc A) {k : Fin 4} {i : Nat} (hd : decode cc pc = .ok (.lload_n k, 1)) (hi : (k : Nat) = i) : ah_Snd (ah_G p l e R s m args below meth c nL D tc ad A res) res pc (ah_lld i (pc + 1)) := by
  intro J hJ lv st h hf ls H locs hl hP hD hS
  replace hf := Option.bind_eq_some_iff.mp hf
  obtain ⟨x, hx, hf⟩ := hf
  exact lv_lload_n C.1 C.2.1 hd hi (ah_loc hl (ah_aL_i hx)) (hJ _ _ _ _ hf ls H locs hl hP hD hS)
theorem as_aload (C : ah_C p s m args meth c cc nL own ret s0 D tc A) {i : Nat} (hd : decode cc pc = .ok (.aload i, 2)) : ah_Snd (ah_G p l e R s m args below meth c nL D tc ad A res) res pc (ah_ald i (pc + 2)) := by
  intro J hJ lv st h hf ls H locs hl hP hD hS
  replace hf := Option.bind_eq_some_iff.mp hf
  obtain ⟨x, hx, hf⟩ := hf
  exact lv_aload C.1 C.2.1 hd (ah_loc hl (ah_aR_i hx)) (hJ _ _ _ _ hf ls H locs hl hP hD hS)
theorem as_aload_n (C : ah_C p s m args meth c cc nL own ret s0 D tc A) {k : Fin 4} {i : Nat} (hd : decode cc pc = .ok (.aload_n k, 1)) (hi : (k : Nat) = i) : ah_Snd (ah_G p l e R s m args below meth c nL D tc ad A res) res pc (ah_ald i (pc + 1)) := by
  intro J hJ lv st h hf ls H locs hl hP hD hS
  replace hf := Option.bind_eq_some_iff.mp hf
  obtain ⟨x, hx, hf⟩ := hf
  exact lv_aload_n C.1 C.2.1 hd hi (ah_loc hl (ah_aR_i hx)) (hJ _ _ _ _ hf ls H locs hl hP hD hS)
theorem as_istore (C : ah_C p s m args meth c cc nL own ret s0 D tc A) {i : Nat} (hd : decode cc pc = .ok (.istore i, 2)) (hn : i < nL) : ah_Snd (ah_G p l e R s m args below meth c nL D tc ad A res) res pc (ah_ist i (pc + 2)) := by
  intro J hJ lv st h hf ls H locs hl hP hD hS
  replace hf := Option.bind_eq_some_iff.mp hf
  obtain ⟨q, hq, hf⟩ := hf
  obtain rfl := ah_p1_i hq
  exact lv_istore C.1 C.2.1 hd hl hn rfl (fun ls hl => hJ _ _ _ _ hf ls H locs (ah_st1 (v := .int q.1) hl) hP hD hS)
theorem as_istore_n (C : ah_C p s m args meth c cc nL own ret s0 D tc A) {k : Fin 4} {i : Nat} (hd : decode cc pc = .ok (.istore_n k, 1)) (hi : (k : Nat) = i) (hn : i < nL) : ah_Snd (ah_G p l e R s m args below meth c nL D tc ad A res) res pc (ah_ist i (pc + 1)) := by
  intro J hJ lv st h hf ls H locs hl hP hD hS
  replace hf := Option.bind_eq_some_iff.mp hf
  obtain ⟨q, hq, hf⟩ := hf
  obtain rfl := ah_p1_i hq
  exact lv_istore_n C.1 C.2.1 hd hi hl hn rfl (fun ls hl => hJ _ _ _ _ hf ls H locs (ah_st1 (v := .int q.1) hl) hP hD hS)
theorem as_lstore (C : ah_C p s m args meth c cc nL own ret s0 D tc A) {i : Nat} (hd : decode cc pc = .ok (.lstore i, 2)) (hn : i + 1 < nL) : ah_Snd (ah_G p l e R s m args below meth c nL D tc ad A res) res pc (ah_lst i (pc + 2)) := by
  intro J hJ lv st h hf ls H locs hl hP hD hS
  replace hf := Option.bind_eq_some_iff.mp hf
  obtain ⟨q, hq, hf⟩ := hf
  obtain rfl := ah_g1_i hq
  exact lv_lstore C.1 C.2.1 hd hl hn rfl (fun ls hl => hJ _ _ _ _ hf ls H locs (ah_st2 (v := .long q.1) hl) hP hD hS)
theorem as_lstore_n (C : ah_C p s m args meth c cc nL own ret s0 D tc A) {k : Fin 4} {i : Nat} (hd : decode cc pc = .ok (.lstore_n k, 1)) (hi : (k : Nat) = i) (hn : i + 1 < nL) : ah_Snd (ah_G p l e R s m args below meth c nL D tc ad A res) res pc (ah_lst i (pc + 1)) := by
  intro J hJ lv st h hf ls H locs hl hP hD hS
  replace hf := Option.bind_eq_some_iff.mp hf
  obtain ⟨q, hq, hf⟩ := hf
  obtain rfl := ah_g1_i hq
  exact lv_lstore_n C.1 C.2.1 hd hi hl hn rfl (fun ls hl => hJ _ _ _ _ hf ls H locs (ah_st2 (v := .long q.1) hl) hP hD hS)
theorem as_astore (C : ah_C p s m args meth c cc nL own ret s0 D tc A) {i : Nat} (hd : decode cc pc = .ok (.astore i, 2)) (hn : i < nL) : ah_Snd (ah_G p l e R s m args below meth c nL D tc ad A res) res pc (ah_rst i (pc + 2)) := by
  intro J hJ lv st h hf ls H locs hl hP hD hS
  replace hf := Option.bind_eq_some_iff.mp hf
  obtain ⟨q, hq, hf⟩ := hf
  obtain rfl := ah_q1_i hq
  exact lv_astore C.1 C.2.1 hd hl hn rfl (fun ls hl => hJ _ _ _ _ hf ls H locs (ah_st1 (v := .ref q.1) hl) hP hD hS)
theorem as_astore_n (C : ah_C p s m args meth c cc nL own ret s0 D tc A) {k : Fin 4} {i : Nat} (hd : decode cc pc = .ok (.astore_n k, 1)) (hi : (k : Nat) = i) (hn : i < nL) : ah_Snd (ah_G p l e R s m args below meth c nL D tc ad A res) res pc (ah_rst i (pc + 1)) := by
  intro J hJ lv st h hf ls H locs hl hP hD hS
  replace hf := Option.bind_eq_some_iff.mp hf
  obtain ⟨q, hq, hf⟩ := hf
  obtain rfl := ah_q1_i hq
  exact lv_astore_n C.1 C.2.1 hd hi hl hn rfl (fun ls hl => hJ _ _ _ _ hf ls H locs (ah_st1 (v := .ref q.1) hl) hP hD hS)
theorem as_iinc (C : ah_C p s m args meth c cc nL own ret s0 D tc A) {i : Nat} {k : Int} {d : Int32} (hd : decode cc pc = .ok (.iinc i k, 3)) (hv : Int32.ofInt k = d) (hn : i < nL) : ah_Snd (ah_G p l e R s m args below meth c nL D tc ad A res) res pc (ah_inc i d (pc + 3)) := by
  intro J hJ lv st h hf ls H locs hl hP hD hS
  replace hf := Option.bind_eq_some_iff.mp hf
  obtain ⟨x, hx, hf⟩ := hf
  have hm : (i, Value.int x) ∈ ah_lm ad lv := List.mem_map.mpr ⟨(i, .int x), ah_get_mem (ah_aI_i hx), rfl⟩
  obtain ⟨k0, hk0⟩ := List.getElem?_of_mem hm
  exact lv_iinc (v := x + d) C.1 C.2.1 hd hl hk0 (by rw [hv]) hn rfl (fun ls hl => hJ _ _ _ _ hf ls H locs (ah_st1 (v := .int (x + d)) hl) hP hD hS)
theorem as_iadd (C : ah_C p s m args meth c cc nL own ret s0 D tc A) (hd : decode cc pc = .ok (.iadd, 1)) : ah_Snd (ah_G p l e R s m args below meth c nL D tc ad A res) res pc (ah_bin (fun x y => x + y) (pc + 1)) := by
  intro J hJ lv st h hf ls H locs hl hP hD hS
  replace hf := Option.bind_eq_some_iff.mp hf
  obtain ⟨q, hq, hf⟩ := hf
  obtain rfl := ah_p2_i hq
  exact lv_iadd C.1 C.2.1 hd (hJ _ _ _ _ hf ls H locs hl hP hD hS)
theorem as_isub (C : ah_C p s m args meth c cc nL own ret s0 D tc A) (hd : decode cc pc = .ok (.isub, 1)) : ah_Snd (ah_G p l e R s m args below meth c nL D tc ad A res) res pc (ah_bin (fun x y => x - y) (pc + 1)) := by
  intro J hJ lv st h hf ls H locs hl hP hD hS
  replace hf := Option.bind_eq_some_iff.mp hf
  obtain ⟨q, hq, hf⟩ := hf
  obtain rfl := ah_p2_i hq
  exact lv_isub C.1 C.2.1 hd (hJ _ _ _ _ hf ls H locs hl hP hD hS)
theorem as_imul (C : ah_C p s m args meth c cc nL own ret s0 D tc A) (hd : decode cc pc = .ok (.imul, 1)) : ah_Snd (ah_G p l e R s m args below meth c nL D tc ad A res) res pc (ah_bin (fun x y => x * y) (pc + 1)) := by
  intro J hJ lv st h hf ls H locs hl hP hD hS
  replace hf := Option.bind_eq_some_iff.mp hf
  obtain ⟨q, hq, hf⟩ := hf
  obtain rfl := ah_p2_i hq
  exact lv_imul C.1 C.2.1 hd (hJ _ _ _ _ hf ls H locs hl hP hD hS)
theorem as_iand (C : ah_C p s m args meth c cc nL own ret s0 D tc A) (hd : decode cc pc = .ok (.iand, 1)) : ah_Snd (ah_G p l e R s m args below meth c nL D tc ad A res) res pc (ah_bin (fun x y => x &&& y) (pc + 1)) := by
  intro J hJ lv st h hf ls H locs hl hP hD hS
  replace hf := Option.bind_eq_some_iff.mp hf
  obtain ⟨q, hq, hf⟩ := hf
  obtain rfl := ah_p2_i hq
  exact lv_iand C.1 C.2.1 hd (hJ _ _ _ _ hf ls H locs hl hP hD hS)
theorem as_ior (C : ah_C p s m args meth c cc nL own ret s0 D tc A) (hd : decode cc pc = .ok (.ior, 1)) : ah_Snd (ah_G p l e R s m args below meth c nL D tc ad A res) res pc (ah_bin (fun x y => x ||| y) (pc + 1)) := by
  intro J hJ lv st h hf ls H locs hl hP hD hS
  replace hf := Option.bind_eq_some_iff.mp hf
  obtain ⟨q, hq, hf⟩ := hf
  obtain rfl := ah_p2_i hq
  exact lv_ior C.1 C.2.1 hd (hJ _ _ _ _ hf ls H locs hl hP hD hS)
theorem as_ixor (C : ah_C p s m args meth c cc nL own ret s0 D tc A) (hd : decode cc pc = .ok (.ixor, 1)) : ah_Snd (ah_G p l e R s m args below meth c nL D tc ad A res) res pc (ah_bin (fun x y => x ^^^ y) (pc + 1)) := by
  intro J hJ lv st h hf ls H locs hl hP hD hS
  replace hf := Option.bind_eq_some_iff.mp hf
  obtain ⟨q, hq, hf⟩ := hf
  obtain rfl := ah_p2_i hq
  exact lv_ixor C.1 C.2.1 hd (hJ _ _ _ _ hf ls H locs hl hP hD hS)
theorem as_ishl (C : ah_C p s m args meth c cc nL own ret s0 D tc A) (hd : decode cc pc = .ok (.ishl, 1)) : ah_Snd (ah_G p l e R s m args below meth c nL D tc ad A res) res pc (ah_bin (fun x y => x <<< (y &&& 31)) (pc + 1)) := by
  intro J hJ lv st h hf ls H locs hl hP hD hS
  replace hf := Option.bind_eq_some_iff.mp hf
  obtain ⟨q, hq, hf⟩ := hf
  obtain rfl := ah_p2_i hq
  exact lv_ishl C.1 C.2.1 hd (hJ _ _ _ _ hf ls H locs hl hP hD hS)
theorem as_ishr (C : ah_C p s m args meth c cc nL own ret s0 D tc A) (hd : decode cc pc = .ok (.ishr, 1)) : ah_Snd (ah_G p l e R s m args below meth c nL D tc ad A res) res pc (ah_bin (fun x y => x >>> (y &&& 31)) (pc + 1)) := by
  intro J hJ lv st h hf ls H locs hl hP hD hS
  replace hf := Option.bind_eq_some_iff.mp hf
  obtain ⟨q, hq, hf⟩ := hf
  obtain rfl := ah_p2_i hq
  exact lv_ishr C.1 C.2.1 hd (hJ _ _ _ _ hf ls H locs hl hP hD hS)
theorem as_ladd (C : ah_C p s m args meth c cc nL own ret s0 D tc A) (hd : decode cc pc = .ok (.ladd, 1)) : ah_Snd (ah_G p l e R s m args below meth c nL D tc ad A res) res pc (ah_lbin (fun x y => x + y) (pc + 1)) := by
  intro J hJ lv st h hf ls H locs hl hP hD hS
  replace hf := Option.bind_eq_some_iff.mp hf
  obtain ⟨q, hq, hf⟩ := hf
  obtain rfl := ah_g2_i hq
  exact lv_ladd C.1 C.2.1 hd (hJ _ _ _ _ hf ls H locs hl hP hD hS)
theorem as_lsub (C : ah_C p s m args meth c cc nL own ret s0 D tc A) (hd : decode cc pc = .ok (.lsub, 1)) : ah_Snd (ah_G p l e R s m args below meth c nL D tc ad A res) res pc (ah_lbin (fun x y => x - y) (pc + 1)) := by
  intro J hJ lv st h hf ls H locs hl hP hD hS
  replace hf := Option.bind_eq_some_iff.mp hf
  obtain ⟨q, hq, hf⟩ := hf
  obtain rfl := ah_g2_i hq
  exact lv_lsub C.1 C.2.1 hd (hJ _ _ _ _ hf ls H locs hl hP hD hS)
theorem as_lmul (C : ah_C p s m args meth c cc nL own ret s0 D tc A) (hd : decode cc pc = .ok (.lmul, 1)) : ah_Snd (ah_G p l e R s m args below meth c nL D tc ad A res) res pc (ah_lbin (fun x y => x * y) (pc + 1)) := by
  intro J hJ lv st h hf ls H locs hl hP hD hS
  replace hf := Option.bind_eq_some_iff.mp hf
  obtain ⟨q, hq, hf⟩ := hf
  obtain rfl := ah_g2_i hq
  exact lv_lmul C.1 C.2.1 hd (hJ _ _ _ _ hf ls H locs hl hP hD hS)
theorem as_land (C : ah_C p s m args meth c cc nL own ret s0 D tc A) (hd : decode cc pc = .ok (.land, 1)) : ah_Snd (ah_G p l e R s m args below meth c nL D tc ad A res) res pc (ah_lbin (fun x y => x &&& y) (pc + 1)) := by
  intro J hJ lv st h hf ls H locs hl hP hD hS
  replace hf := Option.bind_eq_some_iff.mp hf
  obtain ⟨q, hq, hf⟩ := hf
  obtain rfl := ah_g2_i hq
  exact lv_land C.1 C.2.1 hd (hJ _ _ _ _ hf ls H locs hl hP hD hS)
theorem as_idiv (C : ah_C p s m args meth c cc nL own ret s0 D tc A) (hd : decode cc pc = .ok (.idiv, 1)) : ah_Snd (ah_G p l e R s m args below meth c nL D tc ad A res) res pc (ah_div (pc + 1)) := by
  intro J hJ lv st h hf ls H locs hl hP hD hS
  replace hf := Option.bind_eq_some_iff.mp hf
  obtain ⟨q, hq, hf⟩ := hf
  obtain rfl := ah_p2_i hq
  by_cases hz : q.2.1 = 0
  · rw [if_pos hz] at hf; cases hf
  · rw [if_neg hz] at hf
    exact lv_idiv C.1 C.2.1 hd hz (hJ _ _ _ _ hf ls H locs hl hP hD hS)
theorem as_irem (C : ah_C p s m args meth c cc nL own ret s0 D tc A) (hd : decode cc pc = .ok (.irem, 1)) : ah_Snd (ah_G p l e R s m args below meth c nL D tc ad A res) res pc (ah_rem (pc + 1)) := by
  intro J hJ lv st h hf ls H locs hl hP hD hS
  replace hf := Option.bind_eq_some_iff.mp hf
  obtain ⟨q, hq, hf⟩ := hf
  obtain rfl := ah_p2_i hq
  by_cases hz : q.2.1 = 0
  · rw [if_pos hz] at hf; cases hf
  · rw [if_neg hz] at hf
    exact lv_irem C.1 C.2.1 hd hz (hJ _ _ _ _ hf ls H locs hl hP hD hS)
theorem as_ldiv (C : ah_C p s m args meth c cc nL own ret s0 D tc A) (hd : decode cc pc = .ok (.ldiv, 1)) : ah_Snd (ah_G p l e R s m args below meth c nL D tc ad A res) res pc (ah_ldiv (pc + 1)) := by
  intro J hJ lv st h hf ls H locs hl hP hD hS
  replace hf := Option.bind_eq_some_iff.mp hf
  obtain ⟨q, hq, hf⟩ := hf
  obtain rfl := ah_g2_i hq
  by_cases hz : q.2.1 = 0
  · rw [if_pos hz] at hf; cases hf
  · rw [if_neg hz] at hf
    exact lv_ldiv C.1 C.2.1 hd hz (hJ _ _ _ _ hf ls H locs hl hP hD hS)
theorem as_lrem (C : ah_C p s m args meth c cc nL own ret s0 D tc A) (hd : decode cc pc = .ok (.lrem, 1)) : ah_Snd (ah_G p l e R s m args below meth c nL D tc ad A res) res pc (ah_lrem (pc + 1)) := by
  intro J hJ lv st h hf ls H locs hl hP hD hS
  replace hf := Option.bind_eq_some_iff.mp hf
  obtain ⟨q, hq, hf⟩ := hf
  obtain rfl := ah_g2_i hq
  by_cases hz : q.2.1 = 0
  · rw [if_pos hz] at hf; cases hf
  · rw [if_neg hz] at hf
    exact lv_lrem C.1 C.2.1 hd hz (hJ _ _ _ _ hf ls H locs hl hP hD hS)
theorem as_ineg (C : ah_C p s m args meth c cc nL own ret s0 D tc A) (hd : decode cc pc = .ok (.ineg, 1)) : ah_Snd (ah_G p l e R s m args below meth c nL D tc ad A res) res pc (ah_un (fun x => 0 - x) (pc + 1)) := by
  intro J hJ lv st h hf ls H locs hl hP hD hS
  replace hf := Option.bind_eq_some_iff.mp hf
  obtain ⟨q, hq, hf⟩ := hf
  obtain rfl := ah_p1_i hq
  exact lv_ineg C.1 C.2.1 hd (hJ _ _ _ _ hf ls H locs hl hP hD hS)
theorem as_i2c (C : ah_C p s m args meth c cc nL own ret s0 D tc A) (hd : decode cc pc = .ok (.i2c, 1)) : ah_Snd (ah_G p l e R s m args below meth c nL D tc ad A res) res pc (ah_un (fun x => (x.toUInt32 % 65536).toInt32) (pc + 1)) := by
  intro J hJ lv st h hf ls H locs hl hP hD hS
  replace hf := Option.bind_eq_some_iff.mp hf
  obtain ⟨q, hq, hf⟩ := hf
  obtain rfl := ah_p1_i hq
  exact lv_i2c C.1 C.2.1 hd rfl (hJ _ _ _ _ hf ls H locs hl hP hD hS)
theorem as_iushr (C : ah_C p s m args meth c cc nL own ret s0 D tc A) (hd : decode cc pc = .ok (.iushr, 1)) : ah_Snd (ah_G p l e R s m args below meth c nL D tc ad A res) res pc (ah_bin (fun x y => (x.toUInt32 >>> (y.toUInt32 &&& Int32.toUInt32 31)).toInt32) (pc + 1)) := by
  intro J hJ lv st h hf ls H locs hl hP hD hS
  replace hf := Option.bind_eq_some_iff.mp hf
  obtain ⟨q, hq, hf⟩ := hf
  obtain rfl := ah_p2_i hq
  exact lv_iushr C.1 C.2.1 hd rfl (hJ _ _ _ _ hf ls H locs hl hP hD hS)
theorem as_i2l (C : ah_C p s m args meth c cc nL own ret s0 D tc A) (hd : decode cc pc = .ok (.i2l, 1)) : ah_Snd (ah_G p l e R s m args below meth c nL D tc ad A res) res pc (ah_i2l (pc + 1)) := by
  intro J hJ lv st h hf ls H locs hl hP hD hS
  replace hf := Option.bind_eq_some_iff.mp hf
  obtain ⟨q, hq, hf⟩ := hf
  obtain rfl := ah_p1_i hq
  exact lv_i2l C.1 C.2.1 hd rfl (hJ _ _ _ _ hf ls H locs hl hP hD hS)
theorem as_l2i (C : ah_C p s m args meth c cc nL own ret s0 D tc A) (hd : decode cc pc = .ok (.l2i, 1)) : ah_Snd (ah_G p l e R s m args below meth c nL D tc ad A res) res pc (ah_l2i (pc + 1)) := by
  intro J hJ lv st h hf ls H locs hl hP hD hS
  replace hf := Option.bind_eq_some_iff.mp hf
  obtain ⟨q, hq, hf⟩ := hf
  obtain rfl := ah_g1_i hq
  exact lv_l2i C.1 C.2.1 hd rfl (hJ _ _ _ _ hf ls H locs hl hP hD hS)
theorem as_lcmp (C : ah_C p s m args meth c cc nL own ret s0 D tc A) (hd : decode cc pc = .ok (.lcmp, 1)) : ah_Snd (ah_G p l e R s m args below meth c nL D tc ad A res) res pc (ah_lcmp (pc + 1)) := by
  intro J hJ lv st h hf ls H locs hl hP hD hS
  replace hf := Option.bind_eq_some_iff.mp hf
  obtain ⟨q, hq, hf⟩ := hf
  obtain rfl := ah_g2_i hq
  exact W.lcmp C.1 C.2.1 hd (hJ _ _ _ _ hf ls H locs hl hP hD hS)
theorem as_dupR (C : ah_C p s m args meth c cc nL own ret s0 D tc A) (hd : decode cc pc = .ok (.dup, 1)) : ah_Snd (ah_G p l e R s m args below meth c nL D tc ad A res) res pc (ah_dupR (pc + 1)) := by
  intro J hJ lv st h hf ls H locs hl hP hD hS
  replace hf := Option.bind_eq_some_iff.mp hf
  obtain ⟨q, hq, hf⟩ := hf
  obtain rfl := ah_q1_i hq
  exact lv_dup C.1 C.2.1 hd rfl (hJ _ _ _ _ hf ls H locs hl hP hD hS)
theorem as_dup2 (C : ah_C p s m args meth c cc nL own ret s0 D tc A) (hd : decode cc pc = .ok (.dup2, 1)) : ah_Snd (ah_G p l e R s m args below meth c nL D tc ad A res) res pc (ah_dup2 (pc + 1)) := by
  intro J hJ lv st h hf ls H locs hl hP hD hS
  replace hf := Option.bind_eq_some_iff.mp hf
  obtain ⟨q, hq, hf⟩ := hf
  obtain rfl := ah_qi_i hq
  exact lv_dup2_11 C.1 C.2.1 hd rfl rfl (hJ _ _ _ _ hf ls H locs hl hP hD hS)
theorem as_goto (C : ah_C p s m args meth c cc nL own ret s0 D tc A) {off : Int} {t : Nat} (hd : decode cc pc = .ok (.goto off, 3)) (ht : (pc : Int) + off = (t : Int)) : ah_Snd (ah_G p l e R s m args below meth c nL D tc ad A res) res pc (ah_goto t) := by
  intro J hJ lv st h hf ls H locs hl hP hD hS
  exact lv_goto C.1 C.2.1 hd ht (hJ _ _ _ _ hf ls H locs hl hP hD hS)
theorem as_icmp_eq (C : ah_C p s m args meth c cc nL own ret s0 D tc A) {off : Int} {t : Nat} (hd : decode cc pc = .ok (.if_icmp .eq off, 3)) (ht : (pc : Int) + off = (t : Int)) : ah_Snd (ah_G p l e R s m args below meth c nL D tc ad A res) res pc (ah_ceq t (pc + 3)) := by
  intro J hJ lv st h hf ls H locs hl hP hD hS
  replace hf := Option.bind_eq_some_iff.mp hf
  obtain ⟨q, hq, hf⟩ := hf
  obtain rfl := ah_p2_i hq
  refine lv_icmp_eq C.1 C.2.1 hd ht (fun hc => ?_) (fun hc => ?_)
  · rw [if_pos hc] at hf
    exact hJ _ _ _ _ hf ls H locs hl hP hD hS
  · rw [if_neg hc] at hf
    exact hJ _ _ _ _ hf ls H locs hl hP hD hS
theorem as_icmp_ne (C : ah_C p s m args meth c cc nL own ret s0 D tc A) {off : Int} {t : Nat} (hd : decode cc pc = .ok (.if_icmp .ne off, 3)) (ht : (pc : Int) + off = (t : Int)) : ah_Snd (ah_G p l e R s m args below meth c nL D tc ad A res) res pc (ah_ceq (pc + 3) t) := by
  intro J hJ lv st h hf ls H locs hl hP hD hS
  replace hf := Option.bind_eq_some_iff.mp hf
  obtain ⟨q, hq, hf⟩ := hf
  obtain rfl := ah_p2_i hq
  refine lv_icmp_ne C.1 C.2.1 hd ht (fun hc => ?_) (fun hc => ?_)
  · rw [if_neg hc] at hf
    exact hJ _ _ _ _ hf ls H locs hl hP hD hS
  · rw [if_pos hc] at hf
    exact hJ _ _ _ _ hf ls H locs hl hP hD hS
theorem as_icmp_lt (C : ah_C p s m args meth c cc nL own ret s0 D tc A) {off : Int} {t : Nat} (hd : decode cc pc = .ok (.if_icmp .lt off, 3)) (ht : (pc : Int) + off = (t : Int)) : ah_Snd (ah_G p l e R s m args below meth c nL D tc ad A res) res pc (ah_clt t (pc + 3)) := by
  intro J hJ lv st h hf ls H locs hl hP hD hS
  replace hf := Option.bind_eq_some_iff.mp hf
  obtain ⟨q, hq, hf⟩ := hf
  obtain rfl := ah_p2_i hq
  refine lv_icmp_lt C.1 C.2.1 hd ht (fun hc => ?_) (fun hc => ?_)
  · rw [if_pos hc] at hf
    exact hJ _ _ _ _ hf ls H locs hl hP hD hS
  · rw [if_neg hc] at hf
    exact hJ _ _ _ _ hf ls H locs hl hP hD hS
theorem as_icmp_ge (C : ah_C p s m args meth c cc nL own ret s0 D tc A) {off : Int} {t : Nat} (hd : decode cc pc = .ok (.if_icmp .ge off, 3)) (ht : (pc : Int) + off = (t : Int)) : ah_Snd (ah_G p l e R s m args below meth c nL D tc ad A res) res pc (ah_clt (pc + 3) t) := by
  intro J hJ lv st h hf ls H locs hl hP hD hS
  replace hf := Option.bind_eq_some_iff.mp hf
  obtain ⟨q, hq, hf⟩ := hf
  obtain rfl := ah_p2_i hq
  refine lv_icmp_ge C.1 C.2.1 hd ht (fun hc => ?_) (fun hc => ?_)
  · rw [if_neg (Int32.not_lt.mpr hc)] at hf
    exact hJ _ _ _ _ hf ls H locs hl hP hD hS
  · rw [if_pos (Int32.not_le.mp hc)] at hf
    exact hJ _ _ _ _ hf ls H locs hl hP hD hS
theorem as_icmp_gt (C : ah_C p s m args meth c cc nL own ret s0 D tc A) {off : Int} {t : Nat} (hd : decode cc pc = .ok (.if_icmp .gt off, 3)) (ht : (pc : Int) + off = (t : Int)) : ah_Snd (ah_G p l e R s m args below meth c nL D tc ad A res) res pc (ah_cgt t (pc + 3)) := by
  intro J hJ lv st h hf ls H locs hl hP hD hS
  replace hf := Option.bind_eq_some_iff.mp hf
  obtain ⟨q, hq, hf⟩ := hf
  obtain rfl := ah_p2_i hq
  refine lv_icmp_gt C.1 C.2.1 hd ht (fun hc => ?_) (fun hc => ?_)
  · rw [if_pos hc] at hf
    exact hJ _ _ _ _ hf ls H locs hl hP hD hS
  · rw [if_neg hc] at hf
    exact hJ _ _ _ _ hf ls H locs hl hP hD hS
theorem as_icmp_le (C : ah_C p s m args meth c cc nL own ret s0 D tc A) {off : Int} {t : Nat} (hd : decode cc pc = .ok (.if_icmp .le off, 3)) (ht : (pc : Int) + off = (t : Int)) : ah_Snd (ah_G p l e R s m args below meth c nL D tc ad A res) res pc (ah_cgt (pc + 3) t) := by
  intro J hJ lv st h hf ls H locs hl hP hD hS
  replace hf := Option.bind_eq_some_iff.mp hf
  obtain ⟨q, hq, hf⟩ := hf
  obtain rfl := ah_p2_i hq
  refine lv_icmp_le C.1 C.2.1 hd ht (fun hc => ?_) (fun hc => ?_)
  · rw [if_neg (Int32.not_lt.mpr hc)] at hf
    exact hJ _ _ _ _ hf ls H locs hl hP hD hS
  · rw [if_pos (Int32.not_le.mp hc)] at hf
    exact hJ _ _ _ _ hf ls H locs hl hP hD hS
theorem as_if_eq (C : ah_C p s m args meth c cc nL own ret s0 D tc A) {off : Int} {t : Nat} (hd : decode cc pc = .ok (.ifCond .eq off, 3)) (ht : (pc : Int) + off = (t : Int)) : ah_Snd (ah_G p l e R s m args below meth c nL D tc ad A res) res pc (ah_zeq t (pc + 3)) := by
  intro J hJ lv st h hf ls H locs hl hP hD hS
  replace hf := Option.bind_eq_some_iff.mp hf
  obtain ⟨q, hq, hf⟩ := hf
  obtain rfl := ah_p1_i hq
  refine lv_if_eq C.1 C.2.1 hd ht (fun hc => ?_) (fun hc => ?_)
  · rw [if_pos hc] at hf
    exact hJ _ _ _ _ hf ls H locs hl hP hD hS
  · rw [if_neg hc] at hf
    exact hJ _ _ _ _ hf ls H locs hl hP hD hS
theorem as_if_ne (C : ah_C p s m args meth c cc nL own ret s0 D tc A) {off : Int} {t : Nat} (hd : decode cc pc = .ok (.ifCond .ne off, 3)) (ht : (pc : Int) + off = (t : Int)) : ah_Snd (ah_G p l e R s m args below meth c nL D tc ad A res) res pc (ah_zeq (pc + 3) t) := by
  intro J hJ lv st h hf ls H locs hl hP hD hS
  replace hf := Option.bind_eq_some_iff.mp hf
  obtain ⟨q, hq, hf⟩ := hf
  obtain rfl := ah_p1_i hq
  refine lv_if_ne C.1 C.2.1 hd ht (fun hc => ?_) (fun hc => ?_)
  · rw [if_neg hc] at hf
    exact hJ _ _ _ _ hf ls H locs hl hP hD hS
  · rw [if_pos hc] at hf
    exact hJ _ _ _ _ hf ls H locs hl hP hD hS
theorem as_if_lt (C : ah_C p s m args meth c cc nL own ret s0 D tc A) {off : Int} {t : Nat} (hd : decode cc pc = .ok (.ifCond .lt off, 3)) (ht : (pc : Int) + off = (t : Int)) : ah_Snd (ah_G p l e R s m args below meth c nL D tc ad A res) res pc (ah_zlt t (pc + 3)) := by
  intro J hJ lv st h hf ls H locs hl hP hD hS
  replace hf := Option.bind_eq_some_iff.mp hf
  obtain ⟨q, hq, hf⟩ := hf
  obtain rfl := ah_p1_i hq
  refine lv_if_lt C.1 C.2.1 hd ht (fun hc => ?_) (fun hc => ?_)
  · rw [if_pos hc] at hf
    exact hJ _ _ _ _ hf ls H locs hl hP hD hS
  · rw [if_neg hc] at hf
    exact hJ _ _ _ _ hf ls H locs hl hP hD hS
theorem as_if_ge (C : ah_C p s m args meth c cc nL own ret s0 D tc A) {off : Int} {t : Nat} (hd : decode cc pc = .ok (.ifCond .ge off, 3)) (ht : (pc : Int) + off = (t : Int)) : ah_Snd (ah_G p l e R s m args below meth c nL D tc ad A res) res pc (ah_zlt (pc + 3) t) := by
  intro J hJ lv st h hf ls H locs hl hP hD hS
  replace hf := Option.bind_eq_some_iff.mp hf
  obtain ⟨q, hq, hf⟩ := hf
  obtain rfl := ah_p1_i hq
  refine lv_if_ge C.1 C.2.1 hd ht (fun hc => ?_) (fun hc => ?_)
  · rw [if_neg (Int32.not_lt.mpr hc)] at hf
    exact hJ _ _ _ _ hf ls H locs hl hP hD hS
  · rw [if_pos (Int32.not_le.mp hc)] at hf
    exact hJ _ _ _ _ hf ls H locs hl hP hD hS
theorem as_if_gt (C : ah_C p s m args meth c cc nL own ret s0 D tc A) {off : Int} {t : Nat} (hd : decode cc pc = .ok (.ifCond .gt off, 3)) (ht : (pc : Int) + off = (t : Int)) : ah_Snd (ah_G p l e R s m args below meth c nL D tc ad A res) res pc (ah_zgt t (pc + 3)) := by
  intro J hJ lv st h hf ls H locs hl hP hD hS
  replace hf := Option.bind_eq_some_iff.mp hf
  obtain ⟨q, hq, hf⟩ := hf
  obtain rfl := ah_p1_i hq
  refine lv_if_gt C.1 C.2.1 hd ht (fun hc => ?_) (fun hc => ?_)
  · rw [if_pos hc] at hf
    exact hJ _ _ _ _ hf ls H locs hl hP hD hS
  · rw [if_neg hc] at hf
    exact hJ _ _ _ _ hf ls H locs hl hP hD hS
theorem as_if_le (C : ah_C p s m args meth c cc nL own ret s0 D tc A) {off : Int} {t : Nat} (hd : decode cc pc = .ok (.ifCond .le off, 3)) (ht : (pc : Int) + off = (t : Int)) : ah_Snd (ah_G p l e R s m args below meth c nL D tc ad A res) res pc (ah_zgt (pc + 3) t) := by
  intro J hJ lv st h hf ls H locs hl hP hD hS
  replace hf := Option.bind_eq_some_iff.mp hf
  obtain ⟨q, hq, hf⟩ := hf
  obtain rfl := ah_p1_i hq
  refine lv_if_le C.1 C.2.1 hd ht (fun hc => ?_) (fun hc => ?_)
  · rw [if_neg (Int32.not_lt.mpr hc)] at hf
    exact hJ _ _ _ _ hf ls H locs hl hP hD hS
  · rw [if_pos (Int32.not_le.mp hc)] at hf
    exact hJ _ _ _ _ hf ls H locs hl hP hD hS
end AHS
end
section
/-! the heap's steps, returns, switches, calls -/
theorem ah_fv_i {h : ah_H} {a k : Nat} {cs : List Nat} {v : Value} (e : ah_fv h a cs k = some v) : ∃ (ci : Nat) (fs : List Value), h[a]? = some (.inr (ci, fs)) ∧ ah_in ci cs = true ∧ fs[k]? = some v := by
  obtain ⟨q, hq, e⟩ := Option.bind_eq_some_iff.mp e
  cases hb : ah_in q.1 cs with
  | true => rw [hb] at e; exact ⟨q.1, q.2, ah_ob_i hq, hb, e⟩
  | false => rw [hb] at e; cases e
theorem ah_sv_i {h h2 : ah_H} {a k : Nat} {cs : List Nat} {v : Value} (e : ah_sv h a cs k v = some h2) : ∃ (ci : Nat) (fs : List Value), h[a]? = some (.inr (ci, fs)) ∧ ah_in ci cs = true ∧ k < fs.length ∧ h2 = h.set a (.inr (ci, fs.set k v)) := by
  obtain ⟨q, hq, e⟩ := Option.bind_eq_some_iff.mp e
  cases hb : (ah_in q.1 cs && Nat.blt k q.2.length) with
  | true =>
    rw [hb] at e
    rw [Bool.and_eq_true] at hb
    exact ⟨q.1, q.2, ah_ob_i hq, hb.1, Nat.le_of_ble_eq_true hb.2, (Option.some.inj e).symm⟩
  | false => rw [hb] at e; cases e
theorem ah_rd_i {f : Nat → Int32} {n : Nat} {i x : Int32} (e : ah_rd f n i = some x) : vp_in i n ∧ x = f i.toNatClampNeg := by
  unfold ah_rd at e
  by_cases hc : i < 0 ∨ n ≤ i.toNatClampNeg
  · rw [if_pos hc] at e; cases e
  · rw [if_neg hc] at e; exact ⟨hc, (Option.some.inj e).symm⟩
theorem ah_wr_i {f g : Nat → Int32} {n : Nat} {i x : Int32} (e : ah_wr f n i x = some g) : vp_in i n ∧ g = upd f i.toNatClampNeg x := by
  unfold ah_wr at e
  by_cases hc : i < 0 ∨ n ≤ i.toNatClampNeg
  · rw [if_pos hc] at e; cases e
  · rw [if_neg hc] at e; exact ⟨hc, (Option.some.inj e).symm⟩
theorem ah_rr_i {f : Nat → Option Nat} {n : Nat} {i : Int32} {x : Nat} (e : ah_rr f n i = some x) : vp_in i n ∧ f i.toNatClampNeg = some x := by
  unfold ah_rr at e
  by_cases hc : i < 0 ∨ n ≤ i.toNatClampNeg
  · rw [if_pos hc] at e; cases e
  · rw [if_neg hc] at e; exact ⟨hc, e⟩
/-- a field that the classes cs have in slot k, as the entry 'index' of the pool of 'own' names it -/
def ah_Fg (own : String) (index : Nat) (cs : List Nat) (k : Nat) : Prop := ∀ ci : Nat, ci ∈ cs → ∃ (C : String) (T : u_T) (N : Nat) (ref : String), vwCl[ci]? = some (C, T, N) ∧ (∀ w ∈ u_ws C T N, w ∈ ah_TT) ∧ k < N ∧ Cond.fieldLink own index ref (T k).2.1 (T k).2.2.1 ∈ ah_TT ∧ (ref = (T k).1 ∨ Cond.sameField ref (T k).1 (T k).2.1 (T k).2.2.1 ∈ ah_TT)
def ah_Fp (own : String) (index : Nat) (cs : List Nat) (k : Nat) (ty : FieldType) : Prop := ∀ ci : Nat, ci ∈ cs → ∃ (C : String) (T : u_T) (N : Nat) (ref : String) (ty0 : Nat → FieldType), vwCl[ci]? = some (C, T, N) ∧ (∀ w ∈ u_ws C T N, w ∈ ah_TT) ∧ k < N ∧ Cond.fieldLink own index ref (T k).2.1 (T k).2.2.1 ∈ ah_TT ∧ (ref = (T k).1 ∨ Cond.sameField ref (T k).1 (T k).2.1 (T k).2.2.1 ∈ ah_TT) ∧ (∀ k, k < N → parseFieldDescriptor (T k).2.2.1 = some (ty0 k)) ∧ (∀ a, a < N → ∀ b, b < N → a ≠ b → (T a).2.1 ≠ (T b).2.1) ∧ (T k).2.2.2 = false ∧ parseFieldDescriptor (T k).2.2.1 = some ty
theorem ah_same {ref own n d : String} {args : Array Value} {s : State} (hts : ∀ w ∈ ah_TT, w.before args s = true) (h : ref = own ∨ Cond.sameField ref own n d ∈ ah_TT) : ∀ x, s.fieldFound? own n d = some x → s.fieldFound? ref n d = some x := by
  intro x hx
  rcases h with rfl | h
  · exact hx
  · exact u_same (hts _ h) x hx
section AHT
variable {p : Program} {l : Launch} {e : Env} {R : Room} {s : State} {m : MethodId} {args : Array Value} {below : List Frame} {meth : Method} {c : Code} {cc : ByteArray} {nL : Nat} {own : String} {ret : Option FieldType} {s0 : State} {D : va_G} {tc : Nat → ClassId} {ad : Nat → Nat} {A : Nat → Prop} {res : ah_R} {pc : Nat}
theorem as_gfi (C : ah_C p s m args meth c cc nL own ret s0 D tc A) {index k : Nat} {cs : List Nat} (hd : decode cc pc = .ok (.getfield index, 3)) (hF : ah_Fg own index cs k) : ah_Snd (ah_G p l e R s m args below meth c nL D tc ad A res) res pc (ah_gfi cs k (pc + 3)) := by
  intro J hJ lv st h hf ls H locs hl hP hD hS
  replace hf := Option.bind_eq_some_iff.mp hf
  obtain ⟨q, hq, hf⟩ := hf
  obtain rfl := ah_q1_i hq
  replace hf := Option.bind_eq_some_iff.mp hf
  obtain ⟨x, hx, hf⟩ := hf
  obtain ⟨ci, fs, hob, hin, hfk⟩ := ah_fv_i (ah_aI_i hx)
  obtain ⟨C2, T, N, ref, h1, h2, h3, h4, h5⟩ := hF ci (ah_in_mem hin)
  exact va_get (v := .int x) C.1 C.2.1 C.2.2.2.2.1 h2 C.2.2.2.1 C.2.2.2.2.2.1 hP q.1 (ah_w_get hob) h1 k h3 (C.2.2.2.2.1 _ h4) (ah_same C.2.2.2.2.1 h5) (by rw [List.getElem?_map, hfk]; rfl) hd (hJ _ _ _ _ hf ls H locs hl hP hD hS)
theorem as_gfl (C : ah_C p s m args meth c cc nL own ret s0 D tc A) {index k : Nat} {cs : List Nat} (hd : decode cc pc = .ok (.getfield index, 3)) (hF : ah_Fg own index cs k) : ah_Snd (ah_G p l e R s m args below meth c nL D tc ad A res) res pc (ah_gfl cs k (pc + 3)) := by
  intro J hJ lv st h hf ls H locs hl hP hD hS
  replace hf := Option.bind_eq_some_iff.mp hf
  obtain ⟨q, hq, hf⟩ := hf
  obtain rfl := ah_q1_i hq
  replace hf := Option.bind_eq_some_iff.mp hf
  obtain ⟨x, hx, hf⟩ := hf
  obtain ⟨ci, fs, hob, hin, hfk⟩ := ah_fv_i (ah_aL_i hx)
  obtain ⟨C2, T, N, ref, h1, h2, h3, h4, h5⟩ := hF ci (ah_in_mem hin)
  exact va_get (v := .long x) C.1 C.2.1 C.2.2.2.2.1 h2 C.2.2.2.1 C.2.2.2.2.2.1 hP q.1 (ah_w_get hob) h1 k h3 (C.2.2.2.2.1 _ h4) (ah_same C.2.2.2.2.1 h5) (by rw [List.getElem?_map, hfk]; rfl) hd (hJ _ _ _ _ hf ls H locs hl hP hD hS)
theorem as_gfr (C : ah_C p s m args meth c cc nL own ret s0 D tc A) {index k : Nat} {cs : List Nat} (hd : decode cc pc = .ok (.getfield index, 3)) (hF : ah_Fg own index cs k) : ah_Snd (ah_G p l e R s m args below meth c nL D tc ad A res) res pc (ah_gfr cs k (pc + 3)) := by
  intro J hJ lv st h hf ls H locs hl hP hD hS
  replace hf := Option.bind_eq_some_iff.mp hf
  obtain ⟨q, hq, hf⟩ := hf
  obtain rfl := ah_q1_i hq
  replace hf := Option.bind_eq_some_iff.mp hf
  obtain ⟨x, hx, hf⟩ := hf
  obtain ⟨ci, fs, hob, hin, hfk⟩ := ah_fv_i (ah_aR_i hx)
  obtain ⟨C2, T, N, ref, h1, h2, h3, h4, h5⟩ := hF ci (ah_in_mem hin)
  exact va_get (v := .ref (ad x)) C.1 C.2.1 C.2.2.2.2.1 h2 C.2.2.2.1 C.2.2.2.2.2.1 hP q.1 (ah_w_get hob) h1 k h3 (C.2.2.2.2.1 _ h4) (ah_same C.2.2.2.2.1 h5) (by rw [List.getElem?_map, hfk]; rfl) hd (hJ _ _ _ _ hf ls H locs hl hP hD hS)
theorem ah_put (C : ah_C p s m args meth c cc nL own ret s0 D tc A) {index k : Nat} {cs : List Nat} {ty : FieldType} {v : Value} {a : Nat} {h h2 : ah_H} {H : Heap} {locs : List Loc} {ls : Array Slot} {rest : List Value} {Q : State → Prop} (hd : decode cc pc = .ok (.putfield index, 3)) (hF : ah_Fp own index cs k ty) (hn : narrow ty (ah_v ad v) = ah_v ad v) (hfit : fits ty (ah_v ad v) = true) (hv : ah_sv h a cs k v = some h2) (hP : va_P D vwCl (ah_w ad tc h) H) (hD : va_D A (ah_w ad tc h)) (hS : va_S A s.heap H locs)
    (kk : ∀ (H1 : Heap) (locs1 : List Loc), va_P D vwCl (ah_w ad tc h2) H1 → va_D A (ah_w ad tc h2) → va_S A s.heap H1 locs1 → W p l e R s m args below meth c H1 locs1 0 0 Q (F0 m (pc + 3) ls rest)) : W p l e R s m args below meth c H locs 0 0 Q (F0 m pc ls (ah_v ad v :: .ref (ad a) :: rest)) := by
  obtain ⟨ci, fs, hob, hin, hlt, rfl⟩ := ah_sv_i hv
  obtain ⟨C2, T, N, ref, ty0, h1, h2, h3, h4, h5, h6, h7, h8, h9⟩ := hF ci (ah_in_mem hin)
  have hset : ∀ X : va_E, X = ah_e ad tc (.inr (ci, fs.set k v)) → (ah_w ad tc h).set a (ad a, X) = ah_w ad tc (h.set a (.inr (ci, fs.set k v))) := fun X e => by rw [e]; exact ah_w_set
  have hX : (.inr (ci, (fs.map (ah_v ad)).set k (ah_v ad v)) : va_E) = ah_e ad tc (.inr (ci, fs.set k v)) := by
    show (.inr (ci, (fs.map (ah_v ad)).set k (ah_v ad v)) : va_E) = .inr (ci, (fs.set k v).map (ah_v ad))
    rw [List.map_set]
  refine va_put C.1 C.2.1 C.2.2.2.2.1 h2 ty0 h6 h7 C.2.2.2.1 C.2.2.2.2.2.1 hP hD hS a (ah_w_get hob) h1 k h3 (C.2.2.2.2.1 _ h4) (ah_same C.2.2.2.2.1 h5) h8 h9 hn hfit (by rw [List.length_map]; exact hlt) hd (fun H1 locs1 hP1 hD1 hS1 => ?_)
  have hP1 : va_P D vwCl ((ah_w ad tc h).set a (ad a, .inr (ci, (fs.map (ah_v ad)).set k (ah_v ad v)))) H1 := hP1
  have hD1 : va_D A ((ah_w ad tc h).set a (ad a, .inr (ci, (fs.map (ah_v ad)).set k (ah_v ad v)))) := hD1
  rw [hset _ hX] at hP1 hD1
  exact kk H1 locs1 hP1 hD1 hS1
theorem as_pfi (C : ah_C p s m args meth c cc nL own ret s0 D tc A) {index k : Nat} {cs : List Nat} (hd : decode cc pc = .ok (.putfield index, 3)) (hF : ah_Fp own index cs k .int) : ah_Snd (ah_G p l e R s m args below meth c nL D tc ad A res) res pc (ah_pfi cs k (pc + 3)) := by
  intro J hJ lv st h hf ls H locs hl hP hD hS
  replace hf := Option.bind_eq_some_iff.mp hf
  obtain ⟨q, hq, hf⟩ := hf
  obtain rfl := ah_qi_i hq
  replace hf := Option.bind_eq_some_iff.mp hf
  obtain ⟨h2, hh, hf⟩ := hf
  exact ah_put (v := .int q.2.1) C hd hF rfl rfl hh hP hD hS (fun H locs hP hD hS => hJ _ _ _ _ hf ls H locs hl hP hD hS)
theorem as_pfz (C : ah_C p s m args meth c cc nL own ret s0 D tc A) {index k : Nat} {cs : List Nat} (hd : decode cc pc = .ok (.putfield index, 3)) (hF : ah_Fp own index cs k .boolean) : ah_Snd (ah_G p l e R s m args below meth c nL D tc ad A res) res pc (ah_pfz cs k (pc + 3)) := by
  intro J hJ lv st h hf ls H locs hl hP hD hS
  replace hf := Option.bind_eq_some_iff.mp hf
  obtain ⟨q, hq, hf⟩ := hf
  obtain rfl := ah_qi_i hq
  by_cases hz : q.2.1 = 0 ∨ q.2.1 = 1
  · rw [if_pos hz] at hf
    replace hf := Option.bind_eq_some_iff.mp hf
    obtain ⟨h2, hh, hf⟩ := hf
    exact ah_put (v := .int q.2.1) C hd hF (by rcases hz with z | z <;> rw [z] <;> rfl) (by rcases hz with z | z <;> rw [z] <;> rfl) hh hP hD hS (fun H locs hP hD hS => hJ _ _ _ _ hf ls H locs hl hP hD hS)
  · rw [if_neg hz] at hf; cases hf
theorem as_pfl (C : ah_C p s m args meth c cc nL own ret s0 D tc A) {index k : Nat} {cs : List Nat} (hd : decode cc pc = .ok (.putfield index, 3)) (hF : ah_Fp own index cs k .long) : ah_Snd (ah_G p l e R s m args below meth c nL D tc ad A res) res pc (ah_pfl cs k (pc + 3)) := by
  intro J hJ lv st h hf ls H locs hl hP hD hS
  replace hf := Option.bind_eq_some_iff.mp hf
  obtain ⟨q, hq, hf⟩ := hf
  obtain rfl := ah_ql_i hq
  replace hf := Option.bind_eq_some_iff.mp hf
  obtain ⟨h2, hh, hf⟩ := hf
  exact ah_put (v := .long q.2.1) C hd hF rfl rfl hh hP hD hS (fun H locs hP hD hS => hJ _ _ _ _ hf ls H locs hl hP hD hS)
theorem as_iald (C : ah_C p s m args meth c cc nL own ret s0 D tc A) (hd : decode cc pc = .ok (.iaload, 1)) : ah_Snd (ah_G p l e R s m args below meth c nL D tc ad A res) res pc (ah_iald 0 (pc + 1)) := by
  intro J hJ lv st h hf ls H locs hl hP hD hS
  replace hf := Option.bind_eq_some_iff.mp hf
  obtain ⟨q, hq, hf⟩ := hf
  obtain rfl := ah_qi_i hq
  replace hf := Option.bind_eq_some_iff.mp hf
  obtain ⟨w, hw, hf⟩ := hf
  replace hf := Option.bind_eq_some_iff.mp hf
  obtain ⟨x, hx, hf⟩ := hf
  obtain ⟨hin, rfl⟩ := ah_rd_i hx
  exact va_iald C.1 C.2.1 C.2.2.2.2.2.1 hP q.1 0 (ah_w_get (ah_ai_i hw)) rfl hin hd (hJ _ _ _ _ hf ls H locs hl hP hD hS)
theorem as_zald (C : ah_C p s m args meth c cc nL own ret s0 D tc A) (hd : decode cc pc = .ok (.baload, 1)) : ah_Snd (ah_G p l e R s m args below meth c nL D tc ad A res) res pc (ah_iald 1 (pc + 1)) := by
  intro J hJ lv st h hf ls H locs hl hP hD hS
  replace hf := Option.bind_eq_some_iff.mp hf
  obtain ⟨q, hq, hf⟩ := hf
  obtain rfl := ah_qi_i hq
  replace hf := Option.bind_eq_some_iff.mp hf
  obtain ⟨w, hw, hf⟩ := hf
  replace hf := Option.bind_eq_some_iff.mp hf
  obtain ⟨x, hx, hf⟩ := hf
  obtain ⟨hin, rfl⟩ := ah_rd_i hx
  exact va_zald C.1 C.2.1 C.2.2.2.2.2.1 hP q.1 1 (ah_w_get (ah_ai_i hw)) rfl hin hd (hJ _ _ _ _ hf ls H locs hl hP hD hS)
theorem as_iast (C : ah_C p s m args meth c cc nL own ret s0 D tc A) (hd : decode cc pc = .ok (.iastore, 1)) : ah_Snd (ah_G p l e R s m args below meth c nL D tc ad A res) res pc (ah_iast (pc + 1)) := by
  intro J hJ lv st h hf ls H locs hl hP hD hS
  replace hf := Option.bind_eq_some_iff.mp hf
  obtain ⟨q, hq, hf⟩ := hf
  obtain rfl := ah_qii_i hq
  replace hf := Option.bind_eq_some_iff.mp hf
  obtain ⟨w, hw, hf⟩ := hf
  replace hf := Option.bind_eq_some_iff.mp hf
  obtain ⟨f2, hx, hf⟩ := hf
  obtain ⟨hin, rfl⟩ := ah_wr_i hx
  refine va_iast C.1 C.2.1 C.2.2.2.2.2.1 hP hD hS q.1 0 (ah_w_get (ah_ai_i hw)) rfl hin hd (fun H1 locs1 hP1 hD1 hS1 => ?_)
  have hs : (ah_w ad tc h).set q.1 (ad q.1, .inl (tc 0, w.1, .inl (upd w.2 q.2.1.toNatClampNeg q.2.2.1))) = ah_w ad tc (h.set q.1 (.inl (0, w.1, .inl (upd w.2 q.2.1.toNatClampNeg q.2.2.1)))) := ah_w_set (e := .inl (0, w.1, .inl (upd w.2 q.2.1.toNatClampNeg q.2.2.1)))
  rw [hs] at hP1 hD1
  exact hJ _ _ _ _ hf ls H1 locs1 hl hP1 hD1 hS1
theorem as_zast (C : ah_C p s m args meth c cc nL own ret s0 D tc A) (hd : decode cc pc = .ok (.bastore, 1)) : ah_Snd (ah_G p l e R s m args below meth c nL D tc ad A res) res pc (ah_zast (pc + 1)) := by
  intro J hJ lv st h hf ls H locs hl hP hD hS
  replace hf := Option.bind_eq_some_iff.mp hf
  obtain ⟨q, hq, hf⟩ := hf
  obtain rfl := ah_qii_i hq
  by_cases hz : q.2.2.1 = 0 ∨ q.2.2.1 = 1
  · rw [if_pos hz] at hf
    replace hf := Option.bind_eq_some_iff.mp hf
    obtain ⟨w, hw, hf⟩ := hf
    replace hf := Option.bind_eq_some_iff.mp hf
    obtain ⟨f2, hx, hf⟩ := hf
    obtain ⟨hin, rfl⟩ := ah_wr_i hx
    refine va_zast C.1 C.2.1 C.2.2.2.2.2.1 hP hD hS q.1 1 (ah_w_get (ah_ai_i hw)) rfl hin hd (fun H1 locs1 hP1 hD1 hS1 => ?_)
    have hn : vp_nar .boolean q.2.2.1 = q.2.2.1 := by rcases hz with z | z <;> rw [z] <;> rfl
    rw [hn] at hP1 hD1
    have hs : (ah_w ad tc h).set q.1 (ad q.1, .inl (tc 1, w.1, .inl (upd w.2 q.2.1.toNatClampNeg q.2.2.1))) = ah_w ad tc (h.set q.1 (.inl (1, w.1, .inl (upd w.2 q.2.1.toNatClampNeg q.2.2.1)))) := ah_w_set (e := .inl (1, w.1, .inl (upd w.2 q.2.1.toNatClampNeg q.2.2.1)))
    rw [hs] at hP1 hD1
    exact hJ _ _ _ _ hf ls H1 locs1 hl hP1 hD1 hS1
  · rw [if_neg hz] at hf; cases hf
theorem as_aald (C : ah_C p s m args meth c cc nL own ret s0 D tc A) {t : Nat} {ty : FieldType} (hd : decode cc pc = .ok (.aaload, 1)) (ht : (ah_tys tc)[t]? = some (tc t, ty)) (hr : ty.isReference = true) : ah_Snd (ah_G p l e R s m args below meth c nL D tc ad A res) res pc (ah_aald t (pc + 1)) := by
  intro J hJ lv st h hf ls H locs hl hP hD hS
  replace hf := Option.bind_eq_some_iff.mp hf
  obtain ⟨q, hq, hf⟩ := hf
  obtain rfl := ah_qi_i hq
  replace hf := Option.bind_eq_some_iff.mp hf
  obtain ⟨w, hw, hf⟩ := hf
  replace hf := Option.bind_eq_some_iff.mp hf
  obtain ⟨x, hx, hf⟩ := hf
  obtain ⟨hin, hg⟩ := ah_rr_i hx
  have hlt : q.2.1.toNatClampNeg < w.1 := Nat.not_le.mp fun z => hin (Or.inr z)
  refine W.aald (v := .ref (ad x)) (ty := ty) C.1 C.2.1 (hP q.1 _ (ah_w_get (ah_ar_i hw))) ((C.2.2.2.2.2.1.2 t _ ht).1 w.1 (fun j => va_rf ((w.2 j).map ad))) hr (fun z => by cases z) (by show ¬ (q.2.1 < 0 ∨ (arrV _ _ _).slots.size ≤ _); rw [arrV_size]; exact hin) (by show (arrV _ _ _).slots[_]? = _; rw [arrV_read _ _ hlt]; show some (va_rf ((w.2 q.2.1.toNatClampNeg).map ad)) = _; rw [hg]; rfl) rfl rfl hd (hJ _ _ _ _ hf ls H locs hl hP hD hS)
theorem as_alen (C : ah_C p s m args meth c cc nL own ret s0 D tc A) (hd : decode cc pc = .ok (.arraylength, 1)) : ah_Snd (ah_G p l e R s m args below meth c nL D tc ad A res) res pc (ah_alen (pc + 1)) := by
  intro J hJ lv st h hf ls H locs hl hP hD hS
  replace hf := Option.bind_eq_some_iff.mp hf
  obtain ⟨q, hq, hf⟩ := hf
  obtain rfl := ah_q1_i hq
  replace hf := Option.bind_eq_some_iff.mp hf
  obtain ⟨w, hw, hf⟩ := hf
  exact va_alen C.1 C.2.1 C.2.2.2.2.2.1 hP q.1 0 (ah_w_get (ah_ai_i hw)) (ty := .int) rfl rfl hd (hJ _ _ _ _ hf ls H locs hl hP hD hS)
/-- objects of the classes ys are of the class nm, those of the classes ns aren't -/
def ah_In (own : String) (index : Nat) (nm : String) (ys ns : List Nat) (s0 : State) : Prop := Cond.classLink own index nm ∈ ah_TT ∧ (∀ ci ∈ ys, ∃ (C : String) (T : u_T) (N : Nat), vwCl[ci]? = some (C, T, N) ∧ (C = nm ∨ Cond.castable C nm ∈ ah_TT)) ∧ (∀ ci ∈ ns, ∃ (C : String) (T : u_T) (N : Nat), vwCl[ci]? = some (C, T, N) ∧ va_Nc C nm s0)
theorem as_inst (C : ah_C p s m args meth c cc nL own ret s0 D tc A) {index : Nat} {nm : String} {ys ns : List Nat} (hd : decode cc pc = .ok (.instanceof index, 3)) (hI : ah_In own index nm ys ns s0) : ah_Snd (ah_G p l e R s m args below meth c nL D tc ad A res) res pc (ah_inst ys ns (pc + 3)) := by
  intro J hJ lv st h hf ls H locs hl hP hD hS
  replace hf := Option.bind_eq_some_iff.mp hf
  obtain ⟨q, hq, hf⟩ := hf
  obtain rfl := ah_q1_i hq
  obtain ⟨hcl, hy, hn⟩ := hI
  cases hb : ah_is h q.1 ys with
  | true =>
    rw [hb] at hf
    obtain ⟨o, ho, hin⟩ := ah_is_i hb
    obtain ⟨C2, T, N, h1, h2⟩ := hy o.1 (ah_in_mem hin)
    have hrec := va_recv C.2.2.2.2.2.1 hP h1 (ah_w_get (ah_ob_i ho))
    rcases h2 with rfl | h2
    · have hK := C.2.2.2.2.2.1.1 o.1 _ h1
      exact va_instS C.1 C.2.1 C.2.2.2.1 (C.2.2.2.2.1 _ hcl) hK.2 hrec hd (hJ _ _ _ _ hf ls H locs hl hP hD hS)
    · exact va_instY C.1 C.2.1 C.2.2.2.1 (C.2.2.2.2.1 _ hcl) (word_at (State.WarmedH.refl s) (ah_TT_good h2) (C.2.2.2.2.1 _ h2)) hrec hd (hJ _ _ _ _ hf ls H locs hl hP hD hS)
  | false =>
    rw [hb] at hf
    cases hb2 : ah_is h q.1 ns with
    | true =>
      rw [hb2] at hf
      obtain ⟨o, ho, hin⟩ := ah_is_i hb2
      obtain ⟨C2, T, N, h1, h2⟩ := hn o.1 (ah_in_mem hin)
      have hrec := va_recv C.2.2.2.2.2.1 hP h1 (ah_w_get (ah_ob_i ho))
      exact va_instNo C.1 C.2.1 C.2.2.2.1 (C.2.2.2.2.1 _ hcl) (h2.moved C.2.2.2.2.2.2.1.1) hrec hd (hJ _ _ _ _ hf ls H locs hl hP hD hS)
    | false => rw [hb2] at hf; cases hf
theorem as_iret (C : ah_C p s m args meth c cc nL own ret s0 D tc A) (hr : ret = some .int) (hd : decode cc pc = .ok (.ireturn, 1)) : ah_Snd (ah_G p l e R s m args below meth c nL D tc ad A res) res pc ah_iret := by
  intro J hJ lv st h hf ls H locs hl hP hD hS
  replace hf := Option.bind_eq_some_iff.mp hf
  obtain ⟨q, hq, hf⟩ := hf
  obtain rfl := ah_p1_i hq
  obtain ⟨x, r⟩ := q
  cases r with
  | nil =>
    have e := Option.some.inj hf
    subst e
    exact W.iret (v := x) C.1 C.2.1 (C.2.2.2.2.2.2.2.2.2.trans hr) (fun t ht hW => ⟨rfl, by rw [ht]; exact hP, hD, hS.F ht⟩) hS.2.2 hd C.2.2.2.2.2.2.2.2.1
  | cons v r => cases hf
theorem as_zret (C : ah_C p s m args meth c cc nL own ret s0 D tc A) (hr : ret = some .boolean) (hd : decode cc pc = .ok (.ireturn, 1)) : ah_Snd (ah_G p l e R s m args below meth c nL D tc ad A res) res pc ah_zret := by
  intro J hJ lv st h hf ls H locs hl hP hD hS
  replace hf := Option.bind_eq_some_iff.mp hf
  obtain ⟨q, hq, hf⟩ := hf
  obtain rfl := ah_p1_i hq
  obtain ⟨x, r⟩ := q
  cases r with
  | nil =>
    by_cases hz : x = 0 ∨ x = 1
    · have hf : (if x = 0 ∨ x = 1 then some (some (Value.int x), h) else none) = some res := hf
      rw [if_pos hz] at hf
      have e := Option.some.inj hf
      subst e
      exact W.zret (v := x) (ty := .boolean) C.1 C.2.1 (C.2.2.2.2.2.2.2.2.2.trans hr) (by rcases hz with z | z <;> rw [z] <;> rfl) (fun t ht hW => ⟨rfl, by rw [ht]; exact hP, hD, hS.F ht⟩) hS.2.2 hd C.2.2.2.2.2.2.2.2.1
    · have hf : (if x = 0 ∨ x = 1 then some (some (Value.int x), h) else none) = some res := hf
      rw [if_neg hz] at hf; cases hf
  | cons v r => cases hf
theorem as_lret (C : ah_C p s m args meth c cc nL own ret s0 D tc A) (hr : ret = some .long) (hd : decode cc pc = .ok (.lreturn, 1)) : ah_Snd (ah_G p l e R s m args below meth c nL D tc ad A res) res pc ah_lret := by
  intro J hJ lv st h hf ls H locs hl hP hD hS
  replace hf := Option.bind_eq_some_iff.mp hf
  obtain ⟨q, hq, hf⟩ := hf
  obtain rfl := ah_g1_i hq
  obtain ⟨x, r⟩ := q
  cases r with
  | nil =>
    have e := Option.some.inj hf
    subst e
    exact W.lret (v := x) C.1 C.2.1 (C.2.2.2.2.2.2.2.2.2.trans hr) (fun t ht hW => ⟨rfl, by rw [ht]; exact hP, hD, hS.F ht⟩) hS.2.2 hd C.2.2.2.2.2.2.2.2.1
  | cons v r => cases hf
theorem as_vret (C : ah_C p s m args meth c cc nL own ret s0 D tc A) (hr : ret = none) (hd : decode cc pc = .ok (.return_, 1)) : ah_Snd (ah_G p l e R s m args below meth c nL D tc ad A res) res pc ah_vret := by
  intro J hJ lv st h hf ls H locs hl hP hD hS
  cases st with
  | nil =>
    have e := Option.some.inj hf
    subst e
    exact W.vret C.1 C.2.1 (C.2.2.2.2.2.2.2.2.2.trans hr) (fun t ht hW => ⟨rfl, by rw [ht]; exact hP, hD, hS.F ht⟩) hS.2.2 hd C.2.2.2.2.2.2.2.2.1
  | cons v r => cases hf
theorem ah_swt_i {J : ah_J} {lv : ah_L} {r : List Value} {h : ah_H} {x : Int32} {d : Nat} : ∀ {ks : List (Int32 × Nat)}, ah_swt J lv r h x d ks = some res → (∃ (j t : Nat), ks[j]? = some (x, t) ∧ J t lv r h = some res) ∨ ((∀ (j t : Nat), ¬ ks[j]? = some (x, t)) ∧ J d lv r h = some res)
  | [], hf => Or.inr ⟨fun j t hj => (by cases hj), hf⟩
  | (k, t) :: ks, hf => by
    unfold ah_swt at hf
    by_cases hx : x = k
    · rw [if_pos hx] at hf
      exact Or.inl ⟨0, t, by rw [hx]; rfl, hf⟩
    · rw [if_neg hx] at hf
      rcases ah_swt_i hf with ⟨j, t2, h1, h2⟩ | ⟨h1, h2⟩
      · exact Or.inl ⟨j + 1, t2, h1, h2⟩
      · refine Or.inr ⟨fun j t2 hj => ?_, h2⟩
        cases j with
        | zero =>
          have hj : some (k, t) = some (x, t2) := hj
          injection hj with hj
          injection hj with e1 e2
          exact hx e1.symm
        | succ j => exact h1 j t2 hj
def ah_tck (pc : Nat) (lo : Int) (offs : List Int) (ks : List (Int32 × Nat)) : Bool := ks.length == offs.length && (List.range ks.length).all (fun j => match ks[j]?, offs[j]? with
  | some (k, t), some o => k.toInt == lo + (j : Int) && (pc : Int) + o == (t : Int)
  | _, _ => false)
theorem ah_tck_i {lo : Int} {offs : List Int} {ks : List (Int32 × Nat)} (h : ah_tck pc lo offs ks = true) : ks.length = offs.length ∧ ∀ (j t : Nat) (k : Int32), ks[j]? = some (k, t) → k.toInt = lo + j ∧ ∃ o, offs[j]? = some o ∧ (pc : Int) + o = t := by
  unfold ah_tck at h
  rw [Bool.and_eq_true] at h
  refine ⟨by simpa using h.1, fun j t k hj => ?_⟩
  have hjl : j < ks.length := (List.getElem?_eq_some_iff.mp hj).1
  have h2 := List.all_eq_true.mp h.2 j (List.mem_range.mpr hjl)
  rw [hj] at h2
  cases ho : offs[j]? with
  | none => rw [ho] at h2; cases h2
  | some o =>
    rw [ho] at h2
    have h2 : (k.toInt == lo + (j : Int) && (pc : Int) + o == (t : Int)) = true := h2
    simp only [Bool.and_eq_true, beq_iff_eq] at h2
    exact ⟨h2.1, o, rfl, h2.2⟩
theorem as_tsw (C : ah_C p s m args meth c cc nL own ret s0 D tc A) {dflt lo hi : Int} {offs : Array Int} {len d : Nat} {ks : List (Int32 × Nat)} (hd : decode cc pc = .ok (.tableswitch dflt lo hi offs, len)) (hk : ah_tck pc lo offs.toList ks = true) (hN : hi - lo + 1 = (offs.toList.length : Int)) (ht : (pc : Int) + dflt = (d : Int)) : ah_Snd (ah_G p l e R s m args below meth c nL D tc ad A res) res pc (ah_sw ks d) := by
  intro J hJ lv st h hf ls H locs hl hP hD hS
  replace hf := Option.bind_eq_some_iff.mp hf
  obtain ⟨q, hq, hf⟩ := hf
  obtain rfl := ah_p1_i hq
  obtain ⟨hlen, hks⟩ := ah_tck_i hk
  rcases ah_swt_i hf with ⟨j, t, h1, h2⟩ | ⟨h1, h2⟩
  · obtain ⟨e1, o, e2, e3⟩ := hks j t q.1 h1
    have hjl : j < ks.length := (List.getElem?_eq_some_iff.mp h1).1
    refine lv_tableIn C.1 C.2.1 hd (by omega) (by omega) (off := o) ?_ e3 (hJ _ _ _ _ h2 ls H locs hl hP hD hS)
    rw [e1, show (lo + (j : Int) - lo).toNat = j by omega, ← Array.getElem?_toList]
    exact e2
  · refine lv_tableOut C.1 C.2.1 hd ?_ ht (hJ _ _ _ _ h2 ls H locs hl hP hD hS)
    rcases Int.lt_or_le q.1.toInt lo with z | z
    · exact Or.inl z
    · rcases Int.lt_or_le hi q.1.toInt with z2 | z2
      · exact Or.inr z2
      · exfalso
        have hjl : (q.1.toInt - lo).toNat < ks.length := by omega
        cases hj : ks[(q.1.toInt - lo).toNat]? with
        | none => rw [List.getElem?_eq_none_iff] at hj; omega
        | some kt =>
          obtain ⟨k, t⟩ := kt
          have e1 := (hks _ t k hj).1
          have e2 : k = q.1 := Int32.toInt_inj.mp (by omega)
          rw [e2] at hj
          exact h1 _ t hj
def ah_lck (pc : Nat) : List (Int × Int) → List (Int32 × Nat) → Bool
  | [], [] => true
  | (a, o) :: ps, (k, t) :: ks => k.toInt == a && (pc : Int) + o == (t : Int) && ah_lck pc ps ks
  | _, _ => false
theorem ah_lck_i {dflt : Int} {d : Nat} (ht : (pc : Int) + dflt = (d : Int)) {J : ah_J} {lv : ah_L} {r : List Value} {h : ah_H} {x : Int32} : ∀ {ps : List (Int × Int)} {ks : List (Int32 × Nat)}, ah_lck pc ps ks = true → ah_swt J lv r h x d ks = some res → ∃ (off : Int) (t : Nat), Op.lookupswitch.offset ps dflt x.toInt = off ∧ (pc : Int) + off = t ∧ J t lv r h = some res
  | [], [], _, hf => ⟨dflt, d, rfl, ht, hf⟩
  | (a, o) :: ps, (k, t) :: ks, hk, hf => by
    unfold ah_lck at hk
    simp only [Bool.and_eq_true, beq_iff_eq] at hk
    unfold ah_swt at hf
    by_cases hx : x = k
    · rw [if_pos hx] at hf
      refine ⟨o, t, ?_, hk.1.2, hf⟩
      rw [Op.lookupswitch.offset_cons, if_pos]
      rw [hx]; exact hk.1.1.symm
    · rw [if_neg hx] at hf
      obtain ⟨off, t2, h1, h2⟩ := ah_lck_i ht hk.2 hf
      exact ⟨off, t2, by rw [lv_osw hx hk.1.1]; exact h1, h2⟩
  | [], (_, _) :: _, hk, _ => by cases hk
  | (_, _) :: _, [], hk, _ => by cases hk
theorem as_lsw (C : ah_C p s m args meth c cc nL own ret s0 D tc A) {dflt : Int} {ps : Array (Int × Int)} {len d : Nat} {ks : List (Int32 × Nat)} (hd : decode cc pc = .ok (.lookupswitch dflt ps, len)) (hp : (ps.toList.zip (ps.toList.drop 1)).all (fun (a, next) => a.1 < next.1) = true) (hk : ah_lck pc ps.toList ks = true) (ht : (pc : Int) + dflt = (d : Int)) : ah_Snd (ah_G p l e R s m args below meth c nL D tc ad A res) res pc (ah_sw ks d) := by
  intro J hJ lv st h hf ls H locs hl hP hD hS
  replace hf := Option.bind_eq_some_iff.mp hf
  obtain ⟨q, hq, hf⟩ := hf
  obtain rfl := ah_p1_i hq
  obtain ⟨off, t, h1, h2, h3⟩ := ah_lck_i ht hk hf
  exact lv_lookup C.1 C.2.1 hd hp h1 h2 (hJ _ _ _ _ h3 ls H locs hl hP hD hS)
end AHT
end
section
/-! calls, and a method's contract out of its table -/
def ah_pop : Nat → List Value → List Value → Option (List Value × List Value)
  | 0, acc, st => some (acc, st)
  | k + 1, acc, st => match st with
    | v :: r => ah_pop k (v :: acc) r
    | [] => none
theorem ah_pop_i {q : List Value × List Value} : ∀ {k : Nat} {acc st : List Value}, ah_pop k acc st = some q → ∃ pre : List Value, pre.length = k ∧ st = pre ++ q.2 ∧ q.1 = pre.reverse ++ acc
  | 0, acc, st, h => by
    have e := Option.some.inj h
    subst e
    exact ⟨[], rfl, rfl, rfl⟩
  | k + 1, acc, [], h => by cases h
  | k + 1, acc, v :: r, h => by
    obtain ⟨pre, h1, h2, h3⟩ := ah_pop_i (k := k) (acc := v :: acc) (st := r) h
    refine ⟨v :: pre, by rw [List.length_cons, h1], by rw [h2]; rfl, by rw [h3]; simp⟩
def ah_rm : List Value → Nat → Bool
  | [], _ => true
  | _ :: _, 0 => false
  | v :: r, k + 1 => match v with
    | .long _ => (match k with
      | 0 => false
      | j + 1 => ah_rm r j)
    | .double _ => (match k with
      | 0 => false
      | j + 1 => ah_rm r j)
    | _ => ah_rm r k
theorem ah_rm_i (ad : Nat → Nat) : ∀ {r : List Value} {k : Nat}, ah_rm r k = true → ((r.map (ah_v ad)).map fun v => v.category).sum ≤ k
  | [], _, _ => Nat.zero_le _
  | v :: r, 0, h => by cases v <;> cases h
  | v :: r, k + 1, h => by
    have e : (((v :: r).map (ah_v ad)).map fun v => v.category).sum = (ah_v ad v).category + ((r.map (ah_v ad)).map fun v => v.category).sum := by simp
    rw [e, ah_cat]
    cases v with
    | long x =>
      cases k with
      | zero => cases h
      | succ j =>
        have := ah_rm_i ad (r := r) (k := j) h
        have e2 : (Value.long x).category = 2 := rfl
        omega
    | double x =>
      cases k with
      | zero => cases h
      | succ j =>
        have := ah_rm_i ad (r := r) (k := j) h
        have e2 : (Value.double x).category = 2 := rfl
        omega
    | int x =>
      have := ah_rm_i ad (r := r) (k := k) h
      have e2 : (Value.int x).category = 1 := rfl
      omega
    | float x =>
      have := ah_rm_i ad (r := r) (k := k) h
      have e2 : (Value.float x).category = 1 := rfl
      omega
    | null =>
      have := ah_rm_i ad (r := r) (k := k) h
      have e2 : (Value.null).category = 1 := rfl
      omega
    | ref x =>
      have := ah_rm_i ad (r := r) (k := k) h
      have e2 : (Value.ref x).category = 1 := rfl
      omega
    | retAddr x =>
      have := ah_rm_i ad (r := r) (k := k) h
      have e2 : (Value.retAddr x).category = 1 := rfl
      omega
abbrev ah_F : Type := List Value → ah_H → Option ah_R
def ah_rI : Option ah_R → Option (Int32 × ah_H) := fun o => match o with
  | some (some (.int x), h) => some (x, h)
  | _ => none
def ah_rL : Option ah_R → Option (Int64 × ah_H) := fun o => match o with
  | some (some (.long x), h) => some (x, h)
  | _ => none
def ah_rV : Option ah_R → Option ah_H := fun o => match o with
  | some (none, h) => some h
  | _ => none
theorem ah_rI_i {o : Option ah_R} {q : Int32 × ah_H} (h : ah_rI o = some q) : o = some (some (.int q.1), q.2) := by
  unfold ah_rI at h
  split at h
  · cases h; rfl
  · cases h
theorem ah_rL_i {o : Option ah_R} {q : Int64 × ah_H} (h : ah_rL o = some q) : o = some (some (.long q.1), q.2) := by
  unfold ah_rL at h
  split at h
  · cases h; rfl
  · cases h
theorem ah_rV_i {o : Option ah_R} {q : ah_H} (h : ah_rV o = some q) : o = some (none, q) := by
  unfold ah_rV at h
  split at h
  · cases h; rfl
  · cases h
def ah_sel : List (Nat × ah_F) → Nat → Option ah_F
  | [], _ => none
  | (k, F) :: r, c => bif Nat.beq c k then some F else ah_sel r c
theorem ah_sel_i {c : Nat} {F : ah_F} : ∀ {tab : List (Nat × ah_F)}, ah_sel tab c = some F → (c, F) ∈ tab
  | [], h => by cases h
  | (k, F2) :: r, h => by
    unfold ah_sel at h
    cases hb : Nat.beq c k with
    | true =>
      rw [hb] at h
      have e1 := Nat.eq_of_beq_eq_true hb
      have e2 : F2 = F := Option.some.inj h
      rw [e1, e2]; exact List.mem_cons_self
    | false => rw [hb] at h; exact List.mem_cons_of_mem _ (ah_sel_i h)
/-- a call on an object: which method, its class says -/
def ah_vI (tab : List (Nat × ah_F)) (k n : Nat) : ah_S := fun J lv st h => (ah_pop k [] st).bind fun q => (ah_q1 q.1).bind fun r => (ah_ob h r.1).bind fun o => (ah_sel tab o.1).bind fun F => bif ah_rm q.2 8 then (ah_rI (F q.1 h)).bind fun w => J n lv (.int w.1 :: q.2) w.2 else none
def ah_vL (tab : List (Nat × ah_F)) (k n : Nat) : ah_S := fun J lv st h => (ah_pop k [] st).bind fun q => (ah_q1 q.1).bind fun r => (ah_ob h r.1).bind fun o => (ah_sel tab o.1).bind fun F => bif ah_rm q.2 8 then (ah_rL (F q.1 h)).bind fun w => J n lv (.long w.1 :: q.2) w.2 else none
def ah_vV (tab : List (Nat × ah_F)) (k n : Nat) : ah_S := fun J lv st h => (ah_pop k [] st).bind fun q => (ah_q1 q.1).bind fun r => (ah_ob h r.1).bind fun o => (ah_sel tab o.1).bind fun F => bif ah_rm q.2 8 then (ah_rV (F q.1 h)).bind fun w => J n lv q.2 w else none
def ah_sI (F : ah_F) (k n : Nat) : ah_S := fun J lv st h => (ah_pop k [] st).bind fun q => bif ah_rm q.2 8 then (ah_rI (F q.1 h)).bind fun w => J n lv (.int w.1 :: q.2) w.2 else none
def ah_sL (F : ah_F) (k n : Nat) : ah_S := fun J lv st h => (ah_pop k [] st).bind fun q => bif ah_rm q.2 8 then (ah_rL (F q.1 h)).bind fun w => J n lv (.long w.1 :: q.2) w.2 else none
def ah_sV (F : ah_F) (k n : Nat) : ah_S := fun J lv st h => (ah_pop k [] st).bind fun q => bif ah_rm q.2 8 then (ah_rV (F q.1 h)).bind fun w => J n lv q.2 w else none
def ah_room (f n : Nat) : Room := { frames := f, cells := 0, slots := 0, locals := n }
def ah_Met (l : Launch) (s0 : State) (D : va_G) (tc : Nat → ClassId) (ad : Nat → Nat) (A : Nat → Prop) (y : MethodName) (cc : ByteArray) (maxL : Nat) (ret : Option FieldType) (fr lo : Nat) (F : ah_F) : Prop := ∀ (as : List Value) (h : ah_H) (res : ah_R), F as h = some res → Met l y (Cond.code y cc maxL ret :: ah_TT) (ah_room fr lo) (ah_Pre s0 D tc ad A as h) (ah_Q D tc ad A res) 0 0 A
theorem ah_blind {s0 : State} {D : va_G} {tc : Nat → ClassId} {ad : Nat → Nat} {A : Nat → Prop} {as : List Value} {h : ah_H} : FrameBlind (ah_Pre s0 D tc ad A as h) := fun a U g mk q => by
  obtain ⟨q0, qP, qK, qD, qE⟩ := q
  exact ⟨q0, qP, va_K.moved (u := U) (U := U.calling g mk a) (Vm.Alike.refl U.vm) qK, qD, qE⟩
section AHC
variable {p : Program} {l : Launch} {e : Env} {R : Room} {s : State} {m : MethodId} {args : Array Value} {below : List Frame} {meth : Method} {c : Code} {cc : ByteArray} {nL : Nat} {own : String} {ret : Option FieldType} {s0 : State} {D : va_G} {tc : Nat → ClassId} {ad : Nat → Nat} {A : Nat → Prop} {res : ah_R} {pc : Nat}
theorem ah_pre (C : ah_C p s m args meth c cc nL own ret s0 D tc A) {as : List Value} {h : ah_H} {H : Heap} {locs : List Loc} (hP : va_P D vwCl (ah_w ad tc h) H) (hD : va_D A (ah_w ad tc h)) (hS : va_S A s.heap H locs) : ∀ U : State, U.heap = H → s.WarmedH U.vm → ah_Pre s0 D tc ad A as h (as.map (ah_v ad)).toArray U := by
  intro U hU hW
  obtain ⟨e1, e2, e3⟩ := C.2.2.2.2.2.2.1
  refine ⟨rfl, by rw [hU]; exact hP, va_K.moved hW.alike C.2.2.2.2.2.1, hD, e1.trans hW.alike, by rw [hU]; exact Nat.le_trans e2 hS.1, fun q hq => ?_⟩
  rw [hU, hS.2.1 q (Nat.lt_of_lt_of_le hq e2) (fun z => Nat.not_lt.mpr (C.2.2.2.2.2.2.2.1 q z) hq)]
  exact e3 q hq
theorem ah_call {res2 : ah_R} {a : Array Value} {H : Heap} {locs : List Loc} {ls : Array Slot} {st0 rest : List Value} {Q : State → Prop} (hr : va_Run p l e R s m args below meth c H locs 0 0 0 0 (F0 m pc ls st0) rest (ah_Q D tc ad A res2 a) A) (hS : va_S A s.heap H locs)
    (kk : ∀ (H1 : Heap) (locs1 : List Loc), va_P D vwCl (ah_w ad tc res2.2) H1 → va_D A (ah_w ad tc res2.2) → va_S A s.heap H1 locs1 → W p l e R s m args below meth c H1 locs1 0 0 Q (F0 m (pc + 3) ls ((res2.1.map (ah_v ad)).toList ++ rest))) : W p l e R s m args below meth c H locs 0 0 Q (F0 m pc ls st0) := by
  intro T hT X
  obtain ⟨v, st₀, t, T', L, h0, X', hL, e1, e2, ⟨hv, hp, hd, hz, hk⟩, st⟩ := hr T hT X
  injection hv with hv
  subst hv
  rw [h0] at hz hk
  obtain ⟨t2, a1, b1⟩ := kk T'.heap (locs ++ L) (by rw [e1]; exact hp) hd
    ⟨Nat.le_trans hS.1 (by rw [e1]; exact hz), fun q h1 h2 => by rw [e1, hk q (Nat.lt_of_lt_of_le h1 hS.1) h2]; exact hS.2.1 q h1 h2, fun q hq => by
      rcases List.mem_append.mp hq with h | h
      · exact hS.2.2 q h
      · exact hL q h⟩ T' rfl X'
  exact ⟨t2, st t2 a1, b1⟩
/-- the call at pc, on an object of class ci, with k values (the object among them), is answered by F -/
def ah_Vok (p : Program) (l : Launch) (e : Env) (R : Room) (s : State) (m : MethodId) (args : Array Value) (below : List Frame) (meth : Method) (c : Code) (nL : Nat) (D : va_G) (tc : Nat → ClassId) (ad : Nat → Nat) (A : Nat → Prop) (pc k ci : Nat) (F : ah_F) : Prop := ∀ (h : ah_H) (a : Nat) (fs As rest : List Value) (res2 : ah_R) (ls : Array Slot) (H : Heap) (locs : List Loc), h[a]? = some (.inr (ci, fs)) → As.length + 1 = k → F (.ref a :: As) h = some res2 → va_P D vwCl (ah_w ad tc h) H → va_D A (ah_w ad tc h) → va_S A s.heap H locs → ls.size = nL → (rest.map fun v => v.category).sum ≤ 8 → va_Run p l e R s m args below meth c H locs 0 0 0 0 (F0 m pc ls ((As.map (ah_v ad)).reverse ++ .ref (ad a) :: rest)) rest (ah_Q D tc ad A res2 (Value.ref (ad a) :: As.map (ah_v ad)).toArray) A
theorem ah_okV (C : ah_C p s m args meth c cc nL own ret s0 D tc A) {y : MethodName} {cc2 : ByteArray} {maxL fr lo idx n ci N : Nat} {ret2 : Option FieldType} {Cn : String} {T : u_T} {F : ah_F} (hM : ah_Met l s0 D tc ad A y cc2 maxL ret2 fr lo F) (hd : decode cc pc = .ok (.invokevirtual idx, 3)) (hci : vwCl[ci]? = some (Cn, T, N))
    (w1 : Cond.methodLink own idx y ∈ ah_TT) (w2 : Cond.instanceMethod y ∈ ah_TT) (w3 : Cond.selects Cn y y ∈ ah_TT) (w4 : Cond.initialized Cn ∈ ah_TT) (w5 : Cond.code y cc2 maxL ret2 ∈ ah_TT) (hdd : y.cls = Cn ∧ y.cls ≠ "java/lang/invoke/MethodHandle" ∧ y.cls ≠ "java/lang/invoke/VarHandle" ∧ (parseMethodDescriptor y.desc).map (fun d => d.parameters.length) = some n) (hR : fr + 1 ≤ R.frames ∧ 8 + (maxL + 11) + lo ≤ R.locals) : ah_Vok p l e R s m args below meth c nL D tc ad A pc (n + 1) ci F := by
  intro h a fs As rest res2 ls H locs ha hk hF hP hD hS hls hrm
  have hG : GoodIn ah_TT (wsV own idx Cn y (Cond.code y cc2 maxL ret2 :: ah_TT)) := by
    intro w hw
    have hw2 : w ∈ ah_TT := by
      unfold wsV at hw
      rcases List.mem_append.mp hw with hw | hw
      · rcases List.mem_cons.mp hw with rfl | hw
        · exact w1
        rcases List.mem_cons.mp hw with rfl | hw
        · exact w2
        rcases List.mem_cons.mp hw with rfl | hw
        · exact w3
        rcases List.mem_cons.mp hw with rfl | hw
        · exact w4
        cases hw
      · rcases List.mem_cons.mp hw with rfl | hw
        · exact w5
        · exact hw
    exact ⟨hw2, ah_TT_good hw2⟩
  exact va_runV (Ts := ah_TT) (As := As.map (ah_v ad)) (rest := rest) ⟨C.1, C.2.1, C.2.2.1, C.2.2.2.1, C.2.2.2.2.1⟩ (hM _ _ _ hF) (cwV n C.2.2.2.2.1 hG rfl rfl rfl hdd hR) ⟨ah_blind, va_recv C.2.2.2.2.2.1 hP hci (ah_w_get ha), ah_pre C (as := .ref a :: As) hP hD hS⟩ rfl (by rw [List.length_map]; omega) hls rfl (lv_room hrm) hd ⟨Nat.zero_le _, Nat.zero_le _⟩
theorem ah_okU (C : ah_C p s m args meth c cc nL own ret s0 D tc A) {x y : MethodName} {cc2 : ByteArray} {maxL fr lo idx n ci N : Nat} {ret2 : Option FieldType} {Cn owner : String} {T : u_T} {F : ah_F} (hM : ah_Met l s0 D tc ad A y cc2 maxL ret2 fr lo F) (hd : decode cc pc = .ok (.invokevirtual idx, 3)) (hci : vwCl[ci]? = some (Cn, T, N))
    (w1 : Cond.methodLink own idx x ∈ ah_TT) (w6 : Cond.sameMethod x.cls owner x.name x.desc ∈ ah_TT) (w2 : Cond.instanceMethod ⟨owner, x.name, x.desc⟩ ∈ ah_TT) (w3 : Cond.selects Cn x y ∈ ah_TT) (w7 : Cond.instanceMethod y ∈ ah_TT) (w4 : Cond.initialized y.cls ∈ ah_TT) (w5 : Cond.code y cc2 maxL ret2 ∈ ah_TT)
    {b0 : ByteArray} {m0 : Nat} {r0 : Option FieldType} (h0 : Cond.code ⟨owner, x.name, x.desc⟩ b0 m0 r0 ∈ ah_TT) (hdd : owner ≠ "java/lang/invoke/MethodHandle" ∧ owner ≠ "java/lang/invoke/VarHandle" ∧ (parseMethodDescriptor x.desc).map (fun d => d.parameters.length) = some n) (hR : fr + 1 ≤ R.frames ∧ 8 + (maxL + 11) + lo ≤ R.locals) : ah_Vok p l e R s m args below meth c nL D tc ad A pc (n + 1) ci F := by
  intro h a fs As rest res2 ls H locs ha hk hF hP hD hS hls hrm
  have hG : GoodIn ah_TT (va_wsO own idx Cn owner x y (Cond.code y cc2 maxL ret2 :: ah_TT)) := by
    intro w hw
    have hw2 : w ∈ ah_TT := by
      unfold va_wsO at hw
      rcases List.mem_append.mp hw with hw | hw
      · rcases List.mem_cons.mp hw with rfl | hw
        · exact w1
        rcases List.mem_cons.mp hw with rfl | hw
        · exact w6
        rcases List.mem_cons.mp hw with rfl | hw
        · exact w2
        rcases List.mem_cons.mp hw with rfl | hw
        · exact w3
        rcases List.mem_cons.mp hw with rfl | hw
        · exact w7
        rcases List.mem_cons.mp hw with rfl | hw
        · exact w4
        cases hw
      · rcases List.mem_cons.mp hw with rfl | hw
        · exact w5
        · exact hw
    exact ⟨hw2, ah_TT_good hw2⟩
  exact va_runU (Ts := ah_TT) (As := As.map (ah_v ad)) (rest := rest) ⟨C.1, C.2.1, C.2.2.1, C.2.2.2.1, C.2.2.2.2.1⟩ (hM _ _ _ hF) (va_cwO n C.2.2.2.2.1 hG rfl rfl rfl h0 hdd hR) ⟨ah_blind, va_recv C.2.2.2.2.2.1 hP hci (ah_w_get ha), ah_pre C (as := .ref a :: As) hP hD hS⟩ rfl (by rw [List.length_map]; omega) hls rfl (lv_room hrm) hd ⟨Nat.zero_le _, Nat.zero_le _⟩
/-- what a table of a call says of each of its rows -/
def ah_Tok (p : Program) (l : Launch) (e : Env) (R : Room) (s : State) (m : MethodId) (args : Array Value) (below : List Frame) (meth : Method) (c : Code) (nL : Nat) (D : va_G) (tc : Nat → ClassId) (ad : Nat → Nat) (A : Nat → Prop) (pc k : Nat) (tab : List (Nat × ah_F)) : Prop := ∀ q ∈ tab, ah_Vok p l e R s m args below meth c nL D tc ad A pc k q.1 q.2
theorem ah_t0 {k : Nat} : ah_Tok p l e R s m args below meth c nL D tc ad A pc k [] := fun _ h => by cases h
theorem ah_t1 {k ci : Nat} {F : ah_F} {r : List (Nat × ah_F)} (h : ah_Vok p l e R s m args below meth c nL D tc ad A pc k ci F) (t : ah_Tok p l e R s m args below meth c nL D tc ad A pc k r) : ah_Tok p l e R s m args below meth c nL D tc ad A pc k ((ci, F) :: r) := fun q hq => by
  rcases List.mem_cons.mp hq with e | hq
  · subst e; exact h
  · exact t q hq
theorem ah_vcall {k : Nat} {tab : List (Nat × ah_F)} (hT : ah_Tok p l e R s m args below meth c nL D tc ad A pc k tab) {st : List Value} {h : ah_H} {q : List Value × List Value} {r : Nat × List Value} {o : Nat × List Value} {F : ah_F} {res2 : ah_R} {ls : Array Slot} {H : Heap} {locs : List Loc} {Q : State → Prop} {lv : List (Nat × Value)} (h1 : ah_pop k [] st = some q) (h2 : ah_q1 q.1 = some r) (h3 : ah_ob h r.1 = some o) (h4 : ah_sel tab o.1 = some F) (h5 : ah_rm q.2 8 = true) (h6 : F q.1 h = some res2) (hl : lv_has ls nL lv) (hP : va_P D vwCl (ah_w ad tc h) H) (hD : va_D A (ah_w ad tc h)) (hS : va_S A s.heap H locs)
    (kk : ∀ (H1 : Heap) (locs1 : List Loc), va_P D vwCl (ah_w ad tc res2.2) H1 → va_D A (ah_w ad tc res2.2) → va_S A s.heap H1 locs1 → W p l e R s m args below meth c H1 locs1 0 0 Q (F0 m (pc + 3) ls ((res2.1.map (ah_v ad)).toList ++ q.2.map (ah_v ad)))) : W p l e R s m args below meth c H locs 0 0 Q (F0 m pc ls (st.map (ah_v ad))) := by
  obtain ⟨pre, e1, e2, e3⟩ := ah_pop_i h1
  rw [List.append_nil] at e3
  have e4 := ah_q1_i h2
  have hpre : pre = r.2.reverse ++ [.ref r.1] := by
    have : pre.reverse = .ref r.1 :: r.2 := by rw [← e3]; exact e4
    have := congrArg List.reverse this
    rw [List.reverse_reverse] at this
    rw [this]; simp
  have hst : st.map (ah_v ad) = (r.2.map (ah_v ad)).reverse ++ .ref (ad r.1) :: q.2.map (ah_v ad) := by
    rw [e2, hpre]
    simp [ah_v]
  rw [hst]
  have hk : r.2.length + 1 = k := by rw [← e1, hpre]; simp
  exact ah_call (hT _ (ah_sel_i h4) h r.1 o.2 r.2 (q.2.map (ah_v ad)) res2 ls H locs (ah_ob_i h3) hk (by rw [← e4]; exact h6) hP hD hS hl.1 (ah_rm_i ad h5)) hS kk
theorem as_vI {k : Nat} {tab : List (Nat × ah_F)} (hT : ah_Tok p l e R s m args below meth c nL D tc ad A pc k tab) : ah_Snd (ah_G p l e R s m args below meth c nL D tc ad A res) res pc (ah_vI tab k (pc + 3)) := by
  intro J hJ lv st h hf ls H locs hl hP hD hS
  replace hf := Option.bind_eq_some_iff.mp hf
  obtain ⟨q, h1, hf⟩ := hf
  replace hf := Option.bind_eq_some_iff.mp hf
  obtain ⟨r, h2, hf⟩ := hf
  replace hf := Option.bind_eq_some_iff.mp hf
  obtain ⟨o, h3, hf⟩ := hf
  replace hf := Option.bind_eq_some_iff.mp hf
  obtain ⟨F, h4, hf⟩ := hf
  cases h5 : ah_rm q.2 8 with
  | false => rw [h5] at hf; cases hf
  | true =>
    rw [h5] at hf
    replace hf := Option.bind_eq_some_iff.mp hf
    obtain ⟨w, h6, hf⟩ := hf
    exact ah_vcall hT h1 h2 h3 h4 h5 (ah_rI_i h6) hl hP hD hS (fun H locs hP hD hS => hJ _ _ _ _ hf ls H locs hl hP hD hS)
theorem as_vL {k : Nat} {tab : List (Nat × ah_F)} (hT : ah_Tok p l e R s m args below meth c nL D tc ad A pc k tab) : ah_Snd (ah_G p l e R s m args below meth c nL D tc ad A res) res pc (ah_vL tab k (pc + 3)) := by
  intro J hJ lv st h hf ls H locs hl hP hD hS
  replace hf := Option.bind_eq_some_iff.mp hf
  obtain ⟨q, h1, hf⟩ := hf
  replace hf := Option.bind_eq_some_iff.mp hf
  obtain ⟨r, h2, hf⟩ := hf
  replace hf := Option.bind_eq_some_iff.mp hf
  obtain ⟨o, h3, hf⟩ := hf
  replace hf := Option.bind_eq_some_iff.mp hf
  obtain ⟨F, h4, hf⟩ := hf
  cases h5 : ah_rm q.2 8 with
  | false => rw [h5] at hf; cases hf
  | true =>
    rw [h5] at hf
    replace hf := Option.bind_eq_some_iff.mp hf
    obtain ⟨w, h6, hf⟩ := hf
    exact ah_vcall hT h1 h2 h3 h4 h5 (ah_rL_i h6) hl hP hD hS (fun H locs hP hD hS => hJ _ _ _ _ hf ls H locs hl hP hD hS)
theorem as_vV {k : Nat} {tab : List (Nat × ah_F)} (hT : ah_Tok p l e R s m args below meth c nL D tc ad A pc k tab) : ah_Snd (ah_G p l e R s m args below meth c nL D tc ad A res) res pc (ah_vV tab k (pc + 3)) := by
  intro J hJ lv st h hf ls H locs hl hP hD hS
  replace hf := Option.bind_eq_some_iff.mp hf
  obtain ⟨q, h1, hf⟩ := hf
  replace hf := Option.bind_eq_some_iff.mp hf
  obtain ⟨r, h2, hf⟩ := hf
  replace hf := Option.bind_eq_some_iff.mp hf
  obtain ⟨o, h3, hf⟩ := hf
  replace hf := Option.bind_eq_some_iff.mp hf
  obtain ⟨F, h4, hf⟩ := hf
  cases h5 : ah_rm q.2 8 with
  | false => rw [h5] at hf; cases hf
  | true =>
    rw [h5] at hf
    replace hf := Option.bind_eq_some_iff.mp hf
    obtain ⟨w, h6, hf⟩ := hf
    exact ah_vcall hT h1 h2 h3 h4 h5 (ah_rV_i h6) hl hP hD hS (fun H locs hP hD hS => hJ _ _ _ _ hf ls H locs hl hP hD hS)
theorem ah_scall (C : ah_C p s m args meth c cc nL own ret s0 D tc A) {y : MethodName} {cc2 : ByteArray} {maxL fr lo idx n : Nat} {ret2 : Option FieldType} {F : ah_F} (hM : ah_Met l s0 D tc ad A y cc2 maxL ret2 fr lo F) (hd : decode cc pc = .ok (.invokestatic idx, 3))
    (w1 : Cond.methodLink own idx y ∈ ah_TT) (w2 : Cond.static y ∈ ah_TT) (w4 : Cond.initialized y.cls ∈ ah_TT) (w5 : Cond.code y cc2 maxL ret2 ∈ ah_TT) (hdd : y.cls ≠ "java/lang/invoke/MethodHandle" ∧ y.cls ≠ "java/lang/invoke/VarHandle" ∧ (parseMethodDescriptor y.desc).map (fun d => d.parameters.length) = some n) (hR : fr + 1 ≤ R.frames ∧ 8 + (maxL + 11) + lo ≤ R.locals)
    {st : List Value} {h : ah_H} {q : List Value × List Value} {res2 : ah_R} {ls : Array Slot} {H : Heap} {locs : List Loc} {Q : State → Prop} {lv : List (Nat × Value)} (h1 : ah_pop n [] st = some q) (h5 : ah_rm q.2 8 = true) (h6 : F q.1 h = some res2) (hl : lv_has ls nL lv) (hP : va_P D vwCl (ah_w ad tc h) H) (hD : va_D A (ah_w ad tc h)) (hS : va_S A s.heap H locs)
    (kk : ∀ (H1 : Heap) (locs1 : List Loc), va_P D vwCl (ah_w ad tc res2.2) H1 → va_D A (ah_w ad tc res2.2) → va_S A s.heap H1 locs1 → W p l e R s m args below meth c H1 locs1 0 0 Q (F0 m (pc + 3) ls ((res2.1.map (ah_v ad)).toList ++ q.2.map (ah_v ad)))) : W p l e R s m args below meth c H locs 0 0 Q (F0 m pc ls (st.map (ah_v ad))) := by
  obtain ⟨pre, e1, e2, e3⟩ := ah_pop_i h1
  rw [List.append_nil] at e3
  have hst : st.map (ah_v ad) = (q.1.map (ah_v ad)).reverse ++ q.2.map (ah_v ad) := by
    rw [e2, e3]; simp
  rw [hst]
  have hG : GoodIn ah_TT (Cond.code y cc2 maxL ret2 :: ah_TT) := by
    intro w hw
    have hw2 : w ∈ ah_TT := by
      rcases List.mem_cons.mp hw with rfl | hw
      · exact w5
      · exact hw
    exact ⟨hw2, ah_TT_good hw2⟩
  have hlen : (q.1.map (ah_v ad)).length = n := by rw [List.length_map, e3, List.length_reverse, e1]
  refine ah_call (va_runS (Ts := ah_TT) (As := q.1.map (ah_v ad)) (rest := q.2.map (ah_v ad)) ⟨C.1, C.2.1, C.2.2.1, C.2.2.2.1, C.2.2.2.2.1⟩ (hM _ _ _ h6) ⟨callB_of n C.2.2.2.2.1 hG rfl rfl rfl (C.2.2.2.2.1 _ w4) (C.2.2.2.2.1 _ w1) hdd hR, C.2.2.2.2.1 _ w2⟩ ⟨ah_blind, ah_pre C hP hD hS⟩ rfl hlen hl.1 rfl (lv_room (ah_rm_i ad h5)) hd ⟨Nat.zero_le _, Nat.zero_le _⟩) hS kk
theorem as_sI (C : ah_C p s m args meth c cc nL own ret s0 D tc A) {y : MethodName} {cc2 : ByteArray} {maxL fr lo idx n : Nat} {ret2 : Option FieldType} {F : ah_F} (hM : ah_Met l s0 D tc ad A y cc2 maxL ret2 fr lo F) (hd : decode cc pc = .ok (.invokestatic idx, 3))
    (w1 : Cond.methodLink own idx y ∈ ah_TT) (w2 : Cond.static y ∈ ah_TT) (w4 : Cond.initialized y.cls ∈ ah_TT) (w5 : Cond.code y cc2 maxL ret2 ∈ ah_TT) (hdd : y.cls ≠ "java/lang/invoke/MethodHandle" ∧ y.cls ≠ "java/lang/invoke/VarHandle" ∧ (parseMethodDescriptor y.desc).map (fun d => d.parameters.length) = some n) (hR : fr + 1 ≤ R.frames ∧ 8 + (maxL + 11) + lo ≤ R.locals) : ah_Snd (ah_G p l e R s m args below meth c nL D tc ad A res) res pc (ah_sI F n (pc + 3)) := by
  intro J hJ lv st h hf ls H locs hl hP hD hS
  replace hf := Option.bind_eq_some_iff.mp hf
  obtain ⟨q, h1, hf⟩ := hf
  cases h5 : ah_rm q.2 8 with
  | false => rw [h5] at hf; cases hf
  | true =>
    rw [h5] at hf
    replace hf := Option.bind_eq_some_iff.mp hf
    obtain ⟨w, h6, hf⟩ := hf
    exact ah_scall C hM hd w1 w2 w4 w5 hdd hR h1 h5 (ah_rI_i h6) hl hP hD hS (fun H locs hP hD hS => hJ _ _ _ _ hf ls H locs hl hP hD hS)
theorem as_sL (C : ah_C p s m args meth c cc nL own ret s0 D tc A) {y : MethodName} {cc2 : ByteArray} {maxL fr lo idx n : Nat} {ret2 : Option FieldType} {F : ah_F} (hM : ah_Met l s0 D tc ad A y cc2 maxL ret2 fr lo F) (hd : decode cc pc = .ok (.invokestatic idx, 3))
    (w1 : Cond.methodLink own idx y ∈ ah_TT) (w2 : Cond.static y ∈ ah_TT) (w4 : Cond.initialized y.cls ∈ ah_TT) (w5 : Cond.code y cc2 maxL ret2 ∈ ah_TT) (hdd : y.cls ≠ "java/lang/invoke/MethodHandle" ∧ y.cls ≠ "java/lang/invoke/VarHandle" ∧ (parseMethodDescriptor y.desc).map (fun d => d.parameters.length) = some n) (hR : fr + 1 ≤ R.frames ∧ 8 + (maxL + 11) + lo ≤ R.locals) : ah_Snd (ah_G p l e R s m args below meth c nL D tc ad A res) res pc (ah_sL F n (pc + 3)) := by
  intro J hJ lv st h hf ls H locs hl hP hD hS
  replace hf := Option.bind_eq_some_iff.mp hf
  obtain ⟨q, h1, hf⟩ := hf
  cases h5 : ah_rm q.2 8 with
  | false => rw [h5] at hf; cases hf
  | true =>
    rw [h5] at hf
    replace hf := Option.bind_eq_some_iff.mp hf
    obtain ⟨w, h6, hf⟩ := hf
    exact ah_scall C hM hd w1 w2 w4 w5 hdd hR h1 h5 (ah_rL_i h6) hl hP hD hS (fun H locs hP hD hS => hJ _ _ _ _ hf ls H locs hl hP hD hS)
theorem as_sV (C : ah_C p s m args meth c cc nL own ret s0 D tc A) {y : MethodName} {cc2 : ByteArray} {maxL fr lo idx n : Nat} {ret2 : Option FieldType} {F : ah_F} (hM : ah_Met l s0 D tc ad A y cc2 maxL ret2 fr lo F) (hd : decode cc pc = .ok (.invokestatic idx, 3))
    (w1 : Cond.methodLink own idx y ∈ ah_TT) (w2 : Cond.static y ∈ ah_TT) (w4 : Cond.initialized y.cls ∈ ah_TT) (w5 : Cond.code y cc2 maxL ret2 ∈ ah_TT) (hdd : y.cls ≠ "java/lang/invoke/MethodHandle" ∧ y.cls ≠ "java/lang/invoke/VarHandle" ∧ (parseMethodDescriptor y.desc).map (fun d => d.parameters.length) = some n) (hR : fr + 1 ≤ R.frames ∧ 8 + (maxL + 11) + lo ≤ R.locals) : ah_Snd (ah_G p l e R s m args below meth c nL D tc ad A res) res pc (ah_sV F n (pc + 3)) := by
  intro J hJ lv st h hf ls H locs hl hP hD hS
  replace hf := Option.bind_eq_some_iff.mp hf
  obtain ⟨q, h1, hf⟩ := hf
  cases h5 : ah_rm q.2 8 with
  | false => rw [h5] at hf; cases hf
  | true =>
    rw [h5] at hf
    replace hf := Option.bind_eq_some_iff.mp hf
    obtain ⟨w, h6, hf⟩ := hf
    exact ah_scall C hM hd w1 w2 w4 w5 hdd hR h1 h5 (ah_rV_i h6) hl hP hD hS (fun H locs hP hD hS => hJ _ _ _ _ hf ls H locs hl hP hD hS)
end AHC
def ah_abs (n : Nat) : ah_S := fun J lv st h => (ah_p1 st).bind fun q => bif ah_rm q.2 8 then J n lv (.int (if 0 ≤ q.1 then q.1 else 0 - q.1) :: q.2) h else none
def ah_max (n : Nat) : ah_S := fun J lv st h => (ah_p2 st).bind fun q => bif ah_rm q.2.2 8 then J n lv (.int (if q.1 < q.2.1 then q.2.1 else q.1) :: q.2.2) h else none
def ah_min (n : Nat) : ah_S := fun J lv st h => (ah_p2 st).bind fun q => bif ah_rm q.2.2 8 then J n lv (.int (if q.2.1 < q.1 then q.2.1 else q.1) :: q.2.2) h else none
def ah_p5 : List Value → Option (Nat × Int32 × Nat × Int32 × Int32 × List Value) := fun st => match st with
  | .int n :: .int dp :: .ref a :: .int sp :: .ref a0 :: r => some (a0, sp, a, dp, n, r)
  | _ => none
theorem ah_p5_i {st : List Value} {q : Nat × Int32 × Nat × Int32 × Int32 × List Value} (h : ah_p5 st = some q) : st = .int q.2.2.2.2.1 :: .int q.2.2.2.1 :: .ref q.2.2.1 :: .int q.2.1 :: .ref q.1 :: q.2.2.2.2.2 := by
  unfold ah_p5 at h
  split at h
  · cases h; rfl
  · cases h
def ah_acp (n : Nat) : ah_S := fun J lv st h => (ah_p5 st).bind fun q => (ah_ai h q.1 0).bind fun w => (ah_ai h q.2.2.1 0).bind fun z =>
  if q.2.1 < 0 ∨ q.2.2.2.1 < 0 ∨ q.2.2.2.2.1 < 0 ∨ w.1 < q.2.1.toNatClampNeg + q.2.2.2.2.1.toNatClampNeg ∨ z.1 < q.2.2.2.1.toNatClampNeg + q.2.2.2.2.1.toNatClampNeg then none else bif ah_rm q.2.2.2.2.2 8 then J n lv q.2.2.2.2.2 (h.set q.2.2.1 (.inl (0, z.1, .inl (va_cpy w.2 z.2 q.2.1.toNatClampNeg q.2.2.2.1.toNatClampNeg q.2.2.2.2.1.toNatClampNeg)))) else none
section AHM
variable {p : Program} {l : Launch} {e : Env} {R : Room} {s : State} {m : MethodId} {args : Array Value} {below : List Frame} {meth : Method} {c : Code} {cc : ByteArray} {nL : Nat} {own : String} {ret : Option FieldType} {s0 : State} {D : va_G} {tc : Nat → ClassId} {ad : Nat → Nat} {A : Nat → Prop} {res : ah_R} {pc : Nat}
theorem as_abs (C : ah_C p s m args meth c cc nL own ret s0 D tc A) {idx : Nat} (hd : decode cc pc = .ok (.invokestatic idx, 3)) (w1 : Cond.methodLink own idx Lib.Math.abs.name ∈ ah_TT) (w2 : Cond.static Lib.Math.abs.name ∈ ah_TT) (w3 : Cond.initialized "java/lang/Math" ∈ ah_TT) (w4 : Cond.code Lib.Math.abs.name Lib.Math.abs.code 1 (some .int) ∈ ah_TT) (hR : 1 ≤ R.frames ∧ 21 ≤ R.locals) : ah_Snd (ah_G p l e R s m args below meth c nL D tc ad A res) res pc (ah_abs (pc + 3)) := by
  intro J hJ lv st h hf ls H locs hl hP hD hS
  replace hf := Option.bind_eq_some_iff.mp hf
  obtain ⟨q, hq, hf⟩ := hf
  obtain rfl := ah_p1_i hq
  cases h5 : ah_rm q.2 8 with
  | false => rw [h5] at hf; cases hf
  | true =>
    rw [h5] at hf
    have hr := ah_rm_i ad h5
    exact va_mabs C.1 C.2.1 (C.2.2.1.trans hl.1.symm) C.2.2.2.1 (C.2.2.2.2.1 _ w1) (C.2.2.2.2.1 _ w2) (C.2.2.2.2.1 _ w3) (C.2.2.2.2.1 _ w4) hR.1 (by omega) (Nat.zero_le _) (Nat.zero_le _) hd (hJ _ _ _ _ hf ls H locs hl hP hD hS)
theorem as_max (C : ah_C p s m args meth c cc nL own ret s0 D tc A) {idx : Nat} (hd : decode cc pc = .ok (.invokestatic idx, 3)) (w1 : Cond.methodLink own idx Lib.Math.max.name ∈ ah_TT) (w2 : Cond.static Lib.Math.max.name ∈ ah_TT) (w3 : Cond.initialized "java/lang/Math" ∈ ah_TT) (w4 : Cond.code Lib.Math.max.name Lib.Math.max.code 2 (some .int) ∈ ah_TT) (hR : 1 ≤ R.frames ∧ 21 ≤ R.locals) : ah_Snd (ah_G p l e R s m args below meth c nL D tc ad A res) res pc (ah_max (pc + 3)) := by
  intro J hJ lv st h hf ls H locs hl hP hD hS
  replace hf := Option.bind_eq_some_iff.mp hf
  obtain ⟨q, hq, hf⟩ := hf
  obtain rfl := ah_p2_i hq
  cases h5 : ah_rm q.2.2 8 with
  | false => rw [h5] at hf; cases hf
  | true =>
    rw [h5] at hf
    have hr := ah_rm_i ad h5
    exact va_mmax C.1 C.2.1 (C.2.2.1.trans hl.1.symm) C.2.2.2.1 (C.2.2.2.2.1 _ w1) (C.2.2.2.2.1 _ w2) (C.2.2.2.2.1 _ w3) (C.2.2.2.2.1 _ w4) hR.1 (by omega) (Nat.zero_le _) (Nat.zero_le _) hd (hJ _ _ _ _ hf ls H locs hl hP hD hS)
theorem as_min (C : ah_C p s m args meth c cc nL own ret s0 D tc A) {idx : Nat} (hd : decode cc pc = .ok (.invokestatic idx, 3)) (w1 : Cond.methodLink own idx Lib.Math.min.name ∈ ah_TT) (w2 : Cond.static Lib.Math.min.name ∈ ah_TT) (w3 : Cond.initialized "java/lang/Math" ∈ ah_TT) (w4 : Cond.code Lib.Math.min.name Lib.Math.min.code 2 (some .int) ∈ ah_TT) (hR : 1 ≤ R.frames ∧ 21 ≤ R.locals) : ah_Snd (ah_G p l e R s m args below meth c nL D tc ad A res) res pc (ah_min (pc + 3)) := by
  intro J hJ lv st h hf ls H locs hl hP hD hS
  replace hf := Option.bind_eq_some_iff.mp hf
  obtain ⟨q, hq, hf⟩ := hf
  obtain rfl := ah_p2_i hq
  cases h5 : ah_rm q.2.2 8 with
  | false => rw [h5] at hf; cases hf
  | true =>
    rw [h5] at hf
    have hr := ah_rm_i ad h5
    exact va_mmin C.1 C.2.1 (C.2.2.1.trans hl.1.symm) C.2.2.2.1 (C.2.2.2.2.1 _ w1) (C.2.2.2.2.1 _ w2) (C.2.2.2.2.1 _ w3) (C.2.2.2.2.1 _ w4) hR.1 (by omega) (Nat.zero_le _) (Nat.zero_le _) hd (hJ _ _ _ _ hf ls H locs hl hP hD hS)
theorem as_acp (C : ah_C p s m args meth c cc nL own ret s0 D tc A) {idx : Nat} (hd : decode cc pc = .ok (.invokestatic idx, 3)) (w1 : Cond.methodLink own idx arraycopyName ∈ ah_TT) (w2 : Cond.native arraycopyName ∈ ah_TT) (w3 : Cond.static arraycopyName ∈ ah_TT) (w4 : Cond.initialized "java/lang/System" ∈ ah_TT) (hR : 1 ≤ R.frames ∧ 8 + (nativeFrameWords "java/lang/System" "arraycopy" 5 + 11) ≤ R.locals) : ah_Snd (ah_G p l e R s m args below meth c nL D tc ad A res) res pc (ah_acp (pc + 3)) := by
  intro J hJ lv st h hf ls H locs hl hP hD hS
  replace hf := Option.bind_eq_some_iff.mp hf
  obtain ⟨q, hq, hf⟩ := hf
  obtain rfl := ah_p5_i hq
  replace hf := Option.bind_eq_some_iff.mp hf
  obtain ⟨w, hw, hf⟩ := hf
  replace hf := Option.bind_eq_some_iff.mp hf
  obtain ⟨z, hz, hf⟩ := hf
  by_cases hc : q.2.1 < 0 ∨ q.2.2.2.1 < 0 ∨ q.2.2.2.2.1 < 0 ∨ w.1 < q.2.1.toNatClampNeg + q.2.2.2.2.1.toNatClampNeg ∨ z.1 < q.2.2.2.1.toNatClampNeg + q.2.2.2.2.1.toNatClampNeg
  · rw [if_pos hc] at hf; cases hf
  · rw [if_neg hc] at hf
    simp only [not_or] at hc
    cases h5 : ah_rm q.2.2.2.2.2 8 with
    | false => rw [h5] at hf; cases hf
    | true =>
      rw [h5] at hf
      have hr := ah_rm_i ad h5
      refine va_copyi (ty := .int) C.1 C.2.1 (C.2.2.1.trans hl.1.symm) C.2.2.2.1 (C.2.2.2.2.1 _ w1) (C.2.2.2.2.1 _ w2) (C.2.2.2.2.1 _ w3) (C.2.2.2.2.1 _ w4) C.2.2.2.2.2.1 hP hD hS q.1 q.2.2.1 0 0 (ah_w_get (ah_ai_i hw)) (ah_w_get (ah_ai_i hz)) rfl rfl rfl hc.1 hc.2.1 hc.2.2.1 (by omega) (by omega) (fun _ _ => rfl) hR.1 (by omega) hd (fun H1 locs1 hP1 hD1 hS1 => ?_)
      have hs : (ah_w ad tc h).set q.2.2.1 (ad q.2.2.1, .inl (tc 0, z.1, .inl (va_cpy w.2 z.2 q.2.1.toNatClampNeg q.2.2.2.1.toNatClampNeg q.2.2.2.2.1.toNatClampNeg))) = ah_w ad tc (h.set q.2.2.1 (.inl (0, z.1, .inl (va_cpy w.2 z.2 q.2.1.toNatClampNeg q.2.2.2.1.toNatClampNeg q.2.2.2.2.1.toNatClampNeg)))) := ah_w_set (e := .inl (0, z.1, .inl (va_cpy w.2 z.2 q.2.1.toNatClampNeg q.2.2.2.1.toNatClampNeg q.2.2.2.2.1.toNatClampNeg)))
      rw [hs] at hP1 hD1
      exact hJ _ _ _ _ hf ls H1 locs1 hl hP1 hD1 hS1
end AHM
-- a method's contract
def ah_ent : Nat → List Value → ah_L
  | _, [] => []
  | i, v :: vs => (i, v) :: ah_ent (bif ah_two v then i + 2 else i + 1) vs
theorem ah_ent_i (ad : Nat → Nat) : ∀ (vs : List Value) (i : Nat), ah_lm ad (ah_ent i vs) = lv_args i (vs.map (ah_v ad))
  | [], _ => rfl
  | v :: vs, i => by
    unfold ah_ent
    have e : (if (ah_v ad v).category = 2 then i + 2 else i + 1) = (bif ah_two v then i + 2 else i + 1) := by
      rw [ah_cat]; cases v <;> rfl
    show (i, ah_v ad v) :: ah_lm ad (ah_ent _ vs) = (i, ah_v ad v) :: lv_args _ (vs.map (ah_v ad))
    rw [ah_ent_i ad vs, e]
theorem ah_sl (ad : Nat → Nat) (vs : List Value) : (lg_sl (vs.map (ah_v ad))).length = (lg_sl vs).length := by
  induction vs with
  | nil => rfl
  | cons v vs ih =>
    have e : lg_sl ((v :: vs).map (ah_v ad)) = (if (ah_v ad v).category = 2 then [Slot.val (ah_v ad v), .second] else [.val (ah_v ad v)]) ++ lg_sl (vs.map (ah_v ad)) := rfl
    have e2 : lg_sl (v :: vs) = (if v.category = 2 then [Slot.val v, .second] else [.val v]) ++ lg_sl vs := rfl
    rw [e, e2, List.length_append, List.length_append, ih, ah_cat]
    split <;> rfl
/-- a method's answer by its table: with f turns of its loops -/
def ah_fun (code : List (Nat × ah_S)) (nL f : Nat) : ah_F := fun as h => bif ah_rm as nL then ah_run code f 0 (ah_ent 0 as) [] h else none
theorem ah_rm_sl : ∀ {as : List Value} {n : Nat}, ah_rm as n = true → (lg_sl as).length ≤ n
  | [], _, _ => Nat.zero_le _
  | v :: r, 0, h => by cases v <;> cases h
  | v :: r, k + 1, h => by
    have e2 : lg_sl (v :: r) = (if v.category = 2 then [Slot.val v, .second] else [.val v]) ++ lg_sl r := rfl
    rw [e2, List.length_append]
    cases v with
    | long x =>
      cases k with
      | zero => cases h
      | succ j =>
        have := ah_rm_sl (as := r) (n := j) h
        simp only [Value.category, if_true, List.length_cons, List.length_nil]
        omega
    | double x =>
      cases k with
      | zero => cases h
      | succ j =>
        have := ah_rm_sl (as := r) (n := j) h
        simp only [Value.category, if_true, List.length_cons, List.length_nil]
        omega
    | int x => have := ah_rm_sl (as := r) (n := k) h; simp [Value.category]; omega
    | float x => have := ah_rm_sl (as := r) (n := k) h; simp [Value.category]; omega
    | null => have := ah_rm_sl (as := r) (n := k) h; simp [Value.category]; omega
    | ref x => have := ah_rm_sl (as := r) (n := k) h; simp [Value.category]; omega
    | retAddr x => have := ah_rm_sl (as := r) (n := k) h; simp [Value.category]; omega
theorem ah_met {l : Launch} {s0 : State} {D : va_G} {tc : Nat → ClassId} {ad : Nat → Nat} {A : Nat → Prop} {y : MethodName} {cc : ByteArray} {nL : Nat} {ret : Option FieldType} {fr lo : Nat} {code : List (Nat × ah_S)} {f : Nat} (hA : ∀ q, A q → s0.heap.size ≤ q) (hy : plainName y.cls = true)
    (hc : ∀ (p : Program) (e : Env) (s : State) (m : MethodId) (args : Array Value) (below : List Frame) (meth : Method) (c : Code) (res : ah_R), ah_C p s m args meth c cc nL y.cls ret s0 D tc A → ah_All (ah_G p l e (ah_room fr lo) s m args below meth c nL D tc ad A res) res code) : ah_Met l s0 D tc ad A y cc nL ret fr lo (ah_fun code nL f) := by
  intro as h res hF
  unfold ah_fun at hF
  cases h5 : ah_rm as nL with
  | false => rw [h5] at hF; cases hF
  | true =>
    rw [h5] at hF
    refine Met.ofW (cc := cc) (maxL := nL) (ret := ret) hy rfl ?_
    intro p e s m args below meth c s₁ B hml hv
    obtain ⟨rfl, hP, hK, hD, hE⟩ := hv
    have hts := atoms_spec (ws := Cond.code y cc nL ret :: ah_TT) B.pre
    have hown : s.vm.findClass y.cls = some m.cls := findClass_of_methodNamed B.named
    have C : ah_C p s m (as.map (ah_v ad)).toArray meth c cc nL y.cls ret s0 D tc A := ⟨B.exec, B.bytes, hml, hown, fun w hw => hts w (List.mem_cons_of_mem _ hw), hK, hE, hA, B.notSynchronized, B.returns⟩
    have hg := ah_run_ok (hc p e s m _ below meth c res C) f 0 (ah_ent 0 as) [] h hF
    have hl := lv_entry (as.map (ah_v ad)) (n := nL) (by rw [ah_sl]; exact ah_rm_sl h5)
    rw [lg_entry_eq]
    generalize (lg_sl (as.map (ah_v ad)) ++ List.replicate (nL - (lg_sl (as.map (ah_v ad))).length) Slot.unset).toArray = ls at hl ⊢
    rw [← ah_ent_i] at hl
    exact hg ls s.heap [] hl hP hD va_S.rf
end
