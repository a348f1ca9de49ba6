theorem tq_1 {w : Cond} (h : w ∈ k2_sels lw_privs_1) : w ∈ k2_sels lw_privs := by
  unfold k2_sels lw_privs at *
  simp only [List.map_append, List.mem_append]
  simp only [h, true_or, or_true]
theorem tq_2 {w : Cond} (h : w ∈ k2_sels lw_privs_2) : w ∈ k2_sels lw_privs := by
  unfold k2_sels lw_privs at *
  simp only [List.map_append, List.mem_append]
  simp only [h, true_or, or_true]
theorem tq_3 {w : Cond} (h : w ∈ k2_sels lw_privs_3) : w ∈ k2_sels lw_privs := by
  unfold k2_sels lw_privs at *
  simp only [List.map_append, List.mem_append]
  simp only [h, true_or, or_true]
theorem tq_4 {w : Cond} (h : w ∈ k2_sels lw_privs_4) : w ∈ k2_sels lw_privs := by
  unfold k2_sels lw_privs at *
  simp only [List.map_append, List.mem_append]
  simp only [h, true_or, or_true]
theorem tb_1 {w : Cond} (h : w ∈ tables_1_1) : w ∈ lw_tbl := List.mem_append_right _ (List.mem_append_left _ h)
theorem tb_2 {w : Cond} (h : w ∈ tables_1_2) : w ∈ lw_tbl := List.mem_append_right _ (List.mem_append_right _ (List.mem_append_left _ h))
theorem tb_3 {w : Cond} (h : w ∈ tables_1_3) : w ∈ lw_tbl := List.mem_append_right _ (List.mem_append_right _ (List.mem_append_right _ (List.mem_append_left _ h)))
theorem tb_4 {w : Cond} (h : w ∈ tables_1_4) : w ∈ lw_tbl := List.mem_append_right _ (List.mem_append_right _ (List.mem_append_right _ (List.mem_append_right _ (List.mem_append_left _ h))))
theorem tb_5 {w : Cond} (h : w ∈ tables_1_5) : w ∈ lw_tbl := List.mem_append_right _ (List.mem_append_right _ (List.mem_append_right _ (List.mem_append_right _ (List.mem_append_right _ (List.mem_append_left _ h)))))
theorem tb_6 {w : Cond} (h : w ∈ tables_1_6) : w ∈ lw_tbl := List.mem_append_right _ (List.mem_append_right _ (List.mem_append_right _ (List.mem_append_right _ (List.mem_append_right _ (List.mem_append_right _ h)))))
theorem tp_1 {w : Cond} (h : w ∈ k2_sels lw_privs_1) : w ∈ lw_tbl := List.mem_append_left _ (tq_1 h)
theorem tp_2 {w : Cond} (h : w ∈ k2_sels lw_privs_2) : w ∈ lw_tbl := List.mem_append_left _ (tq_2 h)
theorem tp_3 {w : Cond} (h : w ∈ k2_sels lw_privs_3) : w ∈ lw_tbl := List.mem_append_left _ (tq_3 h)
theorem tp_4 {w : Cond} (h : w ∈ k2_sels lw_privs_4) : w ∈ lw_tbl := List.mem_append_left _ (tq_4 h)
theorem wt_0 : Cond.fieldLink RX0 24 RX0 "size" "I" ∈ ah_TT := ah_TT_in (tb_1 (List.mem_of_getElem? (i := 127) rfl)) rfl
theorem wt_1 : Cond.methodLink RX0 65 yX0_has ∈ ah_TT := ah_TT_in (tb_3 (List.mem_of_getElem? (i := 84) rfl)) rfl
theorem wt_2 : Cond.selects RX0 yX0_has yX0_has ∈ ah_TT := ah_TT_in (tb_3 (List.mem_of_getElem? (i := 4) rfl)) rfl
theorem wt_3 : Cond.instanceMethod yX0_has ∈ ah_TT := ah_TT_in (tb_3 (List.mem_of_getElem? (i := 3) rfl)) rfl
theorem wt_4 : Cond.initialized RX0 ∈ ah_TT := ah_TT_in (tb_1 (List.mem_of_getElem? (i := 3) rfl)) rfl
theorem wt_5 : Cond.code yX0_has cX0_has 2 (some .boolean) ∈ ah_TT := ah_TT_in (tb_3 (List.mem_of_getElem? (i := 5) rfl)) rfl
theorem wt_6 : Cond.fieldLink RX0 11 RX0 "singles" "[LGloveSaint$Single;" ∈ ah_TT := ah_TT_in (tb_1 (List.mem_of_getElem? (i := 120) rfl)) rfl
theorem wt_7 : Cond.fieldLink RX0 69 RX8 "mate" "I" ∈ ah_TT := ah_TT_in (tb_1 (List.mem_of_getElem? (i := 109) rfl)) rfl
theorem wt_8 : Cond.fieldLink RX1 9 RX1 "hand" "I" ∈ ah_TT := ah_TT_in (tb_1 (List.mem_of_getElem? (i := 84) rfl)) rfl
theorem wt_9 : Cond.sameField RX1 RX8 "hand" "I" ∈ ah_TT := ah_TT_in (tb_1 (List.mem_of_getElem? (i := 85) rfl)) rfl
theorem wt_10 : Cond.fieldLink RX1 15 RX8 "hand" "I" ∈ ah_TT := ah_TT_in (tb_1 (List.mem_of_getElem? (i := 88) rfl)) rfl
theorem wt_11 : Cond.classLink RX1 10 RX1 ∈ ah_TT := ah_TT_in (tb_3 (List.mem_of_getElem? (i := 42) rfl)) rfl
theorem wt_12 : Cond.fieldLink RX5 9 RX5 "hand" "I" ∈ ah_TT := ah_TT_in (tb_1 (List.mem_of_getElem? (i := 86) rfl)) rfl
theorem wt_13 : Cond.sameField RX5 RX8 "hand" "I" ∈ ah_TT := ah_TT_in (tb_1 (List.mem_of_getElem? (i := 87) rfl)) rfl
theorem wt_14 : Cond.fieldLink RX5 15 RX8 "hand" "I" ∈ ah_TT := ah_TT_in (tb_1 (List.mem_of_getElem? (i := 89) rfl)) rfl
theorem wt_15 : Cond.fieldLink RX5 16 RX5 "size" "I" ∈ ah_TT := ah_TT_in (tb_1 (List.mem_of_getElem? (i := 97) rfl)) rfl
theorem wt_16 : Cond.sameField RX5 RX8 "size" "I" ∈ ah_TT := ah_TT_in (tb_1 (List.mem_of_getElem? (i := 98) rfl)) rfl
theorem wt_17 : Cond.fieldLink RX5 19 RX8 "size" "I" ∈ ah_TT := ah_TT_in (tb_1 (List.mem_of_getElem? (i := 99) rfl)) rfl
theorem wt_18 : Cond.fieldLink RX8 15 RX8 "hand" "I" ∈ ah_TT := ah_TT_in (tb_1 (List.mem_of_getElem? (i := 83) rfl)) rfl
theorem wt_19 : Cond.classLink RX9 9 RX9 ∈ ah_TT := ah_TT_in (tb_3 (List.mem_of_getElem? (i := 50) rfl)) rfl
theorem wt_20 : Cond.fieldLink RX8 18 RX8 "size" "I" ∈ ah_TT := ah_TT_in (tb_1 (List.mem_of_getElem? (i := 92) rfl)) rfl
theorem wt_21 : Cond.methodLink RX8 24 yJ9_abs_0f7a4 ∈ ah_TT := ah_TT_in (tb_3 (List.mem_of_getElem? (i := 66) rfl)) rfl
theorem wt_22 : Cond.static Lib.Math.abs.name ∈ ah_TT := ah_TT_in (tb_3 (List.mem_of_getElem? (i := 61) rfl)) rfl
theorem wt_23 : Cond.initialized RJ9 ∈ ah_TT := ah_TT_in (tb_1 (List.mem_of_getElem? (i := 12) rfl)) rfl
theorem wt_24 : Cond.code Lib.Math.abs.name Lib.Math.abs.code 1 (some .int) ∈ ah_TT := ah_TT_in (tb_3 (List.mem_of_getElem? (i := 62) rfl)) rfl
theorem wt_25 : Cond.fieldLink RX3 9 RX3 "size" "I" ∈ ah_TT := ah_TT_in (tb_1 (List.mem_of_getElem? (i := 94) rfl)) rfl
theorem wt_26 : Cond.sameField RX3 RX8 "size" "I" ∈ ah_TT := ah_TT_in (tb_1 (List.mem_of_getElem? (i := 95) rfl)) rfl
theorem wt_27 : Cond.fieldLink RX3 15 RX8 "size" "I" ∈ ah_TT := ah_TT_in (tb_1 (List.mem_of_getElem? (i := 96) rfl)) rfl
theorem wt_28 : Cond.methodLink RX3 18 yJ9_abs_0f7a4 ∈ ah_TT := ah_TT_in (tb_3 (List.mem_of_getElem? (i := 60) rfl)) rfl
theorem wt_29 : Cond.methodLink RX0 75 yX8_takes ∈ ah_TT := ah_TT_in (tb_3 (List.mem_of_getElem? (i := 35) rfl)) rfl
theorem wt_30 : Cond.sameMethod RX8 RX8 "takes" "(LGloveSaint$Single;)Z" ∈ ah_TT := ah_TT_in (tb_3 (List.mem_of_getElem? (i := 38) rfl)) rfl
theorem wt_31 : Cond.instanceMethod yX8_takes ∈ ah_TT := ah_TT_in (tb_3 (List.mem_of_getElem? (i := 36) rfl)) rfl
theorem wt_32 : Cond.selects RX1 yX8_takes yX1_takes ∈ ah_TT := ah_TT_in (tb_3 (List.mem_of_getElem? (i := 39) rfl)) rfl
theorem wt_33 : Cond.instanceMethod yX1_takes ∈ ah_TT := ah_TT_in (tb_3 (List.mem_of_getElem? (i := 40) rfl)) rfl
theorem wt_34 : Cond.initialized RX1 ∈ ah_TT := ah_TT_in (tb_1 (List.mem_of_getElem? (i := 16) rfl)) rfl
theorem wt_35 : Cond.code yX1_takes cX1_takes 2 (some .boolean) ∈ ah_TT := ah_TT_in (tb_3 (List.mem_of_getElem? (i := 41) rfl)) rfl
theorem wt_36 : Cond.code yX8_takes cX8_takes 2 (some .boolean) ∈ ah_TT := ah_TT_in (tb_3 (List.mem_of_getElem? (i := 51) rfl)) rfl
theorem wt_37 : Cond.selects RX3 yX8_takes yX1_takes ∈ ah_TT := ah_TT_in (tb_3 (List.mem_of_getElem? (i := 43) rfl)) rfl
theorem wt_38 : Cond.selects RX5 yX8_takes yX5_takes ∈ ah_TT := ah_TT_in (tb_3 (List.mem_of_getElem? (i := 44) rfl)) rfl
theorem wt_39 : Cond.instanceMethod yX5_takes ∈ ah_TT := ah_TT_in (tb_3 (List.mem_of_getElem? (i := 45) rfl)) rfl
theorem wt_40 : Cond.initialized RX5 ∈ ah_TT := ah_TT_in (tb_1 (List.mem_of_getElem? (i := 18) rfl)) rfl
theorem wt_41 : Cond.code yX5_takes cX5_takes 2 (some .boolean) ∈ ah_TT := ah_TT_in (tb_3 (List.mem_of_getElem? (i := 46) rfl)) rfl
theorem wt_42 : Cond.selects RX8 yX8_takes yX8_takes ∈ ah_TT := ah_TT_in (tb_3 (List.mem_of_getElem? (i := 37) rfl)) rfl
theorem wt_43 : Cond.initialized RX8 ∈ ah_TT := ah_TT_in (tb_1 (List.mem_of_getElem? (i := 5) rfl)) rfl
theorem wt_44 : Cond.selects RX9 yX8_takes yX9_takes ∈ ah_TT := ah_TT_in (tb_3 (List.mem_of_getElem? (i := 47) rfl)) rfl
theorem wt_45 : Cond.instanceMethod yX9_takes ∈ ah_TT := ah_TT_in (tb_3 (List.mem_of_getElem? (i := 48) rfl)) rfl
theorem wt_46 : Cond.initialized RX9 ∈ ah_TT := ah_TT_in (tb_1 (List.mem_of_getElem? (i := 17) rfl)) rfl
theorem wt_47 : Cond.code yX9_takes cX9_takes 2 (some .boolean) ∈ ah_TT := ah_TT_in (tb_3 (List.mem_of_getElem? (i := 49) rfl)) rfl
theorem wt_48 : Cond.methodLink RX0 79 yX8_distanceTo ∈ ah_TT := ah_TT_in (tb_3 (List.mem_of_getElem? (i := 52) rfl)) rfl
theorem wt_49 : Cond.sameMethod RX8 RX8 "distanceTo" "(LGloveSaint$Single;)I" ∈ ah_TT := ah_TT_in (tb_3 (List.mem_of_getElem? (i := 55) rfl)) rfl
theorem wt_50 : Cond.instanceMethod yX8_distanceTo ∈ ah_TT := ah_TT_in (tb_3 (List.mem_of_getElem? (i := 53) rfl)) rfl
theorem wt_51 : Cond.selects RX1 yX8_distanceTo yX8_distanceTo ∈ ah_TT := ah_TT_in (tb_3 (List.mem_of_getElem? (i := 56) rfl)) rfl
theorem wt_52 : Cond.code yX8_distanceTo cX8_distanceTo 2 (some .int) ∈ ah_TT := ah_TT_in (tb_3 (List.mem_of_getElem? (i := 65) rfl)) rfl
theorem wt_53 : Cond.selects RX3 yX8_distanceTo yX3_distanceTo ∈ ah_TT := ah_TT_in (tb_3 (List.mem_of_getElem? (i := 57) rfl)) rfl
theorem wt_54 : Cond.instanceMethod yX3_distanceTo ∈ ah_TT := ah_TT_in (tb_3 (List.mem_of_getElem? (i := 58) rfl)) rfl
theorem wt_55 : Cond.initialized RX3 ∈ ah_TT := ah_TT_in (tb_1 (List.mem_of_getElem? (i := 19) rfl)) rfl
theorem wt_56 : Cond.code yX3_distanceTo cX3_distanceTo 2 (some .int) ∈ ah_TT := ah_TT_in (tb_3 (List.mem_of_getElem? (i := 59) rfl)) rfl
theorem wt_57 : Cond.selects RX5 yX8_distanceTo yX8_distanceTo ∈ ah_TT := ah_TT_in (tb_3 (List.mem_of_getElem? (i := 63) rfl)) rfl
theorem wt_58 : Cond.selects RX8 yX8_distanceTo yX8_distanceTo ∈ ah_TT := ah_TT_in (tb_3 (List.mem_of_getElem? (i := 54) rfl)) rfl
theorem wt_59 : Cond.selects RX9 yX8_distanceTo yX8_distanceTo ∈ ah_TT := ah_TT_in (tb_3 (List.mem_of_getElem? (i := 64) rfl)) rfl
theorem wt_60 : Cond.methodLink RX0 72 yX0_likenessOf ∈ ah_TT := ah_TT_in (tb_3 (List.mem_of_getElem? (i := 31) rfl)) rfl
theorem wt_61 : Cond.selects RX0 yX0_likenessOf yX0_likenessOf ∈ ah_TT := ah_TT_in (tb_3 (List.mem_of_getElem? (i := 33) rfl)) rfl
theorem wt_62 : Cond.instanceMethod yX0_likenessOf ∈ ah_TT := ah_TT_in (tb_3 (List.mem_of_getElem? (i := 32) rfl)) rfl
theorem wt_63 : Cond.code yX0_likenessOf cX0_likenessOf 5 (some .int) ∈ ah_TT := ah_TT_in (tb_3 (List.mem_of_getElem? (i := 34) rfl)) rfl
theorem wt_64 : Cond.fieldLink RX0 83 RX8 "size" "I" ∈ ah_TT := ah_TT_in (tb_1 (List.mem_of_getElem? (i := 101) rfl)) rfl
theorem wt_65 : Cond.methodLink RX0 84 yX0_mayPair ∈ ah_TT := ah_TT_in (tb_3 (List.mem_of_getElem? (i := 27) rfl)) rfl
theorem wt_66 : Cond.selects RX0 yX0_mayPair yX0_mayPair ∈ ah_TT := ah_TT_in (tb_3 (List.mem_of_getElem? (i := 29) rfl)) rfl
theorem wt_67 : Cond.instanceMethod yX0_mayPair ∈ ah_TT := ah_TT_in (tb_3 (List.mem_of_getElem? (i := 28) rfl)) rfl
theorem wt_68 : Cond.code yX0_mayPair cX0_mayPair 3 (some .boolean) ∈ ah_TT := ah_TT_in (tb_3 (List.mem_of_getElem? (i := 30) rfl)) rfl
theorem wt_69 : Cond.fieldLink RX0 88 RX8 "station" "I" ∈ ah_TT := ah_TT_in (tb_1 (List.mem_of_getElem? (i := 106) rfl)) rfl
theorem wt_70 : Cond.methodLink RX0 91 yJ9_abs_0f7a4 ∈ ah_TT := ah_TT_in (tb_3 (List.mem_of_getElem? (i := 79) rfl)) rfl
theorem wt_71 : Cond.methodLink RX0 95 yX0_isPaired ∈ ah_TT := ah_TT_in (tb_3 (List.mem_of_getElem? (i := 80) rfl)) rfl
theorem wt_72 : Cond.selects RX0 yX0_isPaired yX0_isPaired ∈ ah_TT := ah_TT_in (tb_3 (List.mem_of_getElem? (i := 82) rfl)) rfl
theorem wt_73 : Cond.instanceMethod yX0_isPaired ∈ ah_TT := ah_TT_in (tb_3 (List.mem_of_getElem? (i := 81) rfl)) rfl
theorem wt_74 : Cond.code yX0_isPaired cX0_isPaired 2 (some .boolean) ∈ ah_TT := ah_TT_in (tb_3 (List.mem_of_getElem? (i := 83) rfl)) rfl
theorem wt_75 : Cond.methodLink RX0 98 yX0_seersAt ∈ ah_TT := ah_TT_in (tb_3 (List.mem_of_getElem? (i := 75) rfl)) rfl
theorem wt_76 : Cond.selects RX0 yX0_seersAt yX0_seersAt ∈ ah_TT := ah_TT_in (tb_3 (List.mem_of_getElem? (i := 77) rfl)) rfl
theorem wt_77 : Cond.instanceMethod yX0_seersAt ∈ ah_TT := ah_TT_in (tb_3 (List.mem_of_getElem? (i := 76) rfl)) rfl
theorem wt_78 : Cond.code yX0_seersAt cX0_seersAt 6 (some .int) ∈ ah_TT := ah_TT_in (tb_3 (List.mem_of_getElem? (i := 78) rfl)) rfl
theorem wt_79 : Cond.fieldLink RX0 28 RX0 "miles" "I" ∈ ah_TT := ah_TT_in (tb_1 (List.mem_of_getElem? (i := 133) rfl)) rfl
theorem wt_80 : Cond.fieldLink RX0 40 RX0 "formerMates" "[I" ∈ ah_TT := ah_TT_in (tb_1 (List.mem_of_getElem? (i := 145) rfl)) rfl
theorem wt_81 : Cond.methodLink RX0 101 yX0_newMateOf ∈ ah_TT := ah_TT_in (tb_3 (List.mem_of_getElem? (i := 183) rfl)) rfl
theorem wt_82 : Cond.selects RX0 yX0_newMateOf yX0_newMateOf ∈ ah_TT := ah_TT_in (tp_1 (List.mem_of_getElem? (i := 2) rfl)) rfl
theorem wt_83 : Cond.instanceMethod yX0_newMateOf ∈ ah_TT := ah_TT_in (tb_3 (List.mem_of_getElem? (i := 185) rfl)) rfl
theorem wt_84 : Cond.code yX0_newMateOf cX0_newMateOf 4 (some .int) ∈ ah_TT := ah_TT_in (tb_3 (List.mem_of_getElem? (i := 186) rfl)) rfl
theorem wt_85 : Cond.methodLink RX0 104 yX0_pairUp ∈ ah_TT := ah_TT_in (tb_3 (List.mem_of_getElem? (i := 187) rfl)) rfl
theorem wt_86 : Cond.selects RX0 yX0_pairUp yX0_pairUp ∈ ah_TT := ah_TT_in (tb_3 (List.mem_of_getElem? (i := 157) rfl)) rfl
theorem wt_87 : Cond.instanceMethod yX0_pairUp ∈ ah_TT := ah_TT_in (tb_3 (List.mem_of_getElem? (i := 156) rfl)) rfl
theorem wt_88 : Cond.code yX0_pairUp cX0_pairUp 3 none ∈ ah_TT := ah_TT_in (tb_3 (List.mem_of_getElem? (i := 158) rfl)) rfl
theorem wt_89 : Cond.methodLink RX0 52 yJ9_min_7cf53 ∈ ah_TT := ah_TT_in (tb_2 (List.mem_of_getElem? (i := 183) rfl)) rfl
theorem wt_90 : Cond.static Lib.Math.min.name ∈ ah_TT := ah_TT_in (tb_2 (List.mem_of_getElem? (i := 111) rfl)) rfl
theorem wt_91 : Cond.code Lib.Math.min.name Lib.Math.min.code 2 (some .int) ∈ ah_TT := ah_TT_in (tb_2 (List.mem_of_getElem? (i := 112) rfl)) rfl
theorem wt_92 : Cond.methodLink RX0 108 yJ9_max_7cf53 ∈ ah_TT := ah_TT_in (tb_4 (List.mem_of_getElem? (i := 30) rfl)) rfl
theorem wt_93 : Cond.static Lib.Math.max.name ∈ ah_TT := ah_TT_in (tb_2 (List.mem_of_getElem? (i := 108) rfl)) rfl
theorem wt_94 : Cond.code Lib.Math.max.name Lib.Math.max.code 2 (some .int) ∈ ah_TT := ah_TT_in (tb_2 (List.mem_of_getElem? (i := 109) rfl)) rfl
theorem wt_95 : Cond.constant RJ6 265 (1431655765) ∈ ah_TT := ah_TT_in (tb_4 (List.mem_of_getElem? (i := 122) rfl)) rfl
theorem wt_96 : Cond.constant RJ6 266 (858993459) ∈ ah_TT := ah_TT_in (tb_4 (List.mem_of_getElem? (i := 123) rfl)) rfl
theorem wt_97 : Cond.constant RJ6 267 (252645135) ∈ ah_TT := ah_TT_in (tb_4 (List.mem_of_getElem? (i := 124) rfl)) rfl
theorem wt_98 : Cond.methodLink RX0 111 yX0_matchesOf ∈ ah_TT := ah_TT_in (tb_4 (List.mem_of_getElem? (i := 118) rfl)) rfl
theorem wt_99 : Cond.selects RX0 yX0_matchesOf yX0_matchesOf ∈ ah_TT := ah_TT_in (tb_3 (List.mem_of_getElem? (i := 25) rfl)) rfl
theorem wt_100 : Cond.instanceMethod yX0_matchesOf ∈ ah_TT := ah_TT_in (tb_3 (List.mem_of_getElem? (i := 24) rfl)) rfl
theorem wt_101 : Cond.code yX0_matchesOf cX0_matchesOf 4 (some .int) ∈ ah_TT := ah_TT_in (tb_3 (List.mem_of_getElem? (i := 26) rfl)) rfl
theorem wt_102 : Cond.methodLink RX0 114 yJ6_bitCount_0f7a4 ∈ ah_TT := ah_TT_in (tb_4 (List.mem_of_getElem? (i := 119) rfl)) rfl
theorem wt_103 : Cond.static yJ6_bitCount_0f7a4 ∈ ah_TT := ah_TT_in (tb_4 (List.mem_of_getElem? (i := 120) rfl)) rfl
theorem wt_104 : Cond.initialized RJ6 ∈ ah_TT := ah_TT_in (tb_1 (List.mem_of_getElem? (i := 22) rfl)) rfl
theorem wt_105 : Cond.code yJ6_bitCount_0f7a4 cJ6_bitCount_0f7a4 1 (some .int) ∈ ah_TT := ah_TT_in (tb_4 (List.mem_of_getElem? (i := 121) rfl)) rfl
theorem wt_106 : Cond.fieldLink RX0 122 RX8 "hand" "I" ∈ ah_TT := ah_TT_in (tb_1 (List.mem_of_getElem? (i := 91) rfl)) rfl
theorem wt_107 : Cond.methodLink RX0 119 yX0_alone ∈ ah_TT := ah_TT_in (tb_4 (List.mem_of_getElem? (i := 43) rfl)) rfl
theorem wt_108 : Cond.selects RX0 yX0_alone yX0_alone ∈ ah_TT := ah_TT_in (tb_4 (List.mem_of_getElem? (i := 45) rfl)) rfl
theorem wt_109 : Cond.instanceMethod yX0_alone ∈ ah_TT := ah_TT_in (tb_4 (List.mem_of_getElem? (i := 44) rfl)) rfl
theorem wt_110 : Cond.code yX0_alone cX0_alone 4 (some .int) ∈ ah_TT := ah_TT_in (tb_4 (List.mem_of_getElem? (i := 46) rfl)) rfl
theorem wt_111 : Cond.fieldLink RX7 9 RX7 "size" "I" ∈ ah_TT := ah_TT_in (tb_1 (List.mem_of_getElem? (i := 61) rfl)) rfl
theorem wt_112 : Cond.fieldLink RX7 15 RX7 "ones" "[I" ∈ ah_TT := ah_TT_in (tb_1 (List.mem_of_getElem? (i := 63) rfl)) rfl
theorem wt_113 : Cond.fieldLink RX7 19 RX7 "others" "[I" ∈ ah_TT := ah_TT_in (tb_1 (List.mem_of_getElem? (i := 64) rfl)) rfl
theorem wt_114 : Cond.fieldLink RX7 22 RX7 "likenesses" "[I" ∈ ah_TT := ah_TT_in (tb_1 (List.mem_of_getElem? (i := 65) rfl)) rfl
theorem wt_115 : Cond.fieldLink RX2 45 RX0 "size" "I" ∈ ah_TT := ah_TT_in (tb_1 (List.mem_of_getElem? (i := 128) rfl)) rfl
theorem wt_116 : Cond.fieldLink RX2 15 RX2 "sizes" "[I" ∈ ah_TT := ah_TT_in (tb_1 (List.mem_of_getElem? (i := 173) rfl)) rfl
theorem wt_117 : Cond.fieldLink RX2 50 RX0 "singles" "[LGloveSaint$Single;" ∈ ah_TT := ah_TT_in (tb_1 (List.mem_of_getElem? (i := 121) rfl)) rfl
theorem wt_118 : Cond.fieldLink RX2 54 RX8 "size" "I" ∈ ah_TT := ah_TT_in (tb_1 (List.mem_of_getElem? (i := 93) rfl)) rfl
theorem wt_119 : Cond.fieldLink RX2 19 RX2 "stations" "[I" ∈ ah_TT := ah_TT_in (tb_1 (List.mem_of_getElem? (i := 174) rfl)) rfl
theorem wt_120 : Cond.fieldLink RX2 57 RX8 "station" "I" ∈ ah_TT := ah_TT_in (tb_1 (List.mem_of_getElem? (i := 103) rfl)) rfl
theorem wt_121 : Cond.fieldLink RX2 22 RX2 "mates" "[I" ∈ ah_TT := ah_TT_in (tb_1 (List.mem_of_getElem? (i := 175) rfl)) rfl
theorem wt_122 : Cond.fieldLink RX2 60 RX8 "mate" "I" ∈ ah_TT := ah_TT_in (tb_1 (List.mem_of_getElem? (i := 108) rfl)) rfl
theorem wt_123 : Cond.fieldLink RX2 28 RX2 "seen" "LGloveSaint$Seen;" ∈ ah_TT := ah_TT_in (tb_1 (List.mem_of_getElem? (i := 176) rfl)) rfl
theorem wt_124 : Cond.fieldLink RX2 63 RX0 "seen" "LGloveSaint$Seen;" ∈ ah_TT := ah_TT_in (tb_1 (List.mem_of_getElem? (i := 125) rfl)) rfl
theorem wt_125 : Cond.methodLink RX2 64 yX7_copyFrom ∈ ah_TT := ah_TT_in (tb_4 (List.mem_of_getElem? (i := 94) rfl)) rfl
theorem wt_126 : Cond.selects RX7 yX7_copyFrom yX7_copyFrom ∈ ah_TT := ah_TT_in (tb_4 (List.mem_of_getElem? (i := 96) rfl)) rfl
theorem wt_127 : Cond.instanceMethod yX7_copyFrom ∈ ah_TT := ah_TT_in (tb_4 (List.mem_of_getElem? (i := 95) rfl)) rfl
theorem wt_128 : Cond.initialized RX7 ∈ ah_TT := ah_TT_in (tb_1 (List.mem_of_getElem? (i := 4) rfl)) rfl
theorem wt_129 : Cond.code yX7_copyFrom cX7_copyFrom 3 none ∈ ah_TT := ah_TT_in (tb_4 (List.mem_of_getElem? (i := 97) rfl)) rfl
theorem wt_130 : Cond.fieldLink RX2 68 RX0 "miles" "I" ∈ ah_TT := ah_TT_in (tb_1 (List.mem_of_getElem? (i := 134) rfl)) rfl
theorem wt_131 : Cond.fieldLink RX2 32 RX2 "miles" "I" ∈ ah_TT := ah_TT_in (tb_1 (List.mem_of_getElem? (i := 177) rfl)) rfl
theorem wt_132 : Cond.fieldLink RX2 69 RX0 "timesBrought" "I" ∈ ah_TT := ah_TT_in (tb_1 (List.mem_of_getElem? (i := 137) rfl)) rfl
theorem wt_133 : Cond.fieldLink RX2 36 RX2 "timesBrought" "I" ∈ ah_TT := ah_TT_in (tb_1 (List.mem_of_getElem? (i := 178) rfl)) rfl
theorem wt_134 : Cond.fieldLink RX2 70 RX0 "timesParted" "I" ∈ ah_TT := ah_TT_in (tb_1 (List.mem_of_getElem? (i := 140) rfl)) rfl
theorem wt_135 : Cond.fieldLink RX2 39 RX2 "timesParted" "I" ∈ ah_TT := ah_TT_in (tb_1 (List.mem_of_getElem? (i := 179) rfl)) rfl
theorem wt_136 : Cond.fieldLink RX2 71 RX0 "timesMay" "I" ∈ ah_TT := ah_TT_in (tb_1 (List.mem_of_getElem? (i := 143) rfl)) rfl
theorem wt_137 : Cond.fieldLink RX2 42 RX2 "timesMay" "I" ∈ ah_TT := ah_TT_in (tb_1 (List.mem_of_getElem? (i := 180) rfl)) rfl
theorem wt_138 : Cond.fieldLink RX2 9 RX2 "isThere" "Z" ∈ ah_TT := ah_TT_in (tb_1 (List.mem_of_getElem? (i := 171) rfl)) rfl
theorem wt_139 : Cond.fieldLink RX4 15 RX4 "length" "I" ∈ ah_TT := ah_TT_in (tb_1 (List.mem_of_getElem? (i := 39) rfl)) rfl
theorem wt_140 : Cond.fieldLink RX4 11 RX4 "codes" "[I" ∈ ah_TT := ah_TT_in (tb_1 (List.mem_of_getElem? (i := 37) rfl)) rfl
theorem wt_141 : Cond.methodLink RX4 29 yJ0_indexOf_0f7a4 ∈ ah_TT := ah_TT_in (tb_2 (List.mem_of_getElem? (i := 79) rfl)) rfl
theorem wt_142 : Cond.methodLink RX4 19 yX4_mayStandAt ∈ ah_TT := ah_TT_in (tb_2 (List.mem_of_getElem? (i := 75) rfl)) rfl
theorem wt_143 : Cond.static yX4_mayStandAt ∈ ah_TT := ah_TT_in (tb_2 (List.mem_of_getElem? (i := 76) rfl)) rfl
theorem wt_144 : Cond.initialized RX4 ∈ ah_TT := ah_TT_in (tb_1 (List.mem_of_getElem? (i := 2) rfl)) rfl
theorem wt_145 : Cond.code yX4_mayStandAt cX4_mayStandAt 2 (some .boolean) ∈ ah_TT := ah_TT_in (tb_2 (List.mem_of_getElem? (i := 77) rfl)) rfl
theorem wt_146 : Cond.methodLink RX4 23 yX4_firstFault ∈ ah_TT := ah_TT_in (tb_2 (List.mem_of_getElem? (i := 174) rfl)) rfl
theorem wt_147 : Cond.selects RX4 yX4_firstFault yX4_firstFault ∈ ah_TT := ah_TT_in (tb_2 (List.mem_of_getElem? (i := 73) rfl)) rfl
theorem wt_148 : Cond.instanceMethod yX4_firstFault ∈ ah_TT := ah_TT_in (tb_2 (List.mem_of_getElem? (i := 72) rfl)) rfl
theorem wt_149 : Cond.code yX4_firstFault cX4_firstFault 2 (some .int) ∈ ah_TT := ah_TT_in (tb_2 (List.mem_of_getElem? (i := 74) rfl)) rfl
theorem wt_150 : Cond.fieldLink RX6 9 RX6 "found" "[I" ∈ ah_TT := ah_TT_in (tb_1 (List.mem_of_getElem? (i := 216) rfl)) rfl
theorem wt_151 : Cond.fieldLink RX6 62 RX0 "size" "I" ∈ ah_TT := ah_TT_in (tb_1 (List.mem_of_getElem? (i := 130) rfl)) rfl
theorem wt_152 : Cond.fieldLink RX6 67 RX6 "size" "I" ∈ ah_TT := ah_TT_in (tb_1 (List.mem_of_getElem? (i := 220) rfl)) rfl
theorem wt_153 : Cond.fieldLink RX6 23 RX6 "stations" "[I" ∈ ah_TT := ah_TT_in (tb_1 (List.mem_of_getElem? (i := 219) rfl)) rfl
theorem wt_154 : Cond.fieldLink RX6 68 RX0 "singles" "[LGloveSaint$Single;" ∈ ah_TT := ah_TT_in (tb_1 (List.mem_of_getElem? (i := 122) rfl)) rfl
theorem wt_155 : Cond.fieldLink RX6 72 RX8 "station" "I" ∈ ah_TT := ah_TT_in (tb_1 (List.mem_of_getElem? (i := 104) rfl)) rfl
theorem wt_156 : Cond.methodLink RX6 77 yX0_isPaired ∈ ah_TT := ah_TT_in (tb_3 (List.mem_of_getElem? (i := 208) rfl)) rfl
theorem wt_157 : Cond.fieldLink RX6 20 RX6 "like" "[[I" ∈ ah_TT := ah_TT_in (tb_1 (List.mem_of_getElem? (i := 218) rfl)) rfl
theorem wt_158 : Cond.methodLink RX6 81 yX0_likenessOf ∈ ah_TT := ah_TT_in (tb_3 (List.mem_of_getElem? (i := 209) rfl)) rfl
theorem wt_159 : Cond.fieldLink RX6 15 RX6 "row" "[I" ∈ ah_TT := ah_TT_in (tb_1 (List.mem_of_getElem? (i := 217) rfl)) rfl
theorem wt_160 : Cond.methodLink RX6 109 yX6_wouldLeaveFor ∈ ah_TT := ah_TT_in (tb_3 (List.mem_of_getElem? (i := 222) rfl)) rfl
theorem wt_161 : Cond.selects RX6 yX6_wouldLeaveFor yX6_wouldLeaveFor ∈ ah_TT := ah_TT_in (tp_1 (List.mem_of_getElem? (i := 7) rfl)) rfl
theorem wt_162 : Cond.instanceMethod yX6_wouldLeaveFor ∈ ah_TT := ah_TT_in (tb_3 (List.mem_of_getElem? (i := 224) rfl)) rfl
theorem wt_163 : Cond.initialized RX6 ∈ ah_TT := ah_TT_in (tb_1 (List.mem_of_getElem? (i := 7) rfl)) rfl
theorem wt_164 : Cond.code yX6_wouldLeaveFor cX6_wouldLeaveFor 5 (some .boolean) ∈ ah_TT := ah_TT_in (tb_3 (List.mem_of_getElem? (i := 225) rfl)) rfl
theorem wt_165 : Cond.fieldLink RX6 26 RX6 "goal" "I" ∈ ah_TT := ah_TT_in (tb_1 (List.mem_of_getElem? (i := 221) rfl)) rfl
theorem wt_166 : Cond.methodLink RX6 95 yX6_isBlocked ∈ ah_TT := ah_TT_in (tb_3 (List.mem_of_getElem? (i := 218) rfl)) rfl
theorem wt_167 : Cond.selects RX6 yX6_isBlocked yX6_isBlocked ∈ ah_TT := ah_TT_in (tp_1 (List.mem_of_getElem? (i := 6) rfl)) rfl
theorem wt_168 : Cond.instanceMethod yX6_isBlocked ∈ ah_TT := ah_TT_in (tb_3 (List.mem_of_getElem? (i := 220) rfl)) rfl
theorem wt_169 : Cond.code yX6_isBlocked cX6_isBlocked 3 (some .boolean) ∈ ah_TT := ah_TT_in (tb_3 (List.mem_of_getElem? (i := 221) rfl)) rfl
theorem wt_170 : Cond.fieldLink RX6 33 RX6 "howMany" "I" ∈ ah_TT := ah_TT_in (tb_1 (List.mem_of_getElem? (i := 208) rfl)) rfl
theorem wt_171 : Cond.methodLink RX6 99 yX6_rankOf ∈ ah_TT := ah_TT_in (tb_3 (List.mem_of_getElem? (i := 226) rfl)) rfl
theorem wt_172 : Cond.selects RX6 yX6_rankOf yX6_rankOf ∈ ah_TT := ah_TT_in (tp_1 (List.mem_of_getElem? (i := 8) rfl)) rfl
theorem wt_173 : Cond.instanceMethod yX6_rankOf ∈ ah_TT := ah_TT_in (tb_3 (List.mem_of_getElem? (i := 228) rfl)) rfl
theorem wt_174 : Cond.code yX6_rankOf cX6_rankOf 4 (some .int) ∈ ah_TT := ah_TT_in (tb_3 (List.mem_of_getElem? (i := 229) rfl)) rfl
theorem wt_175 : Cond.fieldLink RX6 45 RX6 "foundRank" "I" ∈ ah_TT := ah_TT_in (tb_1 (List.mem_of_getElem? (i := 223) rfl)) rfl
theorem wt_176 : Cond.fieldLink RX6 36 RX6 "pairs" "I" ∈ ah_TT := ah_TT_in (tb_1 (List.mem_of_getElem? (i := 210) rfl)) rfl
theorem wt_177 : Cond.fieldLink RX6 39 RX6 "likenessSum" "I" ∈ ah_TT := ah_TT_in (tb_1 (List.mem_of_getElem? (i := 212) rfl)) rfl
theorem wt_178 : Cond.fieldLink RX6 42 RX6 "miles" "I" ∈ ah_TT := ah_TT_in (tb_1 (List.mem_of_getElem? (i := 214) rfl)) rfl
theorem wt_179 : Cond.methodLink RX6 103 ⟨"java/lang/System", "arraycopy", "(Ljava/lang/Object;ILjava/lang/Object;II)V"⟩ ∈ ah_TT := ah_TT_in (tb_3 (List.mem_of_getElem? (i := 230) rfl)) rfl
theorem wt_180 : Cond.native arraycopyName ∈ ah_TT := ah_TT_in (tb_3 (List.mem_of_getElem? (i := 232) rfl)) rfl
theorem wt_181 : Cond.static arraycopyName ∈ ah_TT := ah_TT_in (tb_3 (List.mem_of_getElem? (i := 231) rfl)) rfl
theorem wt_182 : Cond.initialized RJ10 ∈ ah_TT := ah_TT_in (tb_1 (List.mem_of_getElem? (i := 21) rfl)) rfl
theorem wt_183 : Cond.fieldLink RX6 30 RX6 "milesAllowed" "I" ∈ ah_TT := ah_TT_in (tb_1 (List.mem_of_getElem? (i := 222) rfl)) rfl
theorem wt_184 : Cond.methodLink RX6 85 yX6_judge ∈ ah_TT := ah_TT_in (tb_3 (List.mem_of_getElem? (i := 214) rfl)) rfl
theorem wt_185 : Cond.selects RX6 yX6_judge yX6_judge ∈ ah_TT := ah_TT_in (tp_1 (List.mem_of_getElem? (i := 5) rfl)) rfl
theorem wt_186 : Cond.instanceMethod yX6_judge ∈ ah_TT := ah_TT_in (tb_3 (List.mem_of_getElem? (i := 216) rfl)) rfl
theorem wt_187 : Cond.code yX6_judge cX6_judge 5 none ∈ ah_TT := ah_TT_in (tb_3 (List.mem_of_getElem? (i := 217) rfl)) rfl
theorem wt_188 : Cond.methodLink RX6 58 yX6_place ∈ ah_TT := ah_TT_in (tb_3 (List.mem_of_getElem? (i := 210) rfl)) rfl
theorem wt_189 : Cond.selects RX6 yX6_place yX6_place ∈ ah_TT := ah_TT_in (tp_1 (List.mem_of_getElem? (i := 4) rfl)) rfl
theorem wt_190 : Cond.instanceMethod yX6_place ∈ ah_TT := ah_TT_in (tb_3 (List.mem_of_getElem? (i := 212) rfl)) rfl
theorem wt_191 : Cond.code yX6_place cX6_place 7 none ∈ ah_TT := ah_TT_in (tb_3 (List.mem_of_getElem? (i := 213) rfl)) rfl
theorem wt_192 : Cond.methodLink RX6 89 yJ9_abs_0f7a4 ∈ ah_TT := ah_TT_in (tb_3 (List.mem_of_getElem? (i := 233) rfl)) rfl
theorem wt_193 : Cond.methodLink RX6 48 yJ7_fill_53178 ∈ ah_TT := ah_TT_in (tb_3 (List.mem_of_getElem? (i := 203) rfl)) rfl
theorem wt_194 : Cond.static yJ7_fill_53178 ∈ ah_TT := ah_TT_in (tb_3 (List.mem_of_getElem? (i := 107) rfl)) rfl
theorem wt_195 : Cond.initialized RJ7 ∈ ah_TT := ah_TT_in (tb_1 (List.mem_of_getElem? (i := 20) rfl)) rfl
theorem wt_196 : Cond.code yJ7_fill_53178 cJ7_fill_53178 4 none ∈ ah_TT := ah_TT_in (tb_3 (List.mem_of_getElem? (i := 108) rfl)) rfl
theorem wt_197 : Cond.methodLink RX6 54 yX6_learn ∈ ah_TT := ah_TT_in (tb_3 (List.mem_of_getElem? (i := 204) rfl)) rfl
theorem wt_198 : Cond.selects RX6 yX6_learn yX6_learn ∈ ah_TT := ah_TT_in (tp_1 (List.mem_of_getElem? (i := 3) rfl)) rfl
theorem wt_199 : Cond.instanceMethod yX6_learn ∈ ah_TT := ah_TT_in (tb_3 (List.mem_of_getElem? (i := 206) rfl)) rfl
theorem wt_200 : Cond.code yX6_learn cX6_learn 5 none ∈ ah_TT := ah_TT_in (tb_3 (List.mem_of_getElem? (i := 207) rfl)) rfl
theorem wt_201 : Cond.methodLink RX7 32 yX0_likenessAt ∈ ah_TT := ah_TT_in (tb_3 (List.mem_of_getElem? (i := 94) rfl)) rfl
theorem wt_202 : Cond.selects RX0 yX0_likenessAt yX0_likenessAt ∈ ah_TT := ah_TT_in (tb_3 (List.mem_of_getElem? (i := 96) rfl)) rfl
theorem wt_203 : Cond.instanceMethod yX0_likenessAt ∈ ah_TT := ah_TT_in (tb_3 (List.mem_of_getElem? (i := 95) rfl)) rfl
theorem wt_204 : Cond.code yX0_likenessAt cX0_likenessAt 6 (some .int) ∈ ah_TT := ah_TT_in (tb_3 (List.mem_of_getElem? (i := 97) rfl)) rfl
theorem wt_205 : Cond.methodLink RX7 28 yX7_agrees ∈ ah_TT := ah_TT_in (tb_3 (List.mem_of_getElem? (i := 90) rfl)) rfl
theorem wt_206 : Cond.selects RX7 yX7_agrees yX7_agrees ∈ ah_TT := ah_TT_in (tp_1 (List.mem_of_getElem? (i := 0) rfl)) rfl
theorem wt_207 : Cond.instanceMethod yX7_agrees ∈ ah_TT := ah_TT_in (tb_3 (List.mem_of_getElem? (i := 92) rfl)) rfl
theorem wt_208 : Cond.code yX7_agrees cX7_agrees 5 (some .boolean) ∈ ah_TT := ah_TT_in (tb_3 (List.mem_of_getElem? (i := 93) rfl)) rfl
theorem wt_209 : Cond.fieldLink RX7 25 RX7 "left" "[I" ∈ ah_TT := ah_TT_in (tb_1 (List.mem_of_getElem? (i := 66) rfl)) rfl
theorem wt_210 : Cond.methodLink RX7 43 yJ7_fill_53178 ∈ ah_TT := ah_TT_in (tb_3 (List.mem_of_getElem? (i := 106) rfl)) rfl
theorem wt_211 : Cond.methodLink RX7 49 yJ9_max_7cf53 ∈ ah_TT := ah_TT_in (tb_3 (List.mem_of_getElem? (i := 109) rfl)) rfl
theorem wt_212 : Cond.fieldLink RX7 38 RX0 "size" "I" ∈ ah_TT := ah_TT_in (tb_1 (List.mem_of_getElem? (i := 132) rfl)) rfl
theorem wt_213 : Cond.methodLink RX7 39 yX7_leftAtWorst ∈ ah_TT := ah_TT_in (tb_3 (List.mem_of_getElem? (i := 102) rfl)) rfl
theorem wt_214 : Cond.selects RX7 yX7_leftAtWorst yX7_leftAtWorst ∈ ah_TT := ah_TT_in (tp_1 (List.mem_of_getElem? (i := 1) rfl)) rfl
theorem wt_215 : Cond.instanceMethod yX7_leftAtWorst ∈ ah_TT := ah_TT_in (tb_3 (List.mem_of_getElem? (i := 104) rfl)) rfl
theorem wt_216 : Cond.code yX7_leftAtWorst cX7_leftAtWorst 8 (some .int) ∈ ah_TT := ah_TT_in (tb_3 (List.mem_of_getElem? (i := 105) rfl)) rfl
theorem wt_217 : Cond.constantLong RX10 51 (1103515245) ∈ ah_TT := ah_TT_in (tb_4 (List.mem_of_getElem? (i := 76) rfl)) rfl
theorem wt_218 : Cond.fieldLink RX10 22 RX10 "seed" "J" ∈ ah_TT := ah_TT_in (tb_2 (List.mem_of_getElem? (i := 19) rfl)) rfl
theorem wt_219 : Cond.constantLong RX10 53 (12345) ∈ ah_TT := ah_TT_in (tb_4 (List.mem_of_getElem? (i := 77) rfl)) rfl
theorem wt_220 : Cond.constantLong RX10 55 (2147483648) ∈ ah_TT := ah_TT_in (tb_4 (List.mem_of_getElem? (i := 78) rfl)) rfl
theorem wt_221 : Cond.constantLong RX10 57 (65536) ∈ ah_TT := ah_TT_in (tb_4 (List.mem_of_getElem? (i := 79) rfl)) rfl
theorem wt_222 : Cond.methodLink RX10 43 yX0_hasTwo ∈ ah_TT := ah_TT_in (tb_4 (List.mem_of_getElem? (i := 84) rfl)) rfl
theorem wt_223 : Cond.selects RX0 yX0_hasTwo yX0_hasTwo ∈ ah_TT := ah_TT_in (tb_3 (List.mem_of_getElem? (i := 127) rfl)) rfl
theorem wt_224 : Cond.instanceMethod yX0_hasTwo ∈ ah_TT := ah_TT_in (tb_3 (List.mem_of_getElem? (i := 126) rfl)) rfl
theorem wt_225 : Cond.code yX0_hasTwo cX0_hasTwo 3 (some .boolean) ∈ ah_TT := ah_TT_in (tb_3 (List.mem_of_getElem? (i := 128) rfl)) rfl
theorem wt_226 : Cond.fieldLink RX10 9 RX10 "taken" "[Z" ∈ ah_TT := ah_TT_in (tb_2 (List.mem_of_getElem? (i := 21) rfl)) rfl
theorem wt_227 : Cond.methodLink RX10 47 yX0_likenessOf ∈ ah_TT := ah_TT_in (tb_4 (List.mem_of_getElem? (i := 85) rfl)) rfl
theorem wt_228 : Cond.fieldLink RX10 15 RX10 "pairs" "I" ∈ ah_TT := ah_TT_in (tb_2 (List.mem_of_getElem? (i := 15) rfl)) rfl
theorem wt_229 : Cond.fieldLink RX10 19 RX10 "likenessSum" "I" ∈ ah_TT := ah_TT_in (tb_2 (List.mem_of_getElem? (i := 17) rfl)) rfl
theorem wt_230 : Cond.fieldLink RX10 26 RX0 "size" "I" ∈ ah_TT := ah_TT_in (tb_1 (List.mem_of_getElem? (i := 129) rfl)) rfl
theorem wt_231 : Cond.methodLink RX10 31 yX0_isPaired ∈ ah_TT := ah_TT_in (tb_4 (List.mem_of_getElem? (i := 71) rfl)) rfl
theorem wt_232 : Cond.methodLink RX10 35 yX10_draw ∈ ah_TT := ah_TT_in (tb_4 (List.mem_of_getElem? (i := 72) rfl)) rfl
theorem wt_233 : Cond.selects RX10 yX10_draw yX10_draw ∈ ah_TT := ah_TT_in (tp_1 (List.mem_of_getElem? (i := 12) rfl)) rfl
theorem wt_234 : Cond.instanceMethod yX10_draw ∈ ah_TT := ah_TT_in (tb_4 (List.mem_of_getElem? (i := 74) rfl)) rfl
theorem wt_235 : Cond.initialized RX10 ∈ ah_TT := ah_TT_in (tb_1 (List.mem_of_getElem? (i := 8) rfl)) rfl
theorem wt_236 : Cond.code yX10_draw cX10_draw 2 (some .int) ∈ ah_TT := ah_TT_in (tb_4 (List.mem_of_getElem? (i := 75) rfl)) rfl
theorem wt_237 : Cond.methodLink RX10 39 yX10_meet ∈ ah_TT := ah_TT_in (tb_4 (List.mem_of_getElem? (i := 80) rfl)) rfl
theorem wt_238 : Cond.selects RX10 yX10_meet yX10_meet ∈ ah_TT := ah_TT_in (tp_1 (List.mem_of_getElem? (i := 13) rfl)) rfl
theorem wt_239 : Cond.instanceMethod yX10_meet ∈ ah_TT := ah_TT_in (tb_4 (List.mem_of_getElem? (i := 82) rfl)) rfl
theorem wt_240 : Cond.code yX10_meet cX10_meet 5 none ∈ ah_TT := ah_TT_in (tb_4 (List.mem_of_getElem? (i := 83) rfl)) rfl
theorem wt_241 : Cond.fieldLink RX11 10 RX11 "page" "LGloveSaint$Page;" ∈ ah_TT := ah_TT_in (tb_2 (List.mem_of_getElem? (i := 32) rfl)) rfl
theorem wt_242 : Cond.methodLink RX11 48 yX4_write ∈ ah_TT := ah_TT_in (tb_2 (List.mem_of_getElem? (i := 55) rfl)) rfl
theorem wt_243 : Cond.selects RX4 yX4_write yX4_write ∈ ah_TT := ah_TT_in (tb_2 (List.mem_of_getElem? (i := 57) rfl)) rfl
theorem wt_244 : Cond.instanceMethod yX4_write ∈ ah_TT := ah_TT_in (tb_2 (List.mem_of_getElem? (i := 56) rfl)) rfl
theorem wt_245 : Cond.code yX4_write cX4_write 2 (some .boolean) ∈ ah_TT := ah_TT_in (tb_2 (List.mem_of_getElem? (i := 58) rfl)) rfl
theorem wt_246 : Cond.fieldLink RX11 52 RX4 "length" "I" ∈ ah_TT := ah_TT_in (tb_1 (List.mem_of_getElem? (i := 40) rfl)) rfl
theorem wt_247 : Cond.methodLink RX11 55 yX4_clear ∈ ah_TT := ah_TT_in (tb_2 (List.mem_of_getElem? (i := 63) rfl)) rfl
theorem wt_248 : Cond.selects RX4 yX4_clear yX4_clear ∈ ah_TT := ah_TT_in (tb_2 (List.mem_of_getElem? (i := 65) rfl)) rfl
theorem wt_249 : Cond.instanceMethod yX4_clear ∈ ah_TT := ah_TT_in (tb_2 (List.mem_of_getElem? (i := 64) rfl)) rfl
theorem wt_250 : Cond.code yX4_clear cX4_clear 1 none ∈ ah_TT := ah_TT_in (tb_2 (List.mem_of_getElem? (i := 66) rfl)) rfl
theorem wt_251 : Cond.methodLink RX11 58 yX4_firstFault ∈ ah_TT := ah_TT_in (tb_2 (List.mem_of_getElem? (i := 71) rfl)) rfl
theorem wt_252 : Cond.fieldLink RX11 19 RX11 "shown" "LGloveSaint$Drawer;" ∈ ah_TT := ah_TT_in (tb_2 (List.mem_of_getElem? (i := 33) rfl)) rfl
theorem wt_253 : Cond.methodLink RX11 77 yX0_has ∈ ah_TT := ah_TT_in (tb_3 (List.mem_of_getElem? (i := 2) rfl)) rfl
theorem wt_254 : Cond.fieldLink RX11 80 RX0 "singles" "[LGloveSaint$Single;" ∈ ah_TT := ah_TT_in (tb_1 (List.mem_of_getElem? (i := 123) rfl)) rfl
theorem wt_255 : Cond.methodLink RX11 84 yX8_kindNumber ∈ ah_TT := ah_TT_in (tb_3 (List.mem_of_getElem? (i := 6) rfl)) rfl
theorem wt_256 : Cond.sameMethod RX8 RX8 "kindNumber" "()I" ∈ ah_TT := ah_TT_in (tb_3 (List.mem_of_getElem? (i := 9) rfl)) rfl
theorem wt_257 : Cond.instanceMethod yX8_kindNumber ∈ ah_TT := ah_TT_in (tb_3 (List.mem_of_getElem? (i := 7) rfl)) rfl
theorem wt_258 : Cond.selects RX1 yX8_kindNumber yX1_kindNumber ∈ ah_TT := ah_TT_in (tb_3 (List.mem_of_getElem? (i := 10) rfl)) rfl
theorem wt_259 : Cond.instanceMethod yX1_kindNumber ∈ ah_TT := ah_TT_in (tb_3 (List.mem_of_getElem? (i := 11) rfl)) rfl
theorem wt_260 : Cond.code yX1_kindNumber cX1_kindNumber 1 (some .int) ∈ ah_TT := ah_TT_in (tb_3 (List.mem_of_getElem? (i := 12) rfl)) rfl
theorem wt_261 : Cond.code yX8_kindNumber cX8_kindNumber 1 (some .int) ∈ ah_TT := ah_TT_in (tb_3 (List.mem_of_getElem? (i := 22) rfl)) rfl
theorem wt_262 : Cond.selects RX3 yX8_kindNumber yX3_kindNumber ∈ ah_TT := ah_TT_in (tb_3 (List.mem_of_getElem? (i := 13) rfl)) rfl
theorem wt_263 : Cond.instanceMethod yX3_kindNumber ∈ ah_TT := ah_TT_in (tb_3 (List.mem_of_getElem? (i := 14) rfl)) rfl
theorem wt_264 : Cond.code yX3_kindNumber cX3_kindNumber 1 (some .int) ∈ ah_TT := ah_TT_in (tb_3 (List.mem_of_getElem? (i := 15) rfl)) rfl
theorem wt_265 : Cond.selects RX5 yX8_kindNumber yX5_kindNumber ∈ ah_TT := ah_TT_in (tb_3 (List.mem_of_getElem? (i := 16) rfl)) rfl
theorem wt_266 : Cond.instanceMethod yX5_kindNumber ∈ ah_TT := ah_TT_in (tb_3 (List.mem_of_getElem? (i := 17) rfl)) rfl
theorem wt_267 : Cond.code yX5_kindNumber cX5_kindNumber 1 (some .int) ∈ ah_TT := ah_TT_in (tb_3 (List.mem_of_getElem? (i := 18) rfl)) rfl
theorem wt_268 : Cond.selects RX8 yX8_kindNumber yX8_kindNumber ∈ ah_TT := ah_TT_in (tb_3 (List.mem_of_getElem? (i := 8) rfl)) rfl
theorem wt_269 : Cond.selects RX9 yX8_kindNumber yX9_kindNumber ∈ ah_TT := ah_TT_in (tb_3 (List.mem_of_getElem? (i := 19) rfl)) rfl
theorem wt_270 : Cond.instanceMethod yX9_kindNumber ∈ ah_TT := ah_TT_in (tb_3 (List.mem_of_getElem? (i := 20) rfl)) rfl
theorem wt_271 : Cond.code yX9_kindNumber cX9_kindNumber 1 (some .int) ∈ ah_TT := ah_TT_in (tb_3 (List.mem_of_getElem? (i := 21) rfl)) rfl
theorem wt_272 : Cond.fieldLink RX11 89 RX8 "hand" "I" ∈ ah_TT := ah_TT_in (tb_1 (List.mem_of_getElem? (i := 90) rfl)) rfl
theorem wt_273 : Cond.fieldLink RX11 92 RX8 "size" "I" ∈ ah_TT := ah_TT_in (tb_1 (List.mem_of_getElem? (i := 100) rfl)) rfl
theorem wt_274 : Cond.fieldLink RX11 93 RX8 "station" "I" ∈ ah_TT := ah_TT_in (tb_1 (List.mem_of_getElem? (i := 105) rfl)) rfl
theorem wt_275 : Cond.fieldLink RX11 96 RX8 "mate" "I" ∈ ah_TT := ah_TT_in (tb_1 (List.mem_of_getElem? (i := 110) rfl)) rfl
theorem wt_276 : Cond.methodLink RX11 99 yX0_matchesOf ∈ ah_TT := ah_TT_in (tb_3 (List.mem_of_getElem? (i := 23) rfl)) rfl
theorem wt_277 : Cond.methodLink RX11 103 yX0_favouriteOf ∈ ah_TT := ah_TT_in (tb_3 (List.mem_of_getElem? (i := 67) rfl)) rfl
theorem wt_278 : Cond.selects RX0 yX0_favouriteOf yX0_favouriteOf ∈ ah_TT := ah_TT_in (tb_3 (List.mem_of_getElem? (i := 69) rfl)) rfl
theorem wt_279 : Cond.instanceMethod yX0_favouriteOf ∈ ah_TT := ah_TT_in (tb_3 (List.mem_of_getElem? (i := 68) rfl)) rfl
theorem wt_280 : Cond.code yX0_favouriteOf cX0_favouriteOf 6 (some .int) ∈ ah_TT := ah_TT_in (tb_3 (List.mem_of_getElem? (i := 70) rfl)) rfl
theorem wt_281 : Cond.methodLink RX11 106 yX0_spikeOf ∈ ah_TT := ah_TT_in (tb_3 (List.mem_of_getElem? (i := 71) rfl)) rfl
theorem wt_282 : Cond.selects RX0 yX0_spikeOf yX0_spikeOf ∈ ah_TT := ah_TT_in (tb_3 (List.mem_of_getElem? (i := 73) rfl)) rfl
theorem wt_283 : Cond.instanceMethod yX0_spikeOf ∈ ah_TT := ah_TT_in (tb_3 (List.mem_of_getElem? (i := 72) rfl)) rfl
theorem wt_284 : Cond.code yX0_spikeOf cX0_spikeOf 6 (some .int) ∈ ah_TT := ah_TT_in (tb_3 (List.mem_of_getElem? (i := 74) rfl)) rfl
theorem wt_285 : Cond.methodLink RX11 109 yX0_seersAt ∈ ah_TT := ah_TT_in (tb_3 (List.mem_of_getElem? (i := 85) rfl)) rfl
theorem wt_286 : Cond.fieldLink RX11 113 RX0 "seen" "LGloveSaint$Seen;" ∈ ah_TT := ah_TT_in (tb_1 (List.mem_of_getElem? (i := 126) rfl)) rfl
theorem wt_287 : Cond.methodLink RX11 117 yX7_sizesOf ∈ ah_TT := ah_TT_in (tb_3 (List.mem_of_getElem? (i := 86) rfl)) rfl
theorem wt_288 : Cond.selects RX7 yX7_sizesOf yX7_sizesOf ∈ ah_TT := ah_TT_in (tb_3 (List.mem_of_getElem? (i := 88) rfl)) rfl
theorem wt_289 : Cond.instanceMethod yX7_sizesOf ∈ ah_TT := ah_TT_in (tb_3 (List.mem_of_getElem? (i := 87) rfl)) rfl
theorem wt_290 : Cond.code yX7_sizesOf cX7_sizesOf 5 (some .int) ∈ ah_TT := ah_TT_in (tb_3 (List.mem_of_getElem? (i := 89) rfl)) rfl
theorem wt_291 : Cond.methodLink RX11 123 yX7_lookOf ∈ ah_TT := ah_TT_in (tb_3 (List.mem_of_getElem? (i := 98) rfl)) rfl
theorem wt_292 : Cond.selects RX7 yX7_lookOf yX7_lookOf ∈ ah_TT := ah_TT_in (tb_3 (List.mem_of_getElem? (i := 100) rfl)) rfl
theorem wt_293 : Cond.instanceMethod yX7_lookOf ∈ ah_TT := ah_TT_in (tb_3 (List.mem_of_getElem? (i := 99) rfl)) rfl
theorem wt_294 : Cond.code yX7_lookOf cX7_lookOf 8 (some .int) ∈ ah_TT := ah_TT_in (tb_3 (List.mem_of_getElem? (i := 101) rfl)) rfl
theorem wt_295 : Cond.classLink RX11 279 RX1 ∈ ah_TT := ah_TT_in (tb_3 (List.mem_of_getElem? (i := 117) rfl)) rfl
theorem wt_296 : Cond.classLink RX11 281 RX9 ∈ ah_TT := ah_TT_in (tb_3 (List.mem_of_getElem? (i := 118) rfl)) rfl
theorem wt_297 : Cond.classLink RX11 283 RX5 ∈ ah_TT := ah_TT_in (tb_3 (List.mem_of_getElem? (i := 119) rfl)) rfl
theorem wt_298 : Cond.classLink RX11 285 RX3 ∈ ah_TT := ah_TT_in (tb_3 (List.mem_of_getElem? (i := 120) rfl)) rfl
theorem wt_299 : Cond.methodLink RX11 127 yX11_isOfKind ∈ ah_TT := ah_TT_in (tb_3 (List.mem_of_getElem? (i := 114) rfl)) rfl
theorem wt_300 : Cond.static yX11_isOfKind ∈ ah_TT := ah_TT_in (tb_3 (List.mem_of_getElem? (i := 115) rfl)) rfl
theorem wt_301 : Cond.initialized RX11 ∈ ah_TT := ah_TT_in (tb_1 (List.mem_of_getElem? (i := 1) rfl)) rfl
theorem wt_302 : Cond.code yX11_isOfKind cX11_isOfKind 2 (some .boolean) ∈ ah_TT := ah_TT_in (tb_3 (List.mem_of_getElem? (i := 116) rfl)) rfl
theorem wt_303 : Cond.methodLink RX11 131 yX0_hasTwo ∈ ah_TT := ah_TT_in (tb_3 (List.mem_of_getElem? (i := 125) rfl)) rfl
theorem wt_304 : Cond.methodLink RX11 135 yX0_likenessOf ∈ ah_TT := ah_TT_in (tb_3 (List.mem_of_getElem? (i := 129) rfl)) rfl
theorem wt_305 : Cond.methodLink RX11 138 yX8_distanceTo ∈ ah_TT := ah_TT_in (tb_3 (List.mem_of_getElem? (i := 134) rfl)) rfl
theorem wt_306 : Cond.methodLink RX11 142 yX11_isStation ∈ ah_TT := ah_TT_in (tb_3 (List.mem_of_getElem? (i := 139) rfl)) rfl
theorem wt_307 : Cond.static yX11_isStation ∈ ah_TT := ah_TT_in (tb_3 (List.mem_of_getElem? (i := 140) rfl)) rfl
theorem wt_308 : Cond.code yX11_isStation cX11_isStation 1 (some .boolean) ∈ ah_TT := ah_TT_in (tb_3 (List.mem_of_getElem? (i := 141) rfl)) rfl
theorem wt_309 : Cond.methodLink RX11 145 yX0_isPaired ∈ ah_TT := ah_TT_in (tb_3 (List.mem_of_getElem? (i := 142) rfl)) rfl
theorem wt_310 : Cond.methodLink RX11 148 yX0_carryTo ∈ ah_TT := ah_TT_in (tb_3 (List.mem_of_getElem? (i := 143) rfl)) rfl
theorem wt_311 : Cond.selects RX0 yX0_carryTo yX0_carryTo ∈ ah_TT := ah_TT_in (tb_3 (List.mem_of_getElem? (i := 145) rfl)) rfl
theorem wt_312 : Cond.instanceMethod yX0_carryTo ∈ ah_TT := ah_TT_in (tb_3 (List.mem_of_getElem? (i := 144) rfl)) rfl
theorem wt_313 : Cond.code yX0_carryTo cX0_carryTo 4 (some .int) ∈ ah_TT := ah_TT_in (tb_3 (List.mem_of_getElem? (i := 146) rfl)) rfl
theorem wt_314 : Cond.methodLink RX11 151 yX0_canMeet ∈ ah_TT := ah_TT_in (tb_3 (List.mem_of_getElem? (i := 151) rfl)) rfl
theorem wt_315 : Cond.selects RX0 yX0_canMeet yX0_canMeet ∈ ah_TT := ah_TT_in (tb_3 (List.mem_of_getElem? (i := 153) rfl)) rfl
theorem wt_316 : Cond.instanceMethod yX0_canMeet ∈ ah_TT := ah_TT_in (tb_3 (List.mem_of_getElem? (i := 152) rfl)) rfl
theorem wt_317 : Cond.code yX0_canMeet cX0_canMeet 3 (some .boolean) ∈ ah_TT := ah_TT_in (tb_3 (List.mem_of_getElem? (i := 154) rfl)) rfl
theorem wt_318 : Cond.methodLink RX11 154 yX0_pairUp ∈ ah_TT := ah_TT_in (tb_3 (List.mem_of_getElem? (i := 155) rfl)) rfl
theorem wt_319 : Cond.fieldLink RX11 158 RX0 "timesBrought" "I" ∈ ah_TT := ah_TT_in (tb_1 (List.mem_of_getElem? (i := 138) rfl)) rfl
theorem wt_320 : Cond.methodLink RX11 161 yX0_separate ∈ ah_TT := ah_TT_in (tb_3 (List.mem_of_getElem? (i := 163) rfl)) rfl
theorem wt_321 : Cond.selects RX0 yX0_separate yX0_separate ∈ ah_TT := ah_TT_in (tb_3 (List.mem_of_getElem? (i := 165) rfl)) rfl
theorem wt_322 : Cond.instanceMethod yX0_separate ∈ ah_TT := ah_TT_in (tb_3 (List.mem_of_getElem? (i := 164) rfl)) rfl
theorem wt_323 : Cond.code yX0_separate cX0_separate 3 none ∈ ah_TT := ah_TT_in (tb_3 (List.mem_of_getElem? (i := 166) rfl)) rfl
theorem wt_324 : Cond.fieldLink RX11 165 RX0 "timesParted" "I" ∈ ah_TT := ah_TT_in (tb_1 (List.mem_of_getElem? (i := 141) rfl)) rfl
theorem wt_325 : Cond.methodLink RX11 168 yX0_isMissing ∈ ah_TT := ah_TT_in (tb_3 (List.mem_of_getElem? (i := 175) rfl)) rfl
theorem wt_326 : Cond.selects RX0 yX0_isMissing yX0_isMissing ∈ ah_TT := ah_TT_in (tb_3 (List.mem_of_getElem? (i := 177) rfl)) rfl
theorem wt_327 : Cond.instanceMethod yX0_isMissing ∈ ah_TT := ah_TT_in (tb_3 (List.mem_of_getElem? (i := 176) rfl)) rfl
theorem wt_328 : Cond.code yX0_isMissing cX0_isMissing 1 (some .boolean) ∈ ah_TT := ah_TT_in (tb_3 (List.mem_of_getElem? (i := 178) rfl)) rfl
theorem wt_329 : Cond.methodLink RX11 171 yX0_swapMates ∈ ah_TT := ah_TT_in (tb_3 (List.mem_of_getElem? (i := 179) rfl)) rfl
theorem wt_330 : Cond.selects RX0 yX0_swapMates yX0_swapMates ∈ ah_TT := ah_TT_in (tb_3 (List.mem_of_getElem? (i := 181) rfl)) rfl
theorem wt_331 : Cond.instanceMethod yX0_swapMates ∈ ah_TT := ah_TT_in (tb_3 (List.mem_of_getElem? (i := 180) rfl)) rfl
theorem wt_332 : Cond.code yX0_swapMates cX0_swapMates 3 none ∈ ah_TT := ah_TT_in (tb_3 (List.mem_of_getElem? (i := 182) rfl)) rfl
theorem wt_333 : Cond.fieldLink RX11 174 RX0 "timesMay" "I" ∈ ah_TT := ah_TT_in (tb_1 (List.mem_of_getElem? (i := 144) rfl)) rfl
theorem wt_334 : Cond.methodLink RX11 177 yX0_pairs ∈ ah_TT := ah_TT_in (tb_3 (List.mem_of_getElem? (i := 188) rfl)) rfl
theorem wt_335 : Cond.selects RX0 yX0_pairs yX0_pairs ∈ ah_TT := ah_TT_in (tb_3 (List.mem_of_getElem? (i := 190) rfl)) rfl
theorem wt_336 : Cond.instanceMethod yX0_pairs ∈ ah_TT := ah_TT_in (tb_3 (List.mem_of_getElem? (i := 189) rfl)) rfl
theorem wt_337 : Cond.code yX0_pairs cX0_pairs 3 (some .int) ∈ ah_TT := ah_TT_in (tb_3 (List.mem_of_getElem? (i := 191) rfl)) rfl
theorem wt_338 : Cond.fieldLink RX11 33 RX11 "rows" "LGloveSaint$Rows;" ∈ ah_TT := ah_TT_in (tb_2 (List.mem_of_getElem? (i := 35) rfl)) rfl
theorem wt_339 : Cond.fieldLink RX11 270 RX6 "pairs" "I" ∈ ah_TT := ah_TT_in (tb_1 (List.mem_of_getElem? (i := 211) rfl)) rfl
theorem wt_340 : Cond.fieldLink RX11 271 RX6 "likenessSum" "I" ∈ ah_TT := ah_TT_in (tb_1 (List.mem_of_getElem? (i := 213) rfl)) rfl
theorem wt_341 : Cond.methodLink RX11 272 yX6_mateOf ∈ ah_TT := ah_TT_in (tb_3 (List.mem_of_getElem? (i := 238) rfl)) rfl
theorem wt_342 : Cond.selects RX6 yX6_mateOf yX6_mateOf ∈ ah_TT := ah_TT_in (tb_4 (List.mem_of_getElem? (i := 0) rfl)) rfl
theorem wt_343 : Cond.instanceMethod yX6_mateOf ∈ ah_TT := ah_TT_in (tb_3 (List.mem_of_getElem? (i := 239) rfl)) rfl
theorem wt_344 : Cond.code yX6_mateOf cX6_mateOf 2 (some .int) ∈ ah_TT := ah_TT_in (tb_4 (List.mem_of_getElem? (i := 1) rfl)) rfl
theorem wt_345 : Cond.methodLink RX11 180 yX11_isRowQuestion ∈ ah_TT := ah_TT_in (tb_3 (List.mem_of_getElem? (i := 196) rfl)) rfl
theorem wt_346 : Cond.static yX11_isRowQuestion ∈ ah_TT := ah_TT_in (tb_3 (List.mem_of_getElem? (i := 197) rfl)) rfl
theorem wt_347 : Cond.code yX11_isRowQuestion cX11_isRowQuestion 1 (some .boolean) ∈ ah_TT := ah_TT_in (tb_3 (List.mem_of_getElem? (i := 198) rfl)) rfl
theorem wt_348 : Cond.methodLink RX11 183 yX6_seek ∈ ah_TT := ah_TT_in (tb_3 (List.mem_of_getElem? (i := 199) rfl)) rfl
theorem wt_349 : Cond.selects RX6 yX6_seek yX6_seek ∈ ah_TT := ah_TT_in (tb_3 (List.mem_of_getElem? (i := 201) rfl)) rfl
theorem wt_350 : Cond.instanceMethod yX6_seek ∈ ah_TT := ah_TT_in (tb_3 (List.mem_of_getElem? (i := 200) rfl)) rfl
theorem wt_351 : Cond.code yX6_seek cX6_seek 4 none ∈ ah_TT := ah_TT_in (tb_3 (List.mem_of_getElem? (i := 202) rfl)) rfl
theorem wt_352 : Cond.methodLink RX11 187 yX11_mostTold ∈ ah_TT := ah_TT_in (tb_3 (List.mem_of_getElem? (i := 234) rfl)) rfl
theorem wt_353 : Cond.selects RX11 yX11_mostTold yX11_mostTold ∈ ah_TT := ah_TT_in (tp_1 (List.mem_of_getElem? (i := 9) rfl)) rfl
theorem wt_354 : Cond.instanceMethod yX11_mostTold ∈ ah_TT := ah_TT_in (tb_3 (List.mem_of_getElem? (i := 236) rfl)) rfl
theorem wt_355 : Cond.code yX11_mostTold cX11_mostTold 2 (some .int) ∈ ah_TT := ah_TT_in (tb_3 (List.mem_of_getElem? (i := 237) rfl)) rfl
theorem wt_356 : Cond.fieldLink RX11 275 RX6 "miles" "I" ∈ ah_TT := ah_TT_in (tb_1 (List.mem_of_getElem? (i := 215) rfl)) rfl
theorem wt_357 : Cond.methodLink RX11 190 yX11_bestTold ∈ ah_TT := ah_TT_in (tb_4 (List.mem_of_getElem? (i := 6) rfl)) rfl
theorem wt_358 : Cond.selects RX11 yX11_bestTold yX11_bestTold ∈ ah_TT := ah_TT_in (tp_1 (List.mem_of_getElem? (i := 10) rfl)) rfl
theorem wt_359 : Cond.instanceMethod yX11_bestTold ∈ ah_TT := ah_TT_in (tb_4 (List.mem_of_getElem? (i := 8) rfl)) rfl
theorem wt_360 : Cond.code yX11_bestTold cX11_bestTold 2 (some .int) ∈ ah_TT := ah_TT_in (tb_4 (List.mem_of_getElem? (i := 9) rfl)) rfl
theorem wt_361 : Cond.fieldLink RX11 276 RX6 "howMany" "I" ∈ ah_TT := ah_TT_in (tb_1 (List.mem_of_getElem? (i := 209) rfl)) rfl
theorem wt_362 : Cond.methodLink RX11 193 yX11_stableTold ∈ ah_TT := ah_TT_in (tb_4 (List.mem_of_getElem? (i := 14) rfl)) rfl
theorem wt_363 : Cond.selects RX11 yX11_stableTold yX11_stableTold ∈ ah_TT := ah_TT_in (tp_1 (List.mem_of_getElem? (i := 11) rfl)) rfl
theorem wt_364 : Cond.instanceMethod yX11_stableTold ∈ ah_TT := ah_TT_in (tb_4 (List.mem_of_getElem? (i := 16) rfl)) rfl
theorem wt_365 : Cond.code yX11_stableTold cX11_stableTold 2 (some .int) ∈ ah_TT := ah_TT_in (tb_4 (List.mem_of_getElem? (i := 17) rfl)) rfl
theorem wt_366 : Cond.methodLink RX11 196 yX0_roundFrom ∈ ah_TT := ah_TT_in (tb_4 (List.mem_of_getElem? (i := 26) rfl)) rfl
theorem wt_367 : Cond.selects RX0 yX0_roundFrom yX0_roundFrom ∈ ah_TT := ah_TT_in (tb_4 (List.mem_of_getElem? (i := 28) rfl)) rfl
theorem wt_368 : Cond.instanceMethod yX0_roundFrom ∈ ah_TT := ah_TT_in (tb_4 (List.mem_of_getElem? (i := 27) rfl)) rfl
theorem wt_369 : Cond.code yX0_roundFrom cX0_roundFrom 6 (some .int) ∈ ah_TT := ah_TT_in (tb_4 (List.mem_of_getElem? (i := 29) rfl)) rfl
theorem wt_370 : Cond.methodLink RX11 199 yX0_matchesAlone ∈ ah_TT := ah_TT_in (tb_4 (List.mem_of_getElem? (i := 35) rfl)) rfl
theorem wt_371 : Cond.selects RX0 yX0_matchesAlone yX0_matchesAlone ∈ ah_TT := ah_TT_in (tb_4 (List.mem_of_getElem? (i := 37) rfl)) rfl
theorem wt_372 : Cond.instanceMethod yX0_matchesAlone ∈ ah_TT := ah_TT_in (tb_4 (List.mem_of_getElem? (i := 36) rfl)) rfl
theorem wt_373 : Cond.code yX0_matchesAlone cX0_matchesAlone 4 (some .int) ∈ ah_TT := ah_TT_in (tb_4 (List.mem_of_getElem? (i := 38) rfl)) rfl
theorem wt_374 : Cond.methodLink RX11 202 yX0_twosAlone ∈ ah_TT := ah_TT_in (tb_4 (List.mem_of_getElem? (i := 39) rfl)) rfl
theorem wt_375 : Cond.selects RX0 yX0_twosAlone yX0_twosAlone ∈ ah_TT := ah_TT_in (tb_4 (List.mem_of_getElem? (i := 41) rfl)) rfl
theorem wt_376 : Cond.instanceMethod yX0_twosAlone ∈ ah_TT := ah_TT_in (tb_4 (List.mem_of_getElem? (i := 40) rfl)) rfl
theorem wt_377 : Cond.code yX0_twosAlone cX0_twosAlone 2 (some .int) ∈ ah_TT := ah_TT_in (tb_4 (List.mem_of_getElem? (i := 42) rfl)) rfl
theorem wt_378 : Cond.methodLink RX11 205 yX11_commonDivisor ∈ ah_TT := ah_TT_in (tb_4 (List.mem_of_getElem? (i := 47) rfl)) rfl
theorem wt_379 : Cond.static yX11_commonDivisor ∈ ah_TT := ah_TT_in (tb_4 (List.mem_of_getElem? (i := 48) rfl)) rfl
theorem wt_380 : Cond.code yX11_commonDivisor cX11_commonDivisor 3 (some .int) ∈ ah_TT := ah_TT_in (tb_4 (List.mem_of_getElem? (i := 49) rfl)) rfl
theorem wt_381 : Cond.methodLink RX11 208 yX7_note ∈ ah_TT := ah_TT_in (tb_4 (List.mem_of_getElem? (i := 54) rfl)) rfl
theorem wt_382 : Cond.selects RX7 yX7_note yX7_note ∈ ah_TT := ah_TT_in (tb_4 (List.mem_of_getElem? (i := 56) rfl)) rfl
theorem wt_383 : Cond.instanceMethod yX7_note ∈ ah_TT := ah_TT_in (tb_4 (List.mem_of_getElem? (i := 55) rfl)) rfl
theorem wt_384 : Cond.code yX7_note cX7_note 4 (some .boolean) ∈ ah_TT := ah_TT_in (tb_4 (List.mem_of_getElem? (i := 57) rfl)) rfl
theorem wt_385 : Cond.fieldLink RX11 212 RX7 "size" "I" ∈ ah_TT := ah_TT_in (tb_1 (List.mem_of_getElem? (i := 62) rfl)) rfl
theorem wt_386 : Cond.methodLink RX11 213 yX7_clear ∈ ah_TT := ah_TT_in (tb_4 (List.mem_of_getElem? (i := 62) rfl)) rfl
theorem wt_387 : Cond.selects RX7 yX7_clear yX7_clear ∈ ah_TT := ah_TT_in (tb_2 (List.mem_of_getElem? (i := 236) rfl)) rfl
theorem wt_388 : Cond.instanceMethod yX7_clear ∈ ah_TT := ah_TT_in (tb_2 (List.mem_of_getElem? (i := 235) rfl)) rfl
theorem wt_389 : Cond.code yX7_clear cX7_clear 1 none ∈ ah_TT := ah_TT_in (tb_2 (List.mem_of_getElem? (i := 237) rfl)) rfl
theorem wt_390 : Cond.fieldLink RX11 40 RX11 "cold" "LGloveSaint$Winters;" ∈ ah_TT := ah_TT_in (tb_2 (List.mem_of_getElem? (i := 36) rfl)) rfl
theorem wt_391 : Cond.methodLink RX11 214 yX10_pass ∈ ah_TT := ah_TT_in (tb_4 (List.mem_of_getElem? (i := 67) rfl)) rfl
theorem wt_392 : Cond.selects RX10 yX10_pass yX10_pass ∈ ah_TT := ah_TT_in (tb_4 (List.mem_of_getElem? (i := 69) rfl)) rfl
theorem wt_393 : Cond.instanceMethod yX10_pass ∈ ah_TT := ah_TT_in (tb_4 (List.mem_of_getElem? (i := 68) rfl)) rfl
theorem wt_394 : Cond.code yX10_pass cX10_pass 7 none ∈ ah_TT := ah_TT_in (tb_4 (List.mem_of_getElem? (i := 70) rfl)) rfl
theorem wt_395 : Cond.fieldLink RX11 217 RX10 "pairs" "I" ∈ ah_TT := ah_TT_in (tb_2 (List.mem_of_getElem? (i := 16) rfl)) rfl
theorem wt_396 : Cond.fieldLink RX11 219 RX10 "likenessSum" "I" ∈ ah_TT := ah_TT_in (tb_2 (List.mem_of_getElem? (i := 18) rfl)) rfl
theorem wt_397 : Cond.fieldLink RX11 222 RX10 "seed" "J" ∈ ah_TT := ah_TT_in (tb_2 (List.mem_of_getElem? (i := 20) rfl)) rfl
theorem wt_398 : Cond.fieldLink RX11 26 RX11 "kept" "LGloveSaint$Image;" ∈ ah_TT := ah_TT_in (tb_2 (List.mem_of_getElem? (i := 34) rfl)) rfl
theorem wt_399 : Cond.methodLink RX11 226 yX2_keep ∈ ah_TT := ah_TT_in (tb_4 (List.mem_of_getElem? (i := 90) rfl)) rfl
theorem wt_400 : Cond.selects RX2 yX2_keep yX2_keep ∈ ah_TT := ah_TT_in (tb_4 (List.mem_of_getElem? (i := 92) rfl)) rfl
theorem wt_401 : Cond.instanceMethod yX2_keep ∈ ah_TT := ah_TT_in (tb_4 (List.mem_of_getElem? (i := 91) rfl)) rfl
theorem wt_402 : Cond.initialized RX2 ∈ ah_TT := ah_TT_in (tb_1 (List.mem_of_getElem? (i := 6) rfl)) rfl
theorem wt_403 : Cond.code yX2_keep cX2_keep 3 none ∈ ah_TT := ah_TT_in (tb_4 (List.mem_of_getElem? (i := 93) rfl)) rfl
theorem wt_404 : Cond.fieldLink RX11 230 RX0 "miles" "I" ∈ ah_TT := ah_TT_in (tb_1 (List.mem_of_getElem? (i := 135) rfl)) rfl
theorem wt_405 : Cond.fieldLink RX11 70 RX2 "isThere" "Z" ∈ ah_TT := ah_TT_in (tb_1 (List.mem_of_getElem? (i := 172) rfl)) rfl
theorem wt_406 : Cond.methodLink RX11 233 yX2_giveBack ∈ ah_TT := ah_TT_in (tb_4 (List.mem_of_getElem? (i := 102) rfl)) rfl
theorem wt_407 : Cond.selects RX2 yX2_giveBack yX2_giveBack ∈ ah_TT := ah_TT_in (tb_4 (List.mem_of_getElem? (i := 104) rfl)) rfl
theorem wt_408 : Cond.instanceMethod yX2_giveBack ∈ ah_TT := ah_TT_in (tb_4 (List.mem_of_getElem? (i := 103) rfl)) rfl
theorem wt_409 : Cond.code yX2_giveBack cX2_giveBack 3 none ∈ ah_TT := ah_TT_in (tb_4 (List.mem_of_getElem? (i := 105) rfl)) rfl
theorem wt_410 : Cond.fieldLink RX11 74 RX0 "size" "I" ∈ ah_TT := ah_TT_in (tb_1 (List.mem_of_getElem? (i := 131) rfl)) rfl
theorem wt_411 : Cond.methodLink RX11 236 yX0_likenessOfPairs ∈ ah_TT := ah_TT_in (tb_4 (List.mem_of_getElem? (i := 110) rfl)) rfl
theorem wt_412 : Cond.selects RX0 yX0_likenessOfPairs yX0_likenessOfPairs ∈ ah_TT := ah_TT_in (tb_4 (List.mem_of_getElem? (i := 112) rfl)) rfl
theorem wt_413 : Cond.instanceMethod yX0_likenessOfPairs ∈ ah_TT := ah_TT_in (tb_4 (List.mem_of_getElem? (i := 111) rfl)) rfl
theorem wt_414 : Cond.code yX0_likenessOfPairs cX0_likenessOfPairs 4 (some .int) ∈ ah_TT := ah_TT_in (tb_4 (List.mem_of_getElem? (i := 113) rfl)) rfl
theorem wt_415 : Cond.methodLink RX11 239 yX0_matches ∈ ah_TT := ah_TT_in (tb_4 (List.mem_of_getElem? (i := 114) rfl)) rfl
theorem wt_416 : Cond.selects RX0 yX0_matches yX0_matches ∈ ah_TT := ah_TT_in (tb_4 (List.mem_of_getElem? (i := 116) rfl)) rfl
theorem wt_417 : Cond.instanceMethod yX0_matches ∈ ah_TT := ah_TT_in (tb_4 (List.mem_of_getElem? (i := 115) rfl)) rfl
theorem wt_418 : Cond.code yX0_matches cX0_matches 3 (some .int) ∈ ah_TT := ah_TT_in (tb_4 (List.mem_of_getElem? (i := 117) rfl)) rfl
theorem wt_419 : Cond.methodLink RX11 242 yX0_alone ∈ ah_TT := ah_TT_in (tb_4 (List.mem_of_getElem? (i := 125) rfl)) rfl
theorem wt_420 : Cond.fieldLink RX11 44 RX11 "drawersRead" "I" ∈ ah_TT := ah_TT_in (tb_2 (List.mem_of_getElem? (i := 37) rfl)) rfl
theorem wt_421 : Cond.constantLong RX11 268 (31) ∈ ah_TT := ah_TT_in (tb_4 (List.mem_of_getElem? (i := 135) rfl)) rfl
theorem wt_422 : Cond.methodLink RX11 250 yX11_with ∈ ah_TT := ah_TT_in (tb_4 (List.mem_of_getElem? (i := 132) rfl)) rfl
theorem wt_423 : Cond.static yX11_with ∈ ah_TT := ah_TT_in (tb_4 (List.mem_of_getElem? (i := 133) rfl)) rfl
theorem wt_424 : Cond.code yX11_with cX11_with 4 (some .long) ∈ ah_TT := ah_TT_in (tb_4 (List.mem_of_getElem? (i := 134) rfl)) rfl
theorem wt_425 : Cond.constantLong RX11 245 (1129) ∈ ah_TT := ah_TT_in (tb_4 (List.mem_of_getElem? (i := 130) rfl)) rfl
theorem wt_426 : Cond.methodLink RX11 247 yX11_single ∈ ah_TT := ah_TT_in (tb_4 (List.mem_of_getElem? (i := 131) rfl)) rfl
theorem wt_427 : Cond.selects RX11 yX11_single yX11_single ∈ ah_TT := ah_TT_in (tb_3 (List.mem_of_getElem? (i := 0) rfl)) rfl
theorem wt_428 : Cond.instanceMethod yX11_single ∈ ah_TT := ah_TT_in (tb_2 (List.mem_of_getElem? (i := 239) rfl)) rfl
theorem wt_429 : Cond.code yX11_single cX11_single 4 (some .int) ∈ ah_TT := ah_TT_in (tb_3 (List.mem_of_getElem? (i := 1) rfl)) rfl
theorem wt_430 : Cond.methodLink RX11 254 yX11_withRows ∈ ah_TT := ah_TT_in (tb_4 (List.mem_of_getElem? (i := 136) rfl)) rfl
theorem wt_431 : Cond.selects RX11 yX11_withRows yX11_withRows ∈ ah_TT := ah_TT_in (tp_1 (List.mem_of_getElem? (i := 14) rfl)) rfl
theorem wt_432 : Cond.instanceMethod yX11_withRows ∈ ah_TT := ah_TT_in (tb_4 (List.mem_of_getElem? (i := 138) rfl)) rfl
theorem wt_433 : Cond.code yX11_withRows cX11_withRows 6 (some .long) ∈ ah_TT := ah_TT_in (tb_4 (List.mem_of_getElem? (i := 139) rfl)) rfl
theorem wt_434 : Cond.methodLink RX11 258 yX11_odds ∈ ah_TT := ah_TT_in (tb_4 (List.mem_of_getElem? (i := 140) rfl)) rfl
theorem wt_435 : Cond.selects RX11 yX11_odds yX11_odds ∈ ah_TT := ah_TT_in (tb_4 (List.mem_of_getElem? (i := 33) rfl)) rfl
theorem wt_436 : Cond.instanceMethod yX11_odds ∈ ah_TT := ah_TT_in (tb_4 (List.mem_of_getElem? (i := 32) rfl)) rfl
theorem wt_437 : Cond.code yX11_odds cX11_odds 5 (some .int) ∈ ah_TT := ah_TT_in (tb_4 (List.mem_of_getElem? (i := 34) rfl)) rfl
theorem wt_438 : Cond.fieldLink RX11 261 RX4 "codes" "[I" ∈ ah_TT := ah_TT_in (tb_1 (List.mem_of_getElem? (i := 38) rfl)) rfl
theorem wt_439 : Cond.methodLink RX11 265 yX11_count ∈ ah_TT := ah_TT_in (tb_4 (List.mem_of_getElem? (i := 141) rfl)) rfl
theorem wt_440 : Cond.selects RX11 yX11_count yX11_count ∈ ah_TT := ah_TT_in (tb_4 (List.mem_of_getElem? (i := 108) rfl)) rfl
theorem wt_441 : Cond.instanceMethod yX11_count ∈ ah_TT := ah_TT_in (tb_4 (List.mem_of_getElem? (i := 107) rfl)) rfl
theorem wt_442 : Cond.code yX11_count cX11_count 2 (some .int) ∈ ah_TT := ah_TT_in (tb_4 (List.mem_of_getElem? (i := 109) rfl)) rfl
theorem wt_443 : Cond.constantLong RX12 56 (126) ∈ ah_TT := ah_TT_in (tb_5 (List.mem_of_getElem? (i := 3) rfl)) rfl
theorem wt_444 : Cond.methodLink RX12 58 yX12_in ∈ ah_TT := ah_TT_in (tb_5 (List.mem_of_getElem? (i := 4) rfl)) rfl
theorem wt_445 : Cond.static yX12_in ∈ ah_TT := ah_TT_in (tb_5 (List.mem_of_getElem? (i := 5) rfl)) rfl
theorem wt_446 : Cond.initialized RX12 ∈ ah_TT := ah_TT_in (tb_1 (List.mem_of_getElem? (i := 9) rfl)) rfl
theorem wt_447 : Cond.code yX12_in cX12_in 6 (some .boolean) ∈ ah_TT := ah_TT_in (tb_5 (List.mem_of_getElem? (i := 6) rfl)) rfl
theorem wt_448 : Cond.fieldLink RX12 62 RX12 "pageMany" "I" ∈ ah_TT := ah_TT_in (tb_4 (List.mem_of_getElem? (i := 149) rfl)) rfl
theorem wt_449 : Cond.fieldLink RX12 7 RX12 "page" "[I" ∈ ah_TT := ah_TT_in (tb_4 (List.mem_of_getElem? (i := 148) rfl)) rfl
theorem wt_450 : Cond.methodLink RX12 65 yX12_kindBy ∈ ah_TT := ah_TT_in (tb_5 (List.mem_of_getElem? (i := 22) rfl)) rfl
theorem wt_451 : Cond.static yX12_kindBy ∈ ah_TT := ah_TT_in (tb_5 (List.mem_of_getElem? (i := 23) rfl)) rfl
theorem wt_452 : Cond.code yX12_kindBy cX12_kindBy 1 (some .int) ∈ ah_TT := ah_TT_in (tb_5 (List.mem_of_getElem? (i := 24) rfl)) rfl
theorem wt_453 : Cond.constantLong RX12 69 (48) ∈ ah_TT := ah_TT_in (tb_5 (List.mem_of_getElem? (i := 25) rfl)) rfl
theorem wt_454 : Cond.constantLong RX12 71 (49) ∈ ah_TT := ah_TT_in (tb_5 (List.mem_of_getElem? (i := 26) rfl)) rfl
theorem wt_455 : Cond.constantLong RX12 73 (57) ∈ ah_TT := ah_TT_in (tb_5 (List.mem_of_getElem? (i := 27) rfl)) rfl
theorem wt_456 : Cond.constantLong RX12 75 (53) ∈ ah_TT := ah_TT_in (tb_5 (List.mem_of_getElem? (i := 28) rfl)) rfl
theorem wt_457 : Cond.methodLink RX12 77 yX12_isGood ∈ ah_TT := ah_TT_in (tb_5 (List.mem_of_getElem? (i := 19) rfl)) rfl
theorem wt_458 : Cond.static yX12_isGood ∈ ah_TT := ah_TT_in (tb_5 (List.mem_of_getElem? (i := 20) rfl)) rfl
theorem wt_459 : Cond.code yX12_isGood cX12_isGood 2 (some .boolean) ∈ ah_TT := ah_TT_in (tb_5 (List.mem_of_getElem? (i := 21) rfl)) rfl
theorem wt_460 : Cond.methodLink RX12 81 yX12_faultOf ∈ ah_TT := ah_TT_in (tb_5 (List.mem_of_getElem? (i := 15) rfl)) rfl
theorem wt_461 : Cond.selects RX12 yX12_faultOf yX12_faultOf ∈ ah_TT := ah_TT_in (tp_1 (List.mem_of_getElem? (i := 15) rfl)) rfl
theorem wt_462 : Cond.instanceMethod yX12_faultOf ∈ ah_TT := ah_TT_in (tb_5 (List.mem_of_getElem? (i := 17) rfl)) rfl
theorem wt_463 : Cond.code yX12_faultOf cX12_faultOf 2 (some .int) ∈ ah_TT := ah_TT_in (tb_5 (List.mem_of_getElem? (i := 18) rfl)) rfl
theorem wt_464 : Cond.fieldLink RX12 85 RX12 "singles" "I" ∈ ah_TT := ah_TT_in (tb_4 (List.mem_of_getElem? (i := 150) rfl)) rfl
theorem wt_465 : Cond.fieldLink RX12 13 RX12 "rows" "[I" ∈ ah_TT := ah_TT_in (tb_4 (List.mem_of_getElem? (i := 156) rfl)) rfl
theorem wt_466 : Cond.fieldLink RX12 16 RX12 "sizes" "[I" ∈ ah_TT := ah_TT_in (tb_4 (List.mem_of_getElem? (i := 157) rfl)) rfl
theorem wt_467 : Cond.fieldLink RX12 19 RX12 "stations" "[I" ∈ ah_TT := ah_TT_in (tb_4 (List.mem_of_getElem? (i := 158) rfl)) rfl
theorem wt_468 : Cond.fieldLink RX12 22 RX12 "mates" "[I" ∈ ah_TT := ah_TT_in (tb_4 (List.mem_of_getElem? (i := 159) rfl)) rfl
theorem wt_469 : Cond.fieldLink RX12 88 RX12 "miles" "I" ∈ ah_TT := ah_TT_in (tb_4 (List.mem_of_getElem? (i := 151) rfl)) rfl
theorem wt_470 : Cond.fieldLink RX12 91 RX12 "brought" "I" ∈ ah_TT := ah_TT_in (tb_4 (List.mem_of_getElem? (i := 152) rfl)) rfl
theorem wt_471 : Cond.fieldLink RX12 94 RX12 "parted" "I" ∈ ah_TT := ah_TT_in (tb_4 (List.mem_of_getElem? (i := 153) rfl)) rfl
theorem wt_472 : Cond.fieldLink RX12 97 RX12 "mays" "I" ∈ ah_TT := ah_TT_in (tb_4 (List.mem_of_getElem? (i := 154) rfl)) rfl
theorem wt_473 : Cond.fieldLink RX12 100 RX12 "seenMany" "I" ∈ ah_TT := ah_TT_in (tb_4 (List.mem_of_getElem? (i := 163) rfl)) rfl
theorem wt_474 : Cond.fieldLink RX12 103 RX12 "drawersRead" "I" ∈ ah_TT := ah_TT_in (tb_4 (List.mem_of_getElem? (i := 155) rfl)) rfl
theorem wt_475 : Cond.methodLink RX12 106 yX12_isSingle ∈ ah_TT := ah_TT_in (tb_5 (List.mem_of_getElem? (i := 37) rfl)) rfl
theorem wt_476 : Cond.selects RX12 yX12_isSingle yX12_isSingle ∈ ah_TT := ah_TT_in (tp_2 (List.mem_of_getElem? (i := 0) rfl)) rfl
theorem wt_477 : Cond.instanceMethod yX12_isSingle ∈ ah_TT := ah_TT_in (tb_5 (List.mem_of_getElem? (i := 39) rfl)) rfl
theorem wt_478 : Cond.code yX12_isSingle cX12_isSingle 2 (some .boolean) ∈ ah_TT := ah_TT_in (tb_5 (List.mem_of_getElem? (i := 40) rfl)) rfl
theorem wt_479 : Cond.methodLink RX12 110 yX12_isGlove ∈ ah_TT := ah_TT_in (tb_5 (List.mem_of_getElem? (i := 57) rfl)) rfl
theorem wt_480 : Cond.selects RX12 yX12_isGlove yX12_isGlove ∈ ah_TT := ah_TT_in (tp_2 (List.mem_of_getElem? (i := 5) rfl)) rfl
theorem wt_481 : Cond.instanceMethod yX12_isGlove ∈ ah_TT := ah_TT_in (tb_5 (List.mem_of_getElem? (i := 59) rfl)) rfl
theorem wt_482 : Cond.code yX12_isGlove cX12_isGlove 2 (some .boolean) ∈ ah_TT := ah_TT_in (tb_5 (List.mem_of_getElem? (i := 60) rfl)) rfl
theorem wt_483 : Cond.methodLink RX12 113 yX12_takes ∈ ah_TT := ah_TT_in (tb_5 (List.mem_of_getElem? (i := 53) rfl)) rfl
theorem wt_484 : Cond.selects RX12 yX12_takes yX12_takes ∈ ah_TT := ah_TT_in (tp_2 (List.mem_of_getElem? (i := 4) rfl)) rfl
theorem wt_485 : Cond.instanceMethod yX12_takes ∈ ah_TT := ah_TT_in (tb_5 (List.mem_of_getElem? (i := 55) rfl)) rfl
theorem wt_486 : Cond.code yX12_takes cX12_takes 4 (some .boolean) ∈ ah_TT := ah_TT_in (tb_5 (List.mem_of_getElem? (i := 56) rfl)) rfl
theorem wt_487 : Cond.methodLink RX12 116 yX12_far ∈ ah_TT := ah_TT_in (tb_5 (List.mem_of_getElem? (i := 77) rfl)) rfl
theorem wt_488 : Cond.static yX12_far ∈ ah_TT := ah_TT_in (tb_5 (List.mem_of_getElem? (i := 78) rfl)) rfl
theorem wt_489 : Cond.code yX12_far cX12_far 2 (some .int) ∈ ah_TT := ah_TT_in (tb_5 (List.mem_of_getElem? (i := 79) rfl)) rfl
theorem wt_490 : Cond.methodLink RX12 120 yX12_mayBe ∈ ah_TT := ah_TT_in (tb_5 (List.mem_of_getElem? (i := 49) rfl)) rfl
theorem wt_491 : Cond.selects RX12 yX12_mayBe yX12_mayBe ∈ ah_TT := ah_TT_in (tp_2 (List.mem_of_getElem? (i := 3) rfl)) rfl
theorem wt_492 : Cond.instanceMethod yX12_mayBe ∈ ah_TT := ah_TT_in (tb_5 (List.mem_of_getElem? (i := 51) rfl)) rfl
theorem wt_493 : Cond.code yX12_mayBe cX12_mayBe 3 (some .boolean) ∈ ah_TT := ah_TT_in (tb_5 (List.mem_of_getElem? (i := 52) rfl)) rfl
theorem wt_494 : Cond.methodLink RX12 123 yX12_apartOf ∈ ah_TT := ah_TT_in (tb_5 (List.mem_of_getElem? (i := 73) rfl)) rfl
theorem wt_495 : Cond.selects RX12 yX12_apartOf yX12_apartOf ∈ ah_TT := ah_TT_in (tp_2 (List.mem_of_getElem? (i := 9) rfl)) rfl
theorem wt_496 : Cond.instanceMethod yX12_apartOf ∈ ah_TT := ah_TT_in (tb_5 (List.mem_of_getElem? (i := 75) rfl)) rfl
theorem wt_497 : Cond.code yX12_apartOf cX12_apartOf 4 (some .int) ∈ ah_TT := ah_TT_in (tb_5 (List.mem_of_getElem? (i := 76) rfl)) rfl
theorem wt_498 : Cond.methodLink RX12 126 yX12_likenessOf ∈ ah_TT := ah_TT_in (tb_5 (List.mem_of_getElem? (i := 69) rfl)) rfl
theorem wt_499 : Cond.selects RX12 yX12_likenessOf yX12_likenessOf ∈ ah_TT := ah_TT_in (tp_2 (List.mem_of_getElem? (i := 8) rfl)) rfl
theorem wt_500 : Cond.instanceMethod yX12_likenessOf ∈ ah_TT := ah_TT_in (tb_5 (List.mem_of_getElem? (i := 71) rfl)) rfl
theorem wt_501 : Cond.code yX12_likenessOf cX12_likenessOf 3 (some .int) ∈ ah_TT := ah_TT_in (tb_5 (List.mem_of_getElem? (i := 72) rfl)) rfl
theorem wt_502 : Cond.methodLink RX12 129 yX12_prefers ∈ ah_TT := ah_TT_in (tb_5 (List.mem_of_getElem? (i := 65) rfl)) rfl
theorem wt_503 : Cond.selects RX12 yX12_prefers yX12_prefers ∈ ah_TT := ah_TT_in (tp_2 (List.mem_of_getElem? (i := 7) rfl)) rfl
theorem wt_504 : Cond.instanceMethod yX12_prefers ∈ ah_TT := ah_TT_in (tb_5 (List.mem_of_getElem? (i := 67) rfl)) rfl
theorem wt_505 : Cond.code yX12_prefers cX12_prefers 5 (some .boolean) ∈ ah_TT := ah_TT_in (tb_5 (List.mem_of_getElem? (i := 68) rfl)) rfl
theorem wt_506 : Cond.methodLink RX12 133 yX12_seenFrom ∈ ah_TT := ah_TT_in (tb_5 (List.mem_of_getElem? (i := 84) rfl)) rfl
theorem wt_507 : Cond.selects RX12 yX12_seenFrom yX12_seenFrom ∈ ah_TT := ah_TT_in (tp_2 (List.mem_of_getElem? (i := 11) rfl)) rfl
theorem wt_508 : Cond.instanceMethod yX12_seenFrom ∈ ah_TT := ah_TT_in (tb_5 (List.mem_of_getElem? (i := 86) rfl)) rfl
theorem wt_509 : Cond.code yX12_seenFrom cX12_seenFrom 5 (some .int) ∈ ah_TT := ah_TT_in (tb_5 (List.mem_of_getElem? (i := 87) rfl)) rfl
theorem wt_510 : Cond.fieldLink RX12 34 RX12 "sights" "[I" ∈ ah_TT := ah_TT_in (tb_4 (List.mem_of_getElem? (i := 164) rfl)) rfl
theorem wt_511 : Cond.methodLink RX12 221 yX12_likenessAs ∈ ah_TT := ah_TT_in (tb_5 (List.mem_of_getElem? (i := 92) rfl)) rfl
theorem wt_512 : Cond.selects RX12 yX12_likenessAs yX12_likenessAs ∈ ah_TT := ah_TT_in (tp_2 (List.mem_of_getElem? (i := 13) rfl)) rfl
theorem wt_513 : Cond.instanceMethod yX12_likenessAs ∈ ah_TT := ah_TT_in (tb_5 (List.mem_of_getElem? (i := 94) rfl)) rfl
theorem wt_514 : Cond.code yX12_likenessAs cX12_likenessAs 6 (some .int) ∈ ah_TT := ah_TT_in (tb_5 (List.mem_of_getElem? (i := 95) rfl)) rfl
theorem wt_515 : Cond.methodLink RX12 145 yX12_sizesOf ∈ ah_TT := ah_TT_in (tb_5 (List.mem_of_getElem? (i := 88) rfl)) rfl
theorem wt_516 : Cond.selects RX12 yX12_sizesOf yX12_sizesOf ∈ ah_TT := ah_TT_in (tp_2 (List.mem_of_getElem? (i := 12) rfl)) rfl
theorem wt_517 : Cond.instanceMethod yX12_sizesOf ∈ ah_TT := ah_TT_in (tb_5 (List.mem_of_getElem? (i := 90) rfl)) rfl
theorem wt_518 : Cond.code yX12_sizesOf cX12_sizesOf 6 (some .int) ∈ ah_TT := ah_TT_in (tb_5 (List.mem_of_getElem? (i := 91) rfl)) rfl
theorem wt_519 : Cond.fieldLink RX12 37 RX12 "parts" "[I" ∈ ah_TT := ah_TT_in (tb_4 (List.mem_of_getElem? (i := 165) rfl)) rfl
theorem wt_520 : Cond.methodLink RX12 136 yX12_mayBits ∈ ah_TT := ah_TT_in (tb_5 (List.mem_of_getElem? (i := 45) rfl)) rfl
theorem wt_521 : Cond.selects RX12 yX12_mayBits yX12_mayBits ∈ ah_TT := ah_TT_in (tp_2 (List.mem_of_getElem? (i := 2) rfl)) rfl
theorem wt_522 : Cond.instanceMethod yX12_mayBits ∈ ah_TT := ah_TT_in (tb_5 (List.mem_of_getElem? (i := 47) rfl)) rfl
theorem wt_523 : Cond.code yX12_mayBits cX12_mayBits 4 (some .int) ∈ ah_TT := ah_TT_in (tb_5 (List.mem_of_getElem? (i := 48) rfl)) rfl
theorem wt_524 : Cond.methodLink RX12 139 yX12_preferredOf ∈ ah_TT := ah_TT_in (tb_5 (List.mem_of_getElem? (i := 61) rfl)) rfl
theorem wt_525 : Cond.selects RX12 yX12_preferredOf yX12_preferredOf ∈ ah_TT := ah_TT_in (tp_2 (List.mem_of_getElem? (i := 6) rfl)) rfl
theorem wt_526 : Cond.instanceMethod yX12_preferredOf ∈ ah_TT := ah_TT_in (tb_5 (List.mem_of_getElem? (i := 63) rfl)) rfl
theorem wt_527 : Cond.code yX12_preferredOf cX12_preferredOf 4 (some .int) ∈ ah_TT := ah_TT_in (tb_5 (List.mem_of_getElem? (i := 64) rfl)) rfl
theorem wt_528 : Cond.methodLink RX12 142 yX12_spikeOf ∈ ah_TT := ah_TT_in (tb_5 (List.mem_of_getElem? (i := 80) rfl)) rfl
theorem wt_529 : Cond.selects RX12 yX12_spikeOf yX12_spikeOf ∈ ah_TT := ah_TT_in (tp_2 (List.mem_of_getElem? (i := 10) rfl)) rfl
theorem wt_530 : Cond.instanceMethod yX12_spikeOf ∈ ah_TT := ah_TT_in (tb_5 (List.mem_of_getElem? (i := 82) rfl)) rfl
theorem wt_531 : Cond.code yX12_spikeOf cX12_spikeOf 5 (some .int) ∈ ah_TT := ah_TT_in (tb_5 (List.mem_of_getElem? (i := 83) rfl)) rfl
theorem wt_532 : Cond.methodLink RX12 148 yX12_lookOf ∈ ah_TT := ah_TT_in (tb_5 (List.mem_of_getElem? (i := 96) rfl)) rfl
theorem wt_533 : Cond.selects RX12 yX12_lookOf yX12_lookOf ∈ ah_TT := ah_TT_in (tp_2 (List.mem_of_getElem? (i := 14) rfl)) rfl
theorem wt_534 : Cond.instanceMethod yX12_lookOf ∈ ah_TT := ah_TT_in (tb_5 (List.mem_of_getElem? (i := 98) rfl)) rfl
theorem wt_535 : Cond.code yX12_lookOf cX12_lookOf 9 (some .int) ∈ ah_TT := ah_TT_in (tb_5 (List.mem_of_getElem? (i := 99) rfl)) rfl
theorem wt_536 : Cond.methodLink RX12 151 yX12_tellSingle ∈ ah_TT := ah_TT_in (tb_5 (List.mem_of_getElem? (i := 41) rfl)) rfl
theorem wt_537 : Cond.selects RX12 yX12_tellSingle yX12_tellSingle ∈ ah_TT := ah_TT_in (tp_2 (List.mem_of_getElem? (i := 1) rfl)) rfl
theorem wt_538 : Cond.instanceMethod yX12_tellSingle ∈ ah_TT := ah_TT_in (tb_5 (List.mem_of_getElem? (i := 43) rfl)) rfl
theorem wt_539 : Cond.code yX12_tellSingle cX12_tellSingle 3 (some .int) ∈ ah_TT := ah_TT_in (tb_5 (List.mem_of_getElem? (i := 44) rfl)) rfl
theorem wt_540 : Cond.constantLong RX12 154 (4) ∈ ah_TT := ah_TT_in (tb_5 (List.mem_of_getElem? (i := 104) rfl)) rfl
theorem wt_541 : Cond.methodLink RX12 156 yX12_areTwo ∈ ah_TT := ah_TT_in (tb_5 (List.mem_of_getElem? (i := 109) rfl)) rfl
theorem wt_542 : Cond.selects RX12 yX12_areTwo yX12_areTwo ∈ ah_TT := ah_TT_in (tp_2 (List.mem_of_getElem? (i := 15) rfl)) rfl
theorem wt_543 : Cond.instanceMethod yX12_areTwo ∈ ah_TT := ah_TT_in (tb_5 (List.mem_of_getElem? (i := 111) rfl)) rfl
theorem wt_544 : Cond.code yX12_areTwo cX12_areTwo 3 (some .boolean) ∈ ah_TT := ah_TT_in (tb_5 (List.mem_of_getElem? (i := 112) rfl)) rfl
theorem wt_545 : Cond.constantLong RX12 159 (5) ∈ ah_TT := ah_TT_in (tb_5 (List.mem_of_getElem? (i := 121) rfl)) rfl
theorem wt_546 : Cond.constantLong RX12 161 (9) ∈ ah_TT := ah_TT_in (tb_5 (List.mem_of_getElem? (i := 134) rfl)) rfl
theorem wt_547 : Cond.methodLink RX12 163 yX12_lacks ∈ ah_TT := ah_TT_in (tb_5 (List.mem_of_getElem? (i := 139) rfl)) rfl
theorem wt_548 : Cond.selects RX12 yX12_lacks yX12_lacks ∈ ah_TT := ah_TT_in (tp_3 (List.mem_of_getElem? (i := 0) rfl)) rfl
theorem wt_549 : Cond.instanceMethod yX12_lacks ∈ ah_TT := ah_TT_in (tb_5 (List.mem_of_getElem? (i := 141) rfl)) rfl
theorem wt_550 : Cond.code yX12_lacks cX12_lacks 1 (some .boolean) ∈ ah_TT := ah_TT_in (tb_5 (List.mem_of_getElem? (i := 142) rfl)) rfl
theorem wt_551 : Cond.fieldLink RX12 25 RX12 "before" "[I" ∈ ah_TT := ah_TT_in (tb_4 (List.mem_of_getElem? (i := 160) rfl)) rfl
theorem wt_552 : Cond.methodLink RX12 167 yX12_copy ∈ ah_TT := ah_TT_in (tb_5 (List.mem_of_getElem? (i := 143) rfl)) rfl
theorem wt_553 : Cond.static yX12_copy ∈ ah_TT := ah_TT_in (tb_5 (List.mem_of_getElem? (i := 144) rfl)) rfl
theorem wt_554 : Cond.code yX12_copy cX12_copy 3 none ∈ ah_TT := ah_TT_in (tb_5 (List.mem_of_getElem? (i := 145) rfl)) rfl
theorem wt_555 : Cond.methodLink RX12 171 yX12_pairsOf ∈ ah_TT := ah_TT_in (tb_5 (List.mem_of_getElem? (i := 146) rfl)) rfl
theorem wt_556 : Cond.selects RX12 yX12_pairsOf yX12_pairsOf ∈ ah_TT := ah_TT_in (tp_3 (List.mem_of_getElem? (i := 1) rfl)) rfl
theorem wt_557 : Cond.instanceMethod yX12_pairsOf ∈ ah_TT := ah_TT_in (tb_5 (List.mem_of_getElem? (i := 148) rfl)) rfl
theorem wt_558 : Cond.code yX12_pairsOf cX12_pairsOf 4 (some .int) ∈ ah_TT := ah_TT_in (tb_5 (List.mem_of_getElem? (i := 149) rfl)) rfl
theorem wt_559 : Cond.fieldLink RX12 28 RX12 "row" "[I" ∈ ah_TT := ah_TT_in (tb_4 (List.mem_of_getElem? (i := 161) rfl)) rfl
theorem wt_560 : Cond.fieldLink RX12 31 RX12 "bestRow" "[I" ∈ ah_TT := ah_TT_in (tb_4 (List.mem_of_getElem? (i := 162) rfl)) rfl
theorem wt_561 : Cond.methodLink RX12 175 yX12_firstRow ∈ ah_TT := ah_TT_in (tb_5 (List.mem_of_getElem? (i := 163) rfl)) rfl
theorem wt_562 : Cond.selects RX12 yX12_firstRow yX12_firstRow ∈ ah_TT := ah_TT_in (tp_3 (List.mem_of_getElem? (i := 3) rfl)) rfl
theorem wt_563 : Cond.instanceMethod yX12_firstRow ∈ ah_TT := ah_TT_in (tb_5 (List.mem_of_getElem? (i := 165) rfl)) rfl
theorem wt_564 : Cond.code yX12_firstRow cX12_firstRow 2 none ∈ ah_TT := ah_TT_in (tb_5 (List.mem_of_getElem? (i := 166) rfl)) rfl
theorem wt_565 : Cond.methodLink RX12 178 yX12_nextRow ∈ ah_TT := ah_TT_in (tb_5 (List.mem_of_getElem? (i := 167) rfl)) rfl
theorem wt_566 : Cond.selects RX12 yX12_nextRow yX12_nextRow ∈ ah_TT := ah_TT_in (tp_3 (List.mem_of_getElem? (i := 4) rfl)) rfl
theorem wt_567 : Cond.instanceMethod yX12_nextRow ∈ ah_TT := ah_TT_in (tb_5 (List.mem_of_getElem? (i := 169) rfl)) rfl
theorem wt_568 : Cond.code yX12_nextRow cX12_nextRow 4 (some .boolean) ∈ ah_TT := ah_TT_in (tb_5 (List.mem_of_getElem? (i := 170) rfl)) rfl
theorem wt_569 : Cond.methodLink RX12 181 yX12_likenessRow ∈ ah_TT := ah_TT_in (tb_5 (List.mem_of_getElem? (i := 171) rfl)) rfl
theorem wt_570 : Cond.selects RX12 yX12_likenessRow yX12_likenessRow ∈ ah_TT := ah_TT_in (tp_3 (List.mem_of_getElem? (i := 5) rfl)) rfl
theorem wt_571 : Cond.instanceMethod yX12_likenessRow ∈ ah_TT := ah_TT_in (tb_5 (List.mem_of_getElem? (i := 173) rfl)) rfl
theorem wt_572 : Cond.code yX12_likenessRow cX12_likenessRow 3 (some .int) ∈ ah_TT := ah_TT_in (tb_5 (List.mem_of_getElem? (i := 174) rfl)) rfl
theorem wt_573 : Cond.constantLong RX12 184 (10) ∈ ah_TT := ah_TT_in (tb_5 (List.mem_of_getElem? (i := 157) rfl)) rfl
theorem wt_574 : Cond.constantLong RX12 186 (16) ∈ ah_TT := ah_TT_in (tb_5 (List.mem_of_getElem? (i := 158) rfl)) rfl
theorem wt_575 : Cond.methodLink RX12 188 yX12_isRowWhat ∈ ah_TT := ah_TT_in (tb_5 (List.mem_of_getElem? (i := 154) rfl)) rfl
theorem wt_576 : Cond.static yX12_isRowWhat ∈ ah_TT := ah_TT_in (tb_5 (List.mem_of_getElem? (i := 155) rfl)) rfl
theorem wt_577 : Cond.code yX12_isRowWhat cX12_isRowWhat 1 (some .boolean) ∈ ah_TT := ah_TT_in (tb_5 (List.mem_of_getElem? (i := 156) rfl)) rfl
theorem wt_578 : Cond.methodLink RX12 191 yX12_mostOf ∈ ah_TT := ah_TT_in (tb_5 (List.mem_of_getElem? (i := 159) rfl)) rfl
theorem wt_579 : Cond.selects RX12 yX12_mostOf yX12_mostOf ∈ ah_TT := ah_TT_in (tp_3 (List.mem_of_getElem? (i := 2) rfl)) rfl
theorem wt_580 : Cond.instanceMethod yX12_mostOf ∈ ah_TT := ah_TT_in (tb_5 (List.mem_of_getElem? (i := 161) rfl)) rfl
theorem wt_581 : Cond.code yX12_mostOf cX12_mostOf 6 (some .int) ∈ ah_TT := ah_TT_in (tb_5 (List.mem_of_getElem? (i := 162) rfl)) rfl
theorem wt_582 : Cond.methodLink RX12 194 yX12_milesRow ∈ ah_TT := ah_TT_in (tb_5 (List.mem_of_getElem? (i := 184) rfl)) rfl
theorem wt_583 : Cond.selects RX12 yX12_milesRow yX12_milesRow ∈ ah_TT := ah_TT_in (tp_3 (List.mem_of_getElem? (i := 7) rfl)) rfl
theorem wt_584 : Cond.instanceMethod yX12_milesRow ∈ ah_TT := ah_TT_in (tb_5 (List.mem_of_getElem? (i := 186) rfl)) rfl
theorem wt_585 : Cond.code yX12_milesRow cX12_milesRow 3 (some .int) ∈ ah_TT := ah_TT_in (tb_5 (List.mem_of_getElem? (i := 187) rfl)) rfl
theorem wt_586 : Cond.constantLong RX12 197 (30) ∈ ah_TT := ah_TT_in (tb_5 (List.mem_of_getElem? (i := 179) rfl)) rfl
theorem wt_587 : Cond.methodLink RX12 199 yX12_bestOf ∈ ah_TT := ah_TT_in (tb_5 (List.mem_of_getElem? (i := 180) rfl)) rfl
theorem wt_588 : Cond.selects RX12 yX12_bestOf yX12_bestOf ∈ ah_TT := ah_TT_in (tp_3 (List.mem_of_getElem? (i := 6) rfl)) rfl
theorem wt_589 : Cond.instanceMethod yX12_bestOf ∈ ah_TT := ah_TT_in (tb_5 (List.mem_of_getElem? (i := 182) rfl)) rfl
theorem wt_590 : Cond.code yX12_bestOf cX12_bestOf 7 (some .int) ∈ ah_TT := ah_TT_in (tb_5 (List.mem_of_getElem? (i := 183) rfl)) rfl
theorem wt_591 : Cond.methodLink RX12 202 yX12_isStable ∈ ah_TT := ah_TT_in (tb_5 (List.mem_of_getElem? (i := 196) rfl)) rfl
theorem wt_592 : Cond.selects RX12 yX12_isStable yX12_isStable ∈ ah_TT := ah_TT_in (tp_3 (List.mem_of_getElem? (i := 9) rfl)) rfl
theorem wt_593 : Cond.instanceMethod yX12_isStable ∈ ah_TT := ah_TT_in (tb_5 (List.mem_of_getElem? (i := 198) rfl)) rfl
theorem wt_594 : Cond.code yX12_isStable cX12_isStable 6 (some .boolean) ∈ ah_TT := ah_TT_in (tb_5 (List.mem_of_getElem? (i := 199) rfl)) rfl
theorem wt_595 : Cond.methodLink RX12 205 yX12_stableOf ∈ ah_TT := ah_TT_in (tb_5 (List.mem_of_getElem? (i := 192) rfl)) rfl
theorem wt_596 : Cond.selects RX12 yX12_stableOf yX12_stableOf ∈ ah_TT := ah_TT_in (tp_3 (List.mem_of_getElem? (i := 8) rfl)) rfl
theorem wt_597 : Cond.instanceMethod yX12_stableOf ∈ ah_TT := ah_TT_in (tb_5 (List.mem_of_getElem? (i := 194) rfl)) rfl
theorem wt_598 : Cond.code yX12_stableOf cX12_stableOf 6 (some .int) ∈ ah_TT := ah_TT_in (tb_5 (List.mem_of_getElem? (i := 195) rfl)) rfl
theorem wt_599 : Cond.methodLink RX12 208 yX12_roundOf ∈ ah_TT := ah_TT_in (tb_5 (List.mem_of_getElem? (i := 208) rfl)) rfl
theorem wt_600 : Cond.selects RX12 yX12_roundOf yX12_roundOf ∈ ah_TT := ah_TT_in (tp_3 (List.mem_of_getElem? (i := 10) rfl)) rfl
theorem wt_601 : Cond.instanceMethod yX12_roundOf ∈ ah_TT := ah_TT_in (tb_5 (List.mem_of_getElem? (i := 210) rfl)) rfl
theorem wt_602 : Cond.code yX12_roundOf cX12_roundOf 6 (some .int) ∈ ah_TT := ah_TT_in (tb_5 (List.mem_of_getElem? (i := 211) rfl)) rfl
theorem wt_603 : Cond.methodLink RX12 211 yX12_common ∈ ah_TT := ah_TT_in (tb_5 (List.mem_of_getElem? (i := 220) rfl)) rfl
theorem wt_604 : Cond.static yX12_common ∈ ah_TT := ah_TT_in (tb_5 (List.mem_of_getElem? (i := 221) rfl)) rfl
theorem wt_605 : Cond.code yX12_common cX12_common 5 (some .int) ∈ ah_TT := ah_TT_in (tb_5 (List.mem_of_getElem? (i := 222) rfl)) rfl
theorem wt_606 : Cond.methodLink RX12 214 yX12_oddsOf ∈ ah_TT := ah_TT_in (tb_5 (List.mem_of_getElem? (i := 216) rfl)) rfl
theorem wt_607 : Cond.selects RX12 yX12_oddsOf yX12_oddsOf ∈ ah_TT := ah_TT_in (tp_3 (List.mem_of_getElem? (i := 11) rfl)) rfl
theorem wt_608 : Cond.instanceMethod yX12_oddsOf ∈ ah_TT := ah_TT_in (tb_5 (List.mem_of_getElem? (i := 218) rfl)) rfl
theorem wt_609 : Cond.code yX12_oddsOf cX12_oddsOf 7 (some .int) ∈ ah_TT := ah_TT_in (tb_5 (List.mem_of_getElem? (i := 219) rfl)) rfl
theorem wt_610 : Cond.constantLong RX12 217 (-1) ∈ ah_TT := ah_TT_in (tb_5 (List.mem_of_getElem? (i := 227) rfl)) rfl
theorem wt_611 : Cond.constantLong RX12 219 (18) ∈ ah_TT := ah_TT_in (tb_5 (List.mem_of_getElem? (i := 228) rfl)) rfl
theorem wt_612 : Cond.constantLong RX12 225 (1103515245) ∈ ah_TT := ah_TT_in (tb_6 (List.mem_of_getElem? (i := 3) rfl)) rfl
theorem wt_613 : Cond.fieldLink RX12 227 RX12 "seedNow" "I" ∈ ah_TT := ah_TT_in (tb_4 (List.mem_of_getElem? (i := 166) rfl)) rfl
theorem wt_614 : Cond.constantLong RX12 230 (12345) ∈ ah_TT := ah_TT_in (tb_6 (List.mem_of_getElem? (i := 4) rfl)) rfl
theorem wt_615 : Cond.constantLong RX12 232 (2147483647) ∈ ah_TT := ah_TT_in (tb_6 (List.mem_of_getElem? (i := 5) rfl)) rfl
theorem wt_616 : Cond.constant RX12 234 (65536) ∈ ah_TT := ah_TT_in (tb_6 (List.mem_of_getElem? (i := 6) rfl)) rfl
theorem wt_617 : Cond.constantLong RX12 235 (60) ∈ ah_TT := ah_TT_in (tb_5 (List.mem_of_getElem? (i := 237) rfl)) rfl
theorem wt_618 : Cond.constantLong RX12 237 (2) ∈ ah_TT := ah_TT_in (tb_5 (List.mem_of_getElem? (i := 238) rfl)) rfl
theorem wt_619 : Cond.methodLink RX12 239 yX12_draw ∈ ah_TT := ah_TT_in (tb_5 (List.mem_of_getElem? (i := 239) rfl)) rfl
theorem wt_620 : Cond.selects RX12 yX12_draw yX12_draw ∈ ah_TT := ah_TT_in (tp_3 (List.mem_of_getElem? (i := 12) rfl)) rfl
theorem wt_621 : Cond.instanceMethod yX12_draw ∈ ah_TT := ah_TT_in (tb_6 (List.mem_of_getElem? (i := 1) rfl)) rfl
theorem wt_622 : Cond.code yX12_draw cX12_draw 2 (some .int) ∈ ah_TT := ah_TT_in (tb_6 (List.mem_of_getElem? (i := 2) rfl)) rfl
theorem wt_623 : Cond.fieldLink RX12 40 RX12 "keptSizes" "[I" ∈ ah_TT := ah_TT_in (tb_4 (List.mem_of_getElem? (i := 173) rfl)) rfl
theorem wt_624 : Cond.fieldLink RX12 43 RX12 "keptStations" "[I" ∈ ah_TT := ah_TT_in (tb_4 (List.mem_of_getElem? (i := 174) rfl)) rfl
theorem wt_625 : Cond.fieldLink RX12 46 RX12 "keptMates" "[I" ∈ ah_TT := ah_TT_in (tb_4 (List.mem_of_getElem? (i := 175) rfl)) rfl
theorem wt_626 : Cond.fieldLink RX12 49 RX12 "keptSights" "[I" ∈ ah_TT := ah_TT_in (tb_4 (List.mem_of_getElem? (i := 176) rfl)) rfl
theorem wt_627 : Cond.fieldLink RX12 242 RX12 "keptMiles" "I" ∈ ah_TT := ah_TT_in (tb_4 (List.mem_of_getElem? (i := 168) rfl)) rfl
theorem wt_628 : Cond.fieldLink RX12 245 RX12 "keptBrought" "I" ∈ ah_TT := ah_TT_in (tb_4 (List.mem_of_getElem? (i := 169) rfl)) rfl
theorem wt_629 : Cond.fieldLink RX12 248 RX12 "keptParted" "I" ∈ ah_TT := ah_TT_in (tb_4 (List.mem_of_getElem? (i := 170) rfl)) rfl
theorem wt_630 : Cond.fieldLink RX12 251 RX12 "keptMays" "I" ∈ ah_TT := ah_TT_in (tb_4 (List.mem_of_getElem? (i := 171) rfl)) rfl
theorem wt_631 : Cond.fieldLink RX12 254 RX12 "keptSeen" "I" ∈ ah_TT := ah_TT_in (tb_4 (List.mem_of_getElem? (i := 172) rfl)) rfl
theorem wt_632 : Cond.fieldLink RX12 52 RX12 "keptDrawer" "I" ∈ ah_TT := ah_TT_in (tb_4 (List.mem_of_getElem? (i := 167) rfl)) rfl
theorem wt_633 : Cond.methodLink RX12 257 yX12_ones ∈ ah_TT := ah_TT_in (tb_6 (List.mem_of_getElem? (i := 31) rfl)) rfl
theorem wt_634 : Cond.static yX12_ones ∈ ah_TT := ah_TT_in (tb_6 (List.mem_of_getElem? (i := 32) rfl)) rfl
theorem wt_635 : Cond.code yX12_ones cX12_ones 3 (some .int) ∈ ah_TT := ah_TT_in (tb_6 (List.mem_of_getElem? (i := 33) rfl)) rfl
theorem wt_636 : Cond.methodLink RX12 260 yX12_likenessNow ∈ ah_TT := ah_TT_in (tb_6 (List.mem_of_getElem? (i := 23) rfl)) rfl
theorem wt_637 : Cond.selects RX12 yX12_likenessNow yX12_likenessNow ∈ ah_TT := ah_TT_in (tp_3 (List.mem_of_getElem? (i := 14) rfl)) rfl
theorem wt_638 : Cond.instanceMethod yX12_likenessNow ∈ ah_TT := ah_TT_in (tb_6 (List.mem_of_getElem? (i := 25) rfl)) rfl
theorem wt_639 : Cond.code yX12_likenessNow cX12_likenessNow 3 (some .int) ∈ ah_TT := ah_TT_in (tb_6 (List.mem_of_getElem? (i := 26) rfl)) rfl
theorem wt_640 : Cond.methodLink RX12 263 yX12_mayTwos ∈ ah_TT := ah_TT_in (tb_6 (List.mem_of_getElem? (i := 27) rfl)) rfl
theorem wt_641 : Cond.selects RX12 yX12_mayTwos yX12_mayTwos ∈ ah_TT := ah_TT_in (tp_3 (List.mem_of_getElem? (i := 15) rfl)) rfl
theorem wt_642 : Cond.instanceMethod yX12_mayTwos ∈ ah_TT := ah_TT_in (tb_6 (List.mem_of_getElem? (i := 29) rfl)) rfl
theorem wt_643 : Cond.code yX12_mayTwos cX12_mayTwos 3 (some .int) ∈ ah_TT := ah_TT_in (tb_6 (List.mem_of_getElem? (i := 30) rfl)) rfl
theorem wt_644 : Cond.methodLink RX12 266 yX12_aloneOf ∈ ah_TT := ah_TT_in (tb_6 (List.mem_of_getElem? (i := 34) rfl)) rfl
theorem wt_645 : Cond.selects RX12 yX12_aloneOf yX12_aloneOf ∈ ah_TT := ah_TT_in (tp_4 (List.mem_of_getElem? (i := 0) rfl)) rfl
theorem wt_646 : Cond.instanceMethod yX12_aloneOf ∈ ah_TT := ah_TT_in (tb_6 (List.mem_of_getElem? (i := 36) rfl)) rfl
theorem wt_647 : Cond.code yX12_aloneOf cX12_aloneOf 4 (some .int) ∈ ah_TT := ah_TT_in (tb_6 (List.mem_of_getElem? (i := 37) rfl)) rfl
theorem wt_648 : Cond.methodLink RX12 269 yX12_countOf ∈ ah_TT := ah_TT_in (tb_6 (List.mem_of_getElem? (i := 19) rfl)) rfl
theorem wt_649 : Cond.selects RX12 yX12_countOf yX12_countOf ∈ ah_TT := ah_TT_in (tp_3 (List.mem_of_getElem? (i := 13) rfl)) rfl
theorem wt_650 : Cond.instanceMethod yX12_countOf ∈ ah_TT := ah_TT_in (tb_6 (List.mem_of_getElem? (i := 21) rfl)) rfl
theorem wt_651 : Cond.code yX12_countOf cX12_countOf 2 (some .int) ∈ ah_TT := ah_TT_in (tb_6 (List.mem_of_getElem? (i := 22) rfl)) rfl
theorem wt_652 : Cond.constantLong RX12 272 (31) ∈ ah_TT := ah_TT_in (tb_6 (List.mem_of_getElem? (i := 47) rfl)) rfl
theorem wt_653 : Cond.fieldLink RX12 274 RX12 "hash" "J" ∈ ah_TT := ah_TT_in (tb_4 (List.mem_of_getElem? (i := 177) rfl)) rfl
theorem wt_654 : Cond.methodLink RX12 278 yX12_say ∈ ah_TT := ah_TT_in (tb_6 (List.mem_of_getElem? (i := 43) rfl)) rfl
theorem wt_655 : Cond.selects RX12 yX12_say yX12_say ∈ ah_TT := ah_TT_in (tp_4 (List.mem_of_getElem? (i := 1) rfl)) rfl
theorem wt_656 : Cond.instanceMethod yX12_say ∈ ah_TT := ah_TT_in (tb_6 (List.mem_of_getElem? (i := 45) rfl)) rfl
theorem wt_657 : Cond.code yX12_say cX12_say 3 none ∈ ah_TT := ah_TT_in (tb_6 (List.mem_of_getElem? (i := 46) rfl)) rfl
theorem wt_658 : Cond.constantLong RX12 282 (1129) ∈ ah_TT := ah_TT_in (tb_6 (List.mem_of_getElem? (i := 42) rfl)) rfl
theorem wt_659 : Cond.methodLink RX12 284 yX12_sayDrawer ∈ ah_TT := ah_TT_in (tb_6 (List.mem_of_getElem? (i := 48) rfl)) rfl
theorem wt_660 : Cond.selects RX12 yX12_sayDrawer yX12_sayDrawer ∈ ah_TT := ah_TT_in (tp_4 (List.mem_of_getElem? (i := 2) rfl)) rfl
theorem wt_661 : Cond.instanceMethod yX12_sayDrawer ∈ ah_TT := ah_TT_in (tb_6 (List.mem_of_getElem? (i := 50) rfl)) rfl
theorem wt_662 : Cond.code yX12_sayDrawer cX12_sayDrawer 2 none ∈ ah_TT := ah_TT_in (tb_6 (List.mem_of_getElem? (i := 51) rfl)) rfl
theorem wt_663 : Cond.laysFinal RX0 RX0 "singles" "[LGloveSaint$Single;" ∈ ah_TT := ah_TT_in (tb_1 (List.mem_of_getElem? (i := 146) rfl)) rfl
theorem wt_664 : Cond.laysFinal RX0 RX0 "seen" "LGloveSaint$Seen;" ∈ ah_TT := ah_TT_in (tb_1 (List.mem_of_getElem? (i := 148) rfl)) rfl
theorem wt_665 : Cond.lays RX0 RX0 "size" "I" ∈ ah_TT := ah_TT_in (tb_1 (List.mem_of_getElem? (i := 150) rfl)) rfl
theorem wt_666 : Cond.lays RX0 RX0 "miles" "I" ∈ ah_TT := ah_TT_in (tb_1 (List.mem_of_getElem? (i := 152) rfl)) rfl
theorem wt_667 : Cond.lays RX0 RX0 "timesBrought" "I" ∈ ah_TT := ah_TT_in (tb_1 (List.mem_of_getElem? (i := 154) rfl)) rfl
theorem wt_668 : Cond.lays RX0 RX0 "timesParted" "I" ∈ ah_TT := ah_TT_in (tb_1 (List.mem_of_getElem? (i := 156) rfl)) rfl
theorem wt_669 : Cond.lays RX0 RX0 "timesMay" "I" ∈ ah_TT := ah_TT_in (tb_1 (List.mem_of_getElem? (i := 158) rfl)) rfl
theorem wt_670 : Cond.laysFinal RX0 RX0 "formerMates" "[I" ∈ ah_TT := ah_TT_in (tb_1 (List.mem_of_getElem? (i := 160) rfl)) rfl
theorem wt_671 : Cond.laysFinal RX1 RX8 "hand" "I" ∈ ah_TT := ah_TT_in (tb_2 (List.mem_of_getElem? (i := 194) rfl)) rfl
theorem wt_672 : Cond.lays RX1 RX8 "size" "I" ∈ ah_TT := ah_TT_in (tb_2 (List.mem_of_getElem? (i := 195) rfl)) rfl
theorem wt_673 : Cond.lays RX1 RX8 "station" "I" ∈ ah_TT := ah_TT_in (tb_2 (List.mem_of_getElem? (i := 196) rfl)) rfl
theorem wt_674 : Cond.lays RX1 RX8 "mate" "I" ∈ ah_TT := ah_TT_in (tb_2 (List.mem_of_getElem? (i := 197) rfl)) rfl
theorem wt_675 : Cond.lays RX2 RX2 "isThere" "Z" ∈ ah_TT := ah_TT_in (tb_1 (List.mem_of_getElem? (i := 181) rfl)) rfl
theorem wt_676 : Cond.laysFinal RX2 RX2 "sizes" "[I" ∈ ah_TT := ah_TT_in (tb_1 (List.mem_of_getElem? (i := 183) rfl)) rfl
theorem wt_677 : Cond.laysFinal RX2 RX2 "stations" "[I" ∈ ah_TT := ah_TT_in (tb_1 (List.mem_of_getElem? (i := 185) rfl)) rfl
theorem wt_678 : Cond.laysFinal RX2 RX2 "mates" "[I" ∈ ah_TT := ah_TT_in (tb_1 (List.mem_of_getElem? (i := 187) rfl)) rfl
theorem wt_679 : Cond.laysFinal RX2 RX2 "seen" "LGloveSaint$Seen;" ∈ ah_TT := ah_TT_in (tb_1 (List.mem_of_getElem? (i := 189) rfl)) rfl
theorem wt_680 : Cond.lays RX2 RX2 "miles" "I" ∈ ah_TT := ah_TT_in (tb_1 (List.mem_of_getElem? (i := 191) rfl)) rfl
theorem wt_681 : Cond.lays RX2 RX2 "timesBrought" "I" ∈ ah_TT := ah_TT_in (tb_1 (List.mem_of_getElem? (i := 193) rfl)) rfl
theorem wt_682 : Cond.lays RX2 RX2 "timesParted" "I" ∈ ah_TT := ah_TT_in (tb_1 (List.mem_of_getElem? (i := 195) rfl)) rfl
theorem wt_683 : Cond.lays RX2 RX2 "timesMay" "I" ∈ ah_TT := ah_TT_in (tb_1 (List.mem_of_getElem? (i := 197) rfl)) rfl
theorem wt_684 : Cond.laysFinal RX3 RX8 "hand" "I" ∈ ah_TT := ah_TT_in (tb_2 (List.mem_of_getElem? (i := 227) rfl)) rfl
theorem wt_685 : Cond.lays RX3 RX8 "size" "I" ∈ ah_TT := ah_TT_in (tb_2 (List.mem_of_getElem? (i := 228) rfl)) rfl
theorem wt_686 : Cond.lays RX3 RX8 "station" "I" ∈ ah_TT := ah_TT_in (tb_2 (List.mem_of_getElem? (i := 229) rfl)) rfl
theorem wt_687 : Cond.lays RX3 RX8 "mate" "I" ∈ ah_TT := ah_TT_in (tb_2 (List.mem_of_getElem? (i := 230) rfl)) rfl
theorem wt_688 : Cond.laysFinal RX4 RX4 "codes" "[I" ∈ ah_TT := ah_TT_in (tb_1 (List.mem_of_getElem? (i := 41) rfl)) rfl
theorem wt_689 : Cond.lays RX4 RX4 "length" "I" ∈ ah_TT := ah_TT_in (tb_1 (List.mem_of_getElem? (i := 43) rfl)) rfl
theorem wt_690 : Cond.laysFinal RX5 RX8 "hand" "I" ∈ ah_TT := ah_TT_in (tb_2 (List.mem_of_getElem? (i := 216) rfl)) rfl
theorem wt_691 : Cond.lays RX5 RX8 "size" "I" ∈ ah_TT := ah_TT_in (tb_2 (List.mem_of_getElem? (i := 217) rfl)) rfl
theorem wt_692 : Cond.lays RX5 RX8 "station" "I" ∈ ah_TT := ah_TT_in (tb_2 (List.mem_of_getElem? (i := 218) rfl)) rfl
theorem wt_693 : Cond.lays RX5 RX8 "mate" "I" ∈ ah_TT := ah_TT_in (tb_2 (List.mem_of_getElem? (i := 219) rfl)) rfl
theorem wt_694 : Cond.lays RX6 RX6 "howMany" "I" ∈ ah_TT := ah_TT_in (tb_1 (List.mem_of_getElem? (i := 224) rfl)) rfl
theorem wt_695 : Cond.lays RX6 RX6 "pairs" "I" ∈ ah_TT := ah_TT_in (tb_1 (List.mem_of_getElem? (i := 226) rfl)) rfl
theorem wt_696 : Cond.lays RX6 RX6 "likenessSum" "I" ∈ ah_TT := ah_TT_in (tb_1 (List.mem_of_getElem? (i := 228) rfl)) rfl
theorem wt_697 : Cond.lays RX6 RX6 "miles" "I" ∈ ah_TT := ah_TT_in (tb_1 (List.mem_of_getElem? (i := 230) rfl)) rfl
theorem wt_698 : Cond.laysFinal RX6 RX6 "found" "[I" ∈ ah_TT := ah_TT_in (tb_1 (List.mem_of_getElem? (i := 232) rfl)) rfl
theorem wt_699 : Cond.laysFinal RX6 RX6 "row" "[I" ∈ ah_TT := ah_TT_in (tb_1 (List.mem_of_getElem? (i := 234) rfl)) rfl
theorem wt_700 : Cond.laysFinal RX6 RX6 "like" "[[I" ∈ ah_TT := ah_TT_in (tb_1 (List.mem_of_getElem? (i := 236) rfl)) rfl
theorem wt_701 : Cond.laysFinal RX6 RX6 "stations" "[I" ∈ ah_TT := ah_TT_in (tb_1 (List.mem_of_getElem? (i := 238) rfl)) rfl
theorem wt_702 : Cond.lays RX6 RX6 "size" "I" ∈ ah_TT := ah_TT_in (tb_2 (List.mem_of_getElem? (i := 0) rfl)) rfl
theorem wt_703 : Cond.lays RX6 RX6 "goal" "I" ∈ ah_TT := ah_TT_in (tb_2 (List.mem_of_getElem? (i := 2) rfl)) rfl
theorem wt_704 : Cond.lays RX6 RX6 "milesAllowed" "I" ∈ ah_TT := ah_TT_in (tb_2 (List.mem_of_getElem? (i := 4) rfl)) rfl
theorem wt_705 : Cond.lays RX6 RX6 "foundRank" "I" ∈ ah_TT := ah_TT_in (tb_2 (List.mem_of_getElem? (i := 6) rfl)) rfl
theorem wt_706 : Cond.lays RX7 RX7 "size" "I" ∈ ah_TT := ah_TT_in (tb_1 (List.mem_of_getElem? (i := 67) rfl)) rfl
theorem wt_707 : Cond.laysFinal RX7 RX7 "ones" "[I" ∈ ah_TT := ah_TT_in (tb_1 (List.mem_of_getElem? (i := 69) rfl)) rfl
theorem wt_708 : Cond.laysFinal RX7 RX7 "others" "[I" ∈ ah_TT := ah_TT_in (tb_1 (List.mem_of_getElem? (i := 71) rfl)) rfl
theorem wt_709 : Cond.laysFinal RX7 RX7 "likenesses" "[I" ∈ ah_TT := ah_TT_in (tb_1 (List.mem_of_getElem? (i := 73) rfl)) rfl
theorem wt_710 : Cond.laysFinal RX7 RX7 "left" "[I" ∈ ah_TT := ah_TT_in (tb_1 (List.mem_of_getElem? (i := 75) rfl)) rfl
theorem wt_711 : Cond.laysFinal RX8 RX8 "hand" "I" ∈ ah_TT := ah_TT_in (tb_1 (List.mem_of_getElem? (i := 111) rfl)) rfl
theorem wt_712 : Cond.lays RX8 RX8 "size" "I" ∈ ah_TT := ah_TT_in (tb_1 (List.mem_of_getElem? (i := 113) rfl)) rfl
theorem wt_713 : Cond.lays RX8 RX8 "station" "I" ∈ ah_TT := ah_TT_in (tb_1 (List.mem_of_getElem? (i := 115) rfl)) rfl
theorem wt_714 : Cond.lays RX8 RX8 "mate" "I" ∈ ah_TT := ah_TT_in (tb_1 (List.mem_of_getElem? (i := 117) rfl)) rfl
theorem wt_715 : Cond.laysFinal RX9 RX8 "hand" "I" ∈ ah_TT := ah_TT_in (tb_2 (List.mem_of_getElem? (i := 205) rfl)) rfl
theorem wt_716 : Cond.lays RX9 RX8 "size" "I" ∈ ah_TT := ah_TT_in (tb_2 (List.mem_of_getElem? (i := 206) rfl)) rfl
theorem wt_717 : Cond.lays RX9 RX8 "station" "I" ∈ ah_TT := ah_TT_in (tb_2 (List.mem_of_getElem? (i := 207) rfl)) rfl
theorem wt_718 : Cond.lays RX9 RX8 "mate" "I" ∈ ah_TT := ah_TT_in (tb_2 (List.mem_of_getElem? (i := 208) rfl)) rfl
theorem wt_719 : Cond.lays RX10 RX10 "pairs" "I" ∈ ah_TT := ah_TT_in (tb_2 (List.mem_of_getElem? (i := 22) rfl)) rfl
theorem wt_720 : Cond.lays RX10 RX10 "likenessSum" "I" ∈ ah_TT := ah_TT_in (tb_2 (List.mem_of_getElem? (i := 24) rfl)) rfl
theorem wt_721 : Cond.lays RX10 RX10 "seed" "J" ∈ ah_TT := ah_TT_in (tb_2 (List.mem_of_getElem? (i := 26) rfl)) rfl
theorem wt_722 : Cond.laysFinal RX10 RX10 "taken" "[Z" ∈ ah_TT := ah_TT_in (tb_2 (List.mem_of_getElem? (i := 28) rfl)) rfl
theorem wt_723 : Cond.laysFinal RX11 RX11 "page" "LGloveSaint$Page;" ∈ ah_TT := ah_TT_in (tb_2 (List.mem_of_getElem? (i := 38) rfl)) rfl
theorem wt_724 : Cond.laysFinal RX11 RX11 "shown" "LGloveSaint$Drawer;" ∈ ah_TT := ah_TT_in (tb_2 (List.mem_of_getElem? (i := 40) rfl)) rfl
theorem wt_725 : Cond.laysFinal RX11 RX11 "kept" "LGloveSaint$Image;" ∈ ah_TT := ah_TT_in (tb_2 (List.mem_of_getElem? (i := 42) rfl)) rfl
theorem wt_726 : Cond.laysFinal RX11 RX11 "rows" "LGloveSaint$Rows;" ∈ ah_TT := ah_TT_in (tb_2 (List.mem_of_getElem? (i := 44) rfl)) rfl
theorem wt_727 : Cond.laysFinal RX11 RX11 "cold" "LGloveSaint$Winters;" ∈ ah_TT := ah_TT_in (tb_2 (List.mem_of_getElem? (i := 46) rfl)) rfl
theorem wt_728 : Cond.lays RX11 RX11 "drawersRead" "I" ∈ ah_TT := ah_TT_in (tb_2 (List.mem_of_getElem? (i := 48) rfl)) rfl
theorem wt_729 : Cond.laysFinal RX12 RX12 "page" "[I" ∈ ah_TT := ah_TT_in (tb_4 (List.mem_of_getElem? (i := 178) rfl)) rfl
theorem wt_730 : Cond.lays RX12 RX12 "pageMany" "I" ∈ ah_TT := ah_TT_in (tb_4 (List.mem_of_getElem? (i := 180) rfl)) rfl
theorem wt_731 : Cond.lays RX12 RX12 "singles" "I" ∈ ah_TT := ah_TT_in (tb_4 (List.mem_of_getElem? (i := 182) rfl)) rfl
theorem wt_732 : Cond.lays RX12 RX12 "miles" "I" ∈ ah_TT := ah_TT_in (tb_4 (List.mem_of_getElem? (i := 184) rfl)) rfl
theorem wt_733 : Cond.lays RX12 RX12 "brought" "I" ∈ ah_TT := ah_TT_in (tb_4 (List.mem_of_getElem? (i := 186) rfl)) rfl
theorem wt_734 : Cond.lays RX12 RX12 "parted" "I" ∈ ah_TT := ah_TT_in (tb_4 (List.mem_of_getElem? (i := 188) rfl)) rfl
theorem wt_735 : Cond.lays RX12 RX12 "mays" "I" ∈ ah_TT := ah_TT_in (tb_4 (List.mem_of_getElem? (i := 190) rfl)) rfl
theorem wt_736 : Cond.lays RX12 RX12 "drawersRead" "I" ∈ ah_TT := ah_TT_in (tb_4 (List.mem_of_getElem? (i := 192) rfl)) rfl
theorem wt_737 : Cond.laysFinal RX12 RX12 "rows" "[I" ∈ ah_TT := ah_TT_in (tb_4 (List.mem_of_getElem? (i := 194) rfl)) rfl
theorem wt_738 : Cond.laysFinal RX12 RX12 "sizes" "[I" ∈ ah_TT := ah_TT_in (tb_4 (List.mem_of_getElem? (i := 196) rfl)) rfl
theorem wt_739 : Cond.laysFinal RX12 RX12 "stations" "[I" ∈ ah_TT := ah_TT_in (tb_4 (List.mem_of_getElem? (i := 198) rfl)) rfl
theorem wt_740 : Cond.laysFinal RX12 RX12 "mates" "[I" ∈ ah_TT := ah_TT_in (tb_4 (List.mem_of_getElem? (i := 200) rfl)) rfl
theorem wt_741 : Cond.laysFinal RX12 RX12 "before" "[I" ∈ ah_TT := ah_TT_in (tb_4 (List.mem_of_getElem? (i := 202) rfl)) rfl
theorem wt_742 : Cond.laysFinal RX12 RX12 "row" "[I" ∈ ah_TT := ah_TT_in (tb_4 (List.mem_of_getElem? (i := 204) rfl)) rfl
theorem wt_743 : Cond.laysFinal RX12 RX12 "bestRow" "[I" ∈ ah_TT := ah_TT_in (tb_4 (List.mem_of_getElem? (i := 206) rfl)) rfl
theorem wt_744 : Cond.lays RX12 RX12 "seenMany" "I" ∈ ah_TT := ah_TT_in (tb_4 (List.mem_of_getElem? (i := 208) rfl)) rfl
theorem wt_745 : Cond.laysFinal RX12 RX12 "sights" "[I" ∈ ah_TT := ah_TT_in (tb_4 (List.mem_of_getElem? (i := 210) rfl)) rfl
theorem wt_746 : Cond.laysFinal RX12 RX12 "parts" "[I" ∈ ah_TT := ah_TT_in (tb_4 (List.mem_of_getElem? (i := 212) rfl)) rfl
theorem wt_747 : Cond.lays RX12 RX12 "seedNow" "I" ∈ ah_TT := ah_TT_in (tb_4 (List.mem_of_getElem? (i := 214) rfl)) rfl
theorem wt_748 : Cond.lays RX12 RX12 "keptDrawer" "I" ∈ ah_TT := ah_TT_in (tb_4 (List.mem_of_getElem? (i := 216) rfl)) rfl
theorem wt_749 : Cond.lays RX12 RX12 "keptMiles" "I" ∈ ah_TT := ah_TT_in (tb_4 (List.mem_of_getElem? (i := 218) rfl)) rfl
theorem wt_750 : Cond.lays RX12 RX12 "keptBrought" "I" ∈ ah_TT := ah_TT_in (tb_4 (List.mem_of_getElem? (i := 220) rfl)) rfl
theorem wt_751 : Cond.lays RX12 RX12 "keptParted" "I" ∈ ah_TT := ah_TT_in (tb_4 (List.mem_of_getElem? (i := 222) rfl)) rfl
theorem wt_752 : Cond.lays RX12 RX12 "keptMays" "I" ∈ ah_TT := ah_TT_in (tb_4 (List.mem_of_getElem? (i := 224) rfl)) rfl
theorem wt_753 : Cond.lays RX12 RX12 "keptSeen" "I" ∈ ah_TT := ah_TT_in (tb_4 (List.mem_of_getElem? (i := 226) rfl)) rfl
theorem wt_754 : Cond.laysFinal RX12 RX12 "keptSizes" "[I" ∈ ah_TT := ah_TT_in (tb_4 (List.mem_of_getElem? (i := 228) rfl)) rfl
theorem wt_755 : Cond.laysFinal RX12 RX12 "keptStations" "[I" ∈ ah_TT := ah_TT_in (tb_4 (List.mem_of_getElem? (i := 230) rfl)) rfl
theorem wt_756 : Cond.laysFinal RX12 RX12 "keptMates" "[I" ∈ ah_TT := ah_TT_in (tb_4 (List.mem_of_getElem? (i := 232) rfl)) rfl
theorem wt_757 : Cond.laysFinal RX12 RX12 "keptSights" "[I" ∈ ah_TT := ah_TT_in (tb_4 (List.mem_of_getElem? (i := 234) rfl)) rfl
theorem wt_758 : Cond.lays RX12 RX12 "hash" "J" ∈ ah_TT := ah_TT_in (tb_4 (List.mem_of_getElem? (i := 236) rfl)) rfl
theorem inX0 : ∀ w ∈ u_ws RX0 TX0 8, w ∈ ah_TT := by
  intro w h
  have h : w ∈ [u_lay RX0 TX0 0, u_lay RX0 TX0 1, u_lay RX0 TX0 2, u_lay RX0 TX0 3, u_lay RX0 TX0 4, u_lay RX0 TX0 5, u_lay RX0 TX0 6, u_lay RX0 TX0 7] := h
  rcases List.mem_cons.mp h with rfl | h
  · exact wt_663
  rcases List.mem_cons.mp h with rfl | h
  · exact wt_664
  rcases List.mem_cons.mp h with rfl | h
  · exact wt_665
  rcases List.mem_cons.mp h with rfl | h
  · exact wt_666
  rcases List.mem_cons.mp h with rfl | h
  · exact wt_667
  rcases List.mem_cons.mp h with rfl | h
  · exact wt_668
  rcases List.mem_cons.mp h with rfl | h
  · exact wt_669
  rcases List.mem_cons.mp h with rfl | h
  · exact wt_670
  cases h
theorem inX1 : ∀ w ∈ u_ws RX1 TX1 4, w ∈ ah_TT := by
  intro w h
  have h : w ∈ [u_lay RX1 TX1 0, u_lay RX1 TX1 1, u_lay RX1 TX1 2, u_lay RX1 TX1 3] := h
  rcases List.mem_cons.mp h with rfl | h
  · exact wt_671
  rcases List.mem_cons.mp h with rfl | h
  · exact wt_672
  rcases List.mem_cons.mp h with rfl | h
  · exact wt_673
  rcases List.mem_cons.mp h with rfl | h
  · exact wt_674
  cases h
theorem inX2 : ∀ w ∈ u_ws RX2 TX2 9, w ∈ ah_TT := by
  intro w h
  have h : w ∈ [u_lay RX2 TX2 0, u_lay RX2 TX2 1, u_lay RX2 TX2 2, u_lay RX2 TX2 3, u_lay RX2 TX2 4, u_lay RX2 TX2 5, u_lay RX2 TX2 6, u_lay RX2 TX2 7, u_lay RX2 TX2 8] := h
  rcases List.mem_cons.mp h with rfl | h
  · exact wt_675
  rcases List.mem_cons.mp h with rfl | h
  · exact wt_676
  rcases List.mem_cons.mp h with rfl | h
  · exact wt_677
  rcases List.mem_cons.mp h with rfl | h
  · exact wt_678
  rcases List.mem_cons.mp h with rfl | h
  · exact wt_679
  rcases List.mem_cons.mp h with rfl | h
  · exact wt_680
  rcases List.mem_cons.mp h with rfl | h
  · exact wt_681
  rcases List.mem_cons.mp h with rfl | h
  · exact wt_682
  rcases List.mem_cons.mp h with rfl | h
  · exact wt_683
  cases h
theorem inX3 : ∀ w ∈ u_ws RX3 TX3 4, w ∈ ah_TT := by
  intro w h
  have h : w ∈ [u_lay RX3 TX3 0, u_lay RX3 TX3 1, u_lay RX3 TX3 2, u_lay RX3 TX3 3] := h
  rcases List.mem_cons.mp h with rfl | h
  · exact wt_684
  rcases List.mem_cons.mp h with rfl | h
  · exact wt_685
  rcases List.mem_cons.mp h with rfl | h
  · exact wt_686
  rcases List.mem_cons.mp h with rfl | h
  · exact wt_687
  cases h
theorem inX4 : ∀ w ∈ u_ws RX4 TX4 2, w ∈ ah_TT := by
  intro w h
  have h : w ∈ [u_lay RX4 TX4 0, u_lay RX4 TX4 1] := h
  rcases List.mem_cons.mp h with rfl | h
  · exact wt_688
  rcases List.mem_cons.mp h with rfl | h
  · exact wt_689
  cases h
theorem inX5 : ∀ w ∈ u_ws RX5 TX5 4, w ∈ ah_TT := by
  intro w h
  have h : w ∈ [u_lay RX5 TX5 0, u_lay RX5 TX5 1, u_lay RX5 TX5 2, u_lay RX5 TX5 3] := h
  rcases List.mem_cons.mp h with rfl | h
  · exact wt_690
  rcases List.mem_cons.mp h with rfl | h
  · exact wt_691
  rcases List.mem_cons.mp h with rfl | h
  · exact wt_692
  rcases List.mem_cons.mp h with rfl | h
  · exact wt_693
  cases h
theorem inX6 : ∀ w ∈ u_ws RX6 TX6 12, w ∈ ah_TT := by
  intro w h
  have h : w ∈ [u_lay RX6 TX6 0, u_lay RX6 TX6 1, u_lay RX6 TX6 2, u_lay RX6 TX6 3, u_lay RX6 TX6 4, u_lay RX6 TX6 5, u_lay RX6 TX6 6, u_lay RX6 TX6 7, u_lay RX6 TX6 8, u_lay RX6 TX6 9, u_lay RX6 TX6 10, u_lay RX6 TX6 11] := h
  rcases List.mem_cons.mp h with rfl | h
  · exact wt_694
  rcases List.mem_cons.mp h with rfl | h
  · exact wt_695
  rcases List.mem_cons.mp h with rfl | h
  · exact wt_696
  rcases List.mem_cons.mp h with rfl | h
  · exact wt_697
  rcases List.mem_cons.mp h with rfl | h
  · exact wt_698
  rcases List.mem_cons.mp h with rfl | h
  · exact wt_699
  rcases List.mem_cons.mp h with rfl | h
  · exact wt_700
  rcases List.mem_cons.mp h with rfl | h
  · exact wt_701
  rcases List.mem_cons.mp h with rfl | h
  · exact wt_702
  rcases List.mem_cons.mp h with rfl | h
  · exact wt_703
  rcases List.mem_cons.mp h with rfl | h
  · exact wt_704
  rcases List.mem_cons.mp h with rfl | h
  · exact wt_705
  cases h
theorem inX7 : ∀ w ∈ u_ws RX7 TX7 5, w ∈ ah_TT := by
  intro w h
  have h : w ∈ [u_lay RX7 TX7 0, u_lay RX7 TX7 1, u_lay RX7 TX7 2, u_lay RX7 TX7 3, u_lay RX7 TX7 4] := h
  rcases List.mem_cons.mp h with rfl | h
  · exact wt_706
  rcases List.mem_cons.mp h with rfl | h
  · exact wt_707
  rcases List.mem_cons.mp h with rfl | h
  · exact wt_708
  rcases List.mem_cons.mp h with rfl | h
  · exact wt_709
  rcases List.mem_cons.mp h with rfl | h
  · exact wt_710
  cases h
theorem inX8 : ∀ w ∈ u_ws RX8 TX8 4, w ∈ ah_TT := by
  intro w h
  have h : w ∈ [u_lay RX8 TX8 0, u_lay RX8 TX8 1, u_lay RX8 TX8 2, u_lay RX8 TX8 3] := h
  rcases List.mem_cons.mp h with rfl | h
  · exact wt_711
  rcases List.mem_cons.mp h with rfl | h
  · exact wt_712
  rcases List.mem_cons.mp h with rfl | h
  · exact wt_713
  rcases List.mem_cons.mp h with rfl | h
  · exact wt_714
  cases h
theorem inX9 : ∀ w ∈ u_ws RX9 TX9 4, w ∈ ah_TT := by
  intro w h
  have h : w ∈ [u_lay RX9 TX9 0, u_lay RX9 TX9 1, u_lay RX9 TX9 2, u_lay RX9 TX9 3] := h
  rcases List.mem_cons.mp h with rfl | h
  · exact wt_715
  rcases List.mem_cons.mp h with rfl | h
  · exact wt_716
  rcases List.mem_cons.mp h with rfl | h
  · exact wt_717
  rcases List.mem_cons.mp h with rfl | h
  · exact wt_718
  cases h
theorem inX10 : ∀ w ∈ u_ws RX10 TX10 4, w ∈ ah_TT := by
  intro w h
  have h : w ∈ [u_lay RX10 TX10 0, u_lay RX10 TX10 1, u_lay RX10 TX10 2, u_lay RX10 TX10 3] := h
  rcases List.mem_cons.mp h with rfl | h
  · exact wt_719
  rcases List.mem_cons.mp h with rfl | h
  · exact wt_720
  rcases List.mem_cons.mp h with rfl | h
  · exact wt_721
  rcases List.mem_cons.mp h with rfl | h
  · exact wt_722
  cases h
theorem inX11 : ∀ w ∈ u_ws RX11 TX11 6, w ∈ ah_TT := by
  intro w h
  have h : w ∈ [u_lay RX11 TX11 0, u_lay RX11 TX11 1, u_lay RX11 TX11 2, u_lay RX11 TX11 3, u_lay RX11 TX11 4, u_lay RX11 TX11 5] := h
  rcases List.mem_cons.mp h with rfl | h
  · exact wt_723
  rcases List.mem_cons.mp h with rfl | h
  · exact wt_724
  rcases List.mem_cons.mp h with rfl | h
  · exact wt_725
  rcases List.mem_cons.mp h with rfl | h
  · exact wt_726
  rcases List.mem_cons.mp h with rfl | h
  · exact wt_727
  rcases List.mem_cons.mp h with rfl | h
  · exact wt_728
  cases h
theorem inX12 : ∀ w ∈ u_ws RX12 TX12 30, w ∈ ah_TT := by
  intro w h
  have h : w ∈ [u_lay RX12 TX12 0, u_lay RX12 TX12 1, u_lay RX12 TX12 2, u_lay RX12 TX12 3, u_lay RX12 TX12 4, u_lay RX12 TX12 5, u_lay RX12 TX12 6, u_lay RX12 TX12 7, u_lay RX12 TX12 8, u_lay RX12 TX12 9, u_lay RX12 TX12 10, u_lay RX12 TX12 11, u_lay RX12 TX12 12, u_lay RX12 TX12 13, u_lay RX12 TX12 14, u_lay RX12 TX12 15, u_lay RX12 TX12 16, u_lay RX12 TX12 17, u_lay RX12 TX12 18, u_lay RX12 TX12 19, u_lay RX12 TX12 20, u_lay RX12 TX12 21, u_lay RX12 TX12 22, u_lay RX12 TX12 23, u_lay RX12 TX12 24, u_lay RX12 TX12 25, u_lay RX12 TX12 26, u_lay RX12 TX12 27, u_lay RX12 TX12 28, u_lay RX12 TX12 29] := h
  rcases List.mem_cons.mp h with rfl | h
  · exact wt_729
  rcases List.mem_cons.mp h with rfl | h
  · exact wt_730
  rcases List.mem_cons.mp h with rfl | h
  · exact wt_731
  rcases List.mem_cons.mp h with rfl | h
  · exact wt_732
  rcases List.mem_cons.mp h with rfl | h
  · exact wt_733
  rcases List.mem_cons.mp h with rfl | h
  · exact wt_734
  rcases List.mem_cons.mp h with rfl | h
  · exact wt_735
  rcases List.mem_cons.mp h with rfl | h
  · exact wt_736
  rcases List.mem_cons.mp h with rfl | h
  · exact wt_737
  rcases List.mem_cons.mp h with rfl | h
  · exact wt_738
  rcases List.mem_cons.mp h with rfl | h
  · exact wt_739
  rcases List.mem_cons.mp h with rfl | h
  · exact wt_740
  rcases List.mem_cons.mp h with rfl | h
  · exact wt_741
  rcases List.mem_cons.mp h with rfl | h
  · exact wt_742
  rcases List.mem_cons.mp h with rfl | h
  · exact wt_743
  rcases List.mem_cons.mp h with rfl | h
  · exact wt_744
  rcases List.mem_cons.mp h with rfl | h
  · exact wt_745
  rcases List.mem_cons.mp h with rfl | h
  · exact wt_746
  rcases List.mem_cons.mp h with rfl | h
  · exact wt_747
  rcases List.mem_cons.mp h with rfl | h
  · exact wt_748
  rcases List.mem_cons.mp h with rfl | h
  · exact wt_749
  rcases List.mem_cons.mp h with rfl | h
  · exact wt_750
  rcases List.mem_cons.mp h with rfl | h
  · exact wt_751
  rcases List.mem_cons.mp h with rfl | h
  · exact wt_752
  rcases List.mem_cons.mp h with rfl | h
  · exact wt_753
  rcases List.mem_cons.mp h with rfl | h
  · exact wt_754
  rcases List.mem_cons.mp h with rfl | h
  · exact wt_755
  rcases List.mem_cons.mp h with rfl | h
  · exact wt_756
  rcases List.mem_cons.mp h with rfl | h
  · exact wt_757
  rcases List.mem_cons.mp h with rfl | h
  · exact wt_758
  cases h
theorem fgX0_24 : ah_Fg RX0 24 [0] 2 := by
  intro ci h
  simp only [List.mem_cons, List.not_mem_nil, or_false] at h
  subst h
  exact ⟨RX0, TX0, 8, RX0, rfl, inX0, by decide, wt_0, Or.inl rfl⟩
theorem fgX0_11 : ah_Fg RX0 11 [0] 0 := by
  intro ci h
  simp only [List.mem_cons, List.not_mem_nil, or_false] at h
  subst h
  exact ⟨RX0, TX0, 8, RX0, rfl, inX0, by decide, wt_6, Or.inl rfl⟩
theorem fgX0_69 : ah_Fg RX0 69 [1, 3, 5, 8, 9] 3 := by
  intro ci h
  simp only [List.mem_cons, List.not_mem_nil, or_false] at h
  rcases h with rfl | rfl | rfl | rfl | rfl
  · exact ⟨RX1, TX1, 4, RX8, rfl, inX1, by decide, wt_7, Or.inl rfl⟩
  · exact ⟨RX3, TX3, 4, RX8, rfl, inX3, by decide, wt_7, Or.inl rfl⟩
  · exact ⟨RX5, TX5, 4, RX8, rfl, inX5, by decide, wt_7, Or.inl rfl⟩
  · exact ⟨RX8, TX8, 4, RX8, rfl, inX8, by decide, wt_7, Or.inl rfl⟩
  · exact ⟨RX9, TX9, 4, RX8, rfl, inX9, by decide, wt_7, Or.inl rfl⟩
theorem fgX1_9 : ah_Fg RX1 9 [1, 3] 0 := by
  intro ci h
  simp only [List.mem_cons, List.not_mem_nil, or_false] at h
  rcases h with rfl | rfl
  · exact ⟨RX1, TX1, 4, RX1, rfl, inX1, by decide, wt_8, Or.inr wt_9⟩
  · exact ⟨RX3, TX3, 4, RX1, rfl, inX3, by decide, wt_8, Or.inr wt_9⟩
theorem fgX1_15 : ah_Fg RX1 15 [1, 3, 5, 8, 9] 0 := by
  intro ci h
  simp only [List.mem_cons, List.not_mem_nil, or_false] at h
  rcases h with rfl | rfl | rfl | rfl | rfl
  · exact ⟨RX1, TX1, 4, RX8, rfl, inX1, by decide, wt_10, Or.inl rfl⟩
  · exact ⟨RX3, TX3, 4, RX8, rfl, inX3, by decide, wt_10, Or.inl rfl⟩
  · exact ⟨RX5, TX5, 4, RX8, rfl, inX5, by decide, wt_10, Or.inl rfl⟩
  · exact ⟨RX8, TX8, 4, RX8, rfl, inX8, by decide, wt_10, Or.inl rfl⟩
  · exact ⟨RX9, TX9, 4, RX8, rfl, inX9, by decide, wt_10, Or.inl rfl⟩
theorem fgX5_9 : ah_Fg RX5 9 [5] 0 := by
  intro ci h
  simp only [List.mem_cons, List.not_mem_nil, or_false] at h
  subst h
  exact ⟨RX5, TX5, 4, RX5, rfl, inX5, by decide, wt_12, Or.inr wt_13⟩
theorem fgX5_15 : ah_Fg RX5 15 [1, 3, 5, 8, 9] 0 := by
  intro ci h
  simp only [List.mem_cons, List.not_mem_nil, or_false] at h
  rcases h with rfl | rfl | rfl | rfl | rfl
  · exact ⟨RX1, TX1, 4, RX8, rfl, inX1, by decide, wt_14, Or.inl rfl⟩
  · exact ⟨RX3, TX3, 4, RX8, rfl, inX3, by decide, wt_14, Or.inl rfl⟩
  · exact ⟨RX5, TX5, 4, RX8, rfl, inX5, by decide, wt_14, Or.inl rfl⟩
  · exact ⟨RX8, TX8, 4, RX8, rfl, inX8, by decide, wt_14, Or.inl rfl⟩
  · exact ⟨RX9, TX9, 4, RX8, rfl, inX9, by decide, wt_14, Or.inl rfl⟩
theorem fgX5_16 : ah_Fg RX5 16 [5] 1 := by
  intro ci h
  simp only [List.mem_cons, List.not_mem_nil, or_false] at h
  subst h
  exact ⟨RX5, TX5, 4, RX5, rfl, inX5, by decide, wt_15, Or.inr wt_16⟩
theorem fgX5_19 : ah_Fg RX5 19 [1, 3, 5, 8, 9] 1 := by
  intro ci h
  simp only [List.mem_cons, List.not_mem_nil, or_false] at h
  rcases h with rfl | rfl | rfl | rfl | rfl
  · exact ⟨RX1, TX1, 4, RX8, rfl, inX1, by decide, wt_17, Or.inl rfl⟩
  · exact ⟨RX3, TX3, 4, RX8, rfl, inX3, by decide, wt_17, Or.inl rfl⟩
  · exact ⟨RX5, TX5, 4, RX8, rfl, inX5, by decide, wt_17, Or.inl rfl⟩
  · exact ⟨RX8, TX8, 4, RX8, rfl, inX8, by decide, wt_17, Or.inl rfl⟩
  · exact ⟨RX9, TX9, 4, RX8, rfl, inX9, by decide, wt_17, Or.inl rfl⟩
theorem fgX8_15 : ah_Fg RX8 15 [1, 3, 5, 8, 9] 0 := by
  intro ci h
  simp only [List.mem_cons, List.not_mem_nil, or_false] at h
  rcases h with rfl | rfl | rfl | rfl | rfl
  · exact ⟨RX1, TX1, 4, RX8, rfl, inX1, by decide, wt_18, Or.inl rfl⟩
  · exact ⟨RX3, TX3, 4, RX8, rfl, inX3, by decide, wt_18, Or.inl rfl⟩
  · exact ⟨RX5, TX5, 4, RX8, rfl, inX5, by decide, wt_18, Or.inl rfl⟩
  · exact ⟨RX8, TX8, 4, RX8, rfl, inX8, by decide, wt_18, Or.inl rfl⟩
  · exact ⟨RX9, TX9, 4, RX8, rfl, inX9, by decide, wt_18, Or.inl rfl⟩
theorem fgX8_18 : ah_Fg RX8 18 [1, 3, 5, 8, 9] 1 := by
  intro ci h
  simp only [List.mem_cons, List.not_mem_nil, or_false] at h
  rcases h with rfl | rfl | rfl | rfl | rfl
  · exact ⟨RX1, TX1, 4, RX8, rfl, inX1, by decide, wt_20, Or.inl rfl⟩
  · exact ⟨RX3, TX3, 4, RX8, rfl, inX3, by decide, wt_20, Or.inl rfl⟩
  · exact ⟨RX5, TX5, 4, RX8, rfl, inX5, by decide, wt_20, Or.inl rfl⟩
  · exact ⟨RX8, TX8, 4, RX8, rfl, inX8, by decide, wt_20, Or.inl rfl⟩
  · exact ⟨RX9, TX9, 4, RX8, rfl, inX9, by decide, wt_20, Or.inl rfl⟩
theorem fgX3_9 : ah_Fg RX3 9 [3] 1 := by
  intro ci h
  simp only [List.mem_cons, List.not_mem_nil, or_false] at h
  subst h
  exact ⟨RX3, TX3, 4, RX3, rfl, inX3, by decide, wt_25, Or.inr wt_26⟩
theorem fgX3_15 : ah_Fg RX3 15 [1, 3, 5, 8, 9] 1 := by
  intro ci h
  simp only [List.mem_cons, List.not_mem_nil, or_false] at h
  rcases h with rfl | rfl | rfl | rfl | rfl
  · exact ⟨RX1, TX1, 4, RX8, rfl, inX1, by decide, wt_27, Or.inl rfl⟩
  · exact ⟨RX3, TX3, 4, RX8, rfl, inX3, by decide, wt_27, Or.inl rfl⟩
  · exact ⟨RX5, TX5, 4, RX8, rfl, inX5, by decide, wt_27, Or.inl rfl⟩
  · exact ⟨RX8, TX8, 4, RX8, rfl, inX8, by decide, wt_27, Or.inl rfl⟩
  · exact ⟨RX9, TX9, 4, RX8, rfl, inX9, by decide, wt_27, Or.inl rfl⟩
theorem fgX0_83 : ah_Fg RX0 83 [1, 3, 5, 8, 9] 1 := by
  intro ci h
  simp only [List.mem_cons, List.not_mem_nil, or_false] at h
  rcases h with rfl | rfl | rfl | rfl | rfl
  · exact ⟨RX1, TX1, 4, RX8, rfl, inX1, by decide, wt_64, Or.inl rfl⟩
  · exact ⟨RX3, TX3, 4, RX8, rfl, inX3, by decide, wt_64, Or.inl rfl⟩
  · exact ⟨RX5, TX5, 4, RX8, rfl, inX5, by decide, wt_64, Or.inl rfl⟩
  · exact ⟨RX8, TX8, 4, RX8, rfl, inX8, by decide, wt_64, Or.inl rfl⟩
  · exact ⟨RX9, TX9, 4, RX8, rfl, inX9, by decide, wt_64, Or.inl rfl⟩
theorem fpX0_83 : ah_Fp RX0 83 [1, 3, 5, 8, 9] 1 .int := by
  intro ci h
  simp only [List.mem_cons, List.not_mem_nil, or_false] at h
  rcases h with rfl | rfl | rfl | rfl | rfl
  · exact ⟨RX1, TX1, 4, RX8, tyX1, rfl, inX1, by decide, wt_64, Or.inl rfl, tyX1_ok, nmX1, rfl, by decide⟩
  · exact ⟨RX3, TX3, 4, RX8, tyX3, rfl, inX3, by decide, wt_64, Or.inl rfl, tyX3_ok, nmX3, rfl, by decide⟩
  · exact ⟨RX5, TX5, 4, RX8, tyX5, rfl, inX5, by decide, wt_64, Or.inl rfl, tyX5_ok, nmX5, rfl, by decide⟩
  · exact ⟨RX8, TX8, 4, RX8, tyX8, rfl, inX8, by decide, wt_64, Or.inl rfl, tyX8_ok, nmX8, rfl, by decide⟩
  · exact ⟨RX9, TX9, 4, RX8, tyX9, rfl, inX9, by decide, wt_64, Or.inl rfl, tyX9_ok, nmX9, rfl, by decide⟩
theorem fgX0_88 : ah_Fg RX0 88 [1, 3, 5, 8, 9] 2 := by
  intro ci h
  simp only [List.mem_cons, List.not_mem_nil, or_false] at h
  rcases h with rfl | rfl | rfl | rfl | rfl
  · exact ⟨RX1, TX1, 4, RX8, rfl, inX1, by decide, wt_69, Or.inl rfl⟩
  · exact ⟨RX3, TX3, 4, RX8, rfl, inX3, by decide, wt_69, Or.inl rfl⟩
  · exact ⟨RX5, TX5, 4, RX8, rfl, inX5, by decide, wt_69, Or.inl rfl⟩
  · exact ⟨RX8, TX8, 4, RX8, rfl, inX8, by decide, wt_69, Or.inl rfl⟩
  · exact ⟨RX9, TX9, 4, RX8, rfl, inX9, by decide, wt_69, Or.inl rfl⟩
theorem fpX0_88 : ah_Fp RX0 88 [1, 3, 5, 8, 9] 2 .int := by
  intro ci h
  simp only [List.mem_cons, List.not_mem_nil, or_false] at h
  rcases h with rfl | rfl | rfl | rfl | rfl
  · exact ⟨RX1, TX1, 4, RX8, tyX1, rfl, inX1, by decide, wt_69, Or.inl rfl, tyX1_ok, nmX1, rfl, by decide⟩
  · exact ⟨RX3, TX3, 4, RX8, tyX3, rfl, inX3, by decide, wt_69, Or.inl rfl, tyX3_ok, nmX3, rfl, by decide⟩
  · exact ⟨RX5, TX5, 4, RX8, tyX5, rfl, inX5, by decide, wt_69, Or.inl rfl, tyX5_ok, nmX5, rfl, by decide⟩
  · exact ⟨RX8, TX8, 4, RX8, tyX8, rfl, inX8, by decide, wt_69, Or.inl rfl, tyX8_ok, nmX8, rfl, by decide⟩
  · exact ⟨RX9, TX9, 4, RX8, tyX9, rfl, inX9, by decide, wt_69, Or.inl rfl, tyX9_ok, nmX9, rfl, by decide⟩
theorem fgX0_28 : ah_Fg RX0 28 [0] 3 := by
  intro ci h
  simp only [List.mem_cons, List.not_mem_nil, or_false] at h
  subst h
  exact ⟨RX0, TX0, 8, RX0, rfl, inX0, by decide, wt_79, Or.inl rfl⟩
theorem fpX0_28 : ah_Fp RX0 28 [0] 3 .int := by
  intro ci h
  simp only [List.mem_cons, List.not_mem_nil, or_false] at h
  subst h
  exact ⟨RX0, TX0, 8, RX0, tyX0, rfl, inX0, by decide, wt_79, Or.inl rfl, tyX0_ok, nmX0, rfl, by decide⟩
theorem fpX0_69 : ah_Fp RX0 69 [1, 3, 5, 8, 9] 3 .int := by
  intro ci h
  simp only [List.mem_cons, List.not_mem_nil, or_false] at h
  rcases h with rfl | rfl | rfl | rfl | rfl
  · exact ⟨RX1, TX1, 4, RX8, tyX1, rfl, inX1, by decide, wt_7, Or.inl rfl, tyX1_ok, nmX1, rfl, by decide⟩
  · exact ⟨RX3, TX3, 4, RX8, tyX3, rfl, inX3, by decide, wt_7, Or.inl rfl, tyX3_ok, nmX3, rfl, by decide⟩
  · exact ⟨RX5, TX5, 4, RX8, tyX5, rfl, inX5, by decide, wt_7, Or.inl rfl, tyX5_ok, nmX5, rfl, by decide⟩
  · exact ⟨RX8, TX8, 4, RX8, tyX8, rfl, inX8, by decide, wt_7, Or.inl rfl, tyX8_ok, nmX8, rfl, by decide⟩
  · exact ⟨RX9, TX9, 4, RX8, tyX9, rfl, inX9, by decide, wt_7, Or.inl rfl, tyX9_ok, nmX9, rfl, by decide⟩
theorem fgX0_40 : ah_Fg RX0 40 [0] 7 := by
  intro ci h
  simp only [List.mem_cons, List.not_mem_nil, or_false] at h
  subst h
  exact ⟨RX0, TX0, 8, RX0, rfl, inX0, by decide, wt_80, Or.inl rfl⟩
theorem fgX0_122 : ah_Fg RX0 122 [1, 3, 5, 8, 9] 0 := by
  intro ci h
  simp only [List.mem_cons, List.not_mem_nil, or_false] at h
  rcases h with rfl | rfl | rfl | rfl | rfl
  · exact ⟨RX1, TX1, 4, RX8, rfl, inX1, by decide, wt_106, Or.inl rfl⟩
  · exact ⟨RX3, TX3, 4, RX8, rfl, inX3, by decide, wt_106, Or.inl rfl⟩
  · exact ⟨RX5, TX5, 4, RX8, rfl, inX5, by decide, wt_106, Or.inl rfl⟩
  · exact ⟨RX8, TX8, 4, RX8, rfl, inX8, by decide, wt_106, Or.inl rfl⟩
  · exact ⟨RX9, TX9, 4, RX8, rfl, inX9, by decide, wt_106, Or.inl rfl⟩
theorem fgX7_9 : ah_Fg RX7 9 [7] 0 := by
  intro ci h
  simp only [List.mem_cons, List.not_mem_nil, or_false] at h
  subst h
  exact ⟨RX7, TX7, 5, RX7, rfl, inX7, by decide, wt_111, Or.inl rfl⟩
theorem fpX7_9 : ah_Fp RX7 9 [7] 0 .int := by
  intro ci h
  simp only [List.mem_cons, List.not_mem_nil, or_false] at h
  subst h
  exact ⟨RX7, TX7, 5, RX7, tyX7, rfl, inX7, by decide, wt_111, Or.inl rfl, tyX7_ok, nmX7, rfl, by decide⟩
theorem fgX7_15 : ah_Fg RX7 15 [7] 1 := by
  intro ci h
  simp only [List.mem_cons, List.not_mem_nil, or_false] at h
  subst h
  exact ⟨RX7, TX7, 5, RX7, rfl, inX7, by decide, wt_112, Or.inl rfl⟩
theorem fgX7_19 : ah_Fg RX7 19 [7] 2 := by
  intro ci h
  simp only [List.mem_cons, List.not_mem_nil, or_false] at h
  subst h
  exact ⟨RX7, TX7, 5, RX7, rfl, inX7, by decide, wt_113, Or.inl rfl⟩
theorem fgX7_22 : ah_Fg RX7 22 [7] 3 := by
  intro ci h
  simp only [List.mem_cons, List.not_mem_nil, or_false] at h
  subst h
  exact ⟨RX7, TX7, 5, RX7, rfl, inX7, by decide, wt_114, Or.inl rfl⟩
theorem fgX2_45 : ah_Fg RX2 45 [0] 2 := by
  intro ci h
  simp only [List.mem_cons, List.not_mem_nil, or_false] at h
  subst h
  exact ⟨RX0, TX0, 8, RX0, rfl, inX0, by decide, wt_115, Or.inl rfl⟩
theorem fgX2_15 : ah_Fg RX2 15 [2] 1 := by
  intro ci h
  simp only [List.mem_cons, List.not_mem_nil, or_false] at h
  subst h
  exact ⟨RX2, TX2, 9, RX2, rfl, inX2, by decide, wt_116, Or.inl rfl⟩
theorem fgX2_50 : ah_Fg RX2 50 [0] 0 := by
  intro ci h
  simp only [List.mem_cons, List.not_mem_nil, or_false] at h
  subst h
  exact ⟨RX0, TX0, 8, RX0, rfl, inX0, by decide, wt_117, Or.inl rfl⟩
theorem fgX2_54 : ah_Fg RX2 54 [1, 3, 5, 8, 9] 1 := by
  intro ci h
  simp only [List.mem_cons, List.not_mem_nil, or_false] at h
  rcases h with rfl | rfl | rfl | rfl | rfl
  · exact ⟨RX1, TX1, 4, RX8, rfl, inX1, by decide, wt_118, Or.inl rfl⟩
  · exact ⟨RX3, TX3, 4, RX8, rfl, inX3, by decide, wt_118, Or.inl rfl⟩
  · exact ⟨RX5, TX5, 4, RX8, rfl, inX5, by decide, wt_118, Or.inl rfl⟩
  · exact ⟨RX8, TX8, 4, RX8, rfl, inX8, by decide, wt_118, Or.inl rfl⟩
  · exact ⟨RX9, TX9, 4, RX8, rfl, inX9, by decide, wt_118, Or.inl rfl⟩
theorem fgX2_19 : ah_Fg RX2 19 [2] 2 := by
  intro ci h
  simp only [List.mem_cons, List.not_mem_nil, or_false] at h
  subst h
  exact ⟨RX2, TX2, 9, RX2, rfl, inX2, by decide, wt_119, Or.inl rfl⟩
theorem fgX2_57 : ah_Fg RX2 57 [1, 3, 5, 8, 9] 2 := by
  intro ci h
  simp only [List.mem_cons, List.not_mem_nil, or_false] at h
  rcases h with rfl | rfl | rfl | rfl | rfl
  · exact ⟨RX1, TX1, 4, RX8, rfl, inX1, by decide, wt_120, Or.inl rfl⟩
  · exact ⟨RX3, TX3, 4, RX8, rfl, inX3, by decide, wt_120, Or.inl rfl⟩
  · exact ⟨RX5, TX5, 4, RX8, rfl, inX5, by decide, wt_120, Or.inl rfl⟩
  · exact ⟨RX8, TX8, 4, RX8, rfl, inX8, by decide, wt_120, Or.inl rfl⟩
  · exact ⟨RX9, TX9, 4, RX8, rfl, inX9, by decide, wt_120, Or.inl rfl⟩
theorem fgX2_22 : ah_Fg RX2 22 [2] 3 := by
  intro ci h
  simp only [List.mem_cons, List.not_mem_nil, or_false] at h
  subst h
  exact ⟨RX2, TX2, 9, RX2, rfl, inX2, by decide, wt_121, Or.inl rfl⟩
theorem fgX2_60 : ah_Fg RX2 60 [1, 3, 5, 8, 9] 3 := by
  intro ci h
  simp only [List.mem_cons, List.not_mem_nil, or_false] at h
  rcases h with rfl | rfl | rfl | rfl | rfl
  · exact ⟨RX1, TX1, 4, RX8, rfl, inX1, by decide, wt_122, Or.inl rfl⟩
  · exact ⟨RX3, TX3, 4, RX8, rfl, inX3, by decide, wt_122, Or.inl rfl⟩
  · exact ⟨RX5, TX5, 4, RX8, rfl, inX5, by decide, wt_122, Or.inl rfl⟩
  · exact ⟨RX8, TX8, 4, RX8, rfl, inX8, by decide, wt_122, Or.inl rfl⟩
  · exact ⟨RX9, TX9, 4, RX8, rfl, inX9, by decide, wt_122, Or.inl rfl⟩
theorem fgX2_28 : ah_Fg RX2 28 [2] 4 := by
  intro ci h
  simp only [List.mem_cons, List.not_mem_nil, or_false] at h
  subst h
  exact ⟨RX2, TX2, 9, RX2, rfl, inX2, by decide, wt_123, Or.inl rfl⟩
theorem fgX2_63 : ah_Fg RX2 63 [0] 1 := by
  intro ci h
  simp only [List.mem_cons, List.not_mem_nil, or_false] at h
  subst h
  exact ⟨RX0, TX0, 8, RX0, rfl, inX0, by decide, wt_124, Or.inl rfl⟩
theorem fgX2_68 : ah_Fg RX2 68 [0] 3 := by
  intro ci h
  simp only [List.mem_cons, List.not_mem_nil, or_false] at h
  subst h
  exact ⟨RX0, TX0, 8, RX0, rfl, inX0, by decide, wt_130, Or.inl rfl⟩
theorem fpX2_32 : ah_Fp RX2 32 [2] 5 .int := by
  intro ci h
  simp only [List.mem_cons, List.not_mem_nil, or_false] at h
  subst h
  exact ⟨RX2, TX2, 9, RX2, tyX2, rfl, inX2, by decide, wt_131, Or.inl rfl, tyX2_ok, nmX2, rfl, by decide⟩
theorem fgX2_69 : ah_Fg RX2 69 [0] 4 := by
  intro ci h
  simp only [List.mem_cons, List.not_mem_nil, or_false] at h
  subst h
  exact ⟨RX0, TX0, 8, RX0, rfl, inX0, by decide, wt_132, Or.inl rfl⟩
theorem fpX2_36 : ah_Fp RX2 36 [2] 6 .int := by
  intro ci h
  simp only [List.mem_cons, List.not_mem_nil, or_false] at h
  subst h
  exact ⟨RX2, TX2, 9, RX2, tyX2, rfl, inX2, by decide, wt_133, Or.inl rfl, tyX2_ok, nmX2, rfl, by decide⟩
theorem fgX2_70 : ah_Fg RX2 70 [0] 5 := by
  intro ci h
  simp only [List.mem_cons, List.not_mem_nil, or_false] at h
  subst h
  exact ⟨RX0, TX0, 8, RX0, rfl, inX0, by decide, wt_134, Or.inl rfl⟩
theorem fpX2_39 : ah_Fp RX2 39 [2] 7 .int := by
  intro ci h
  simp only [List.mem_cons, List.not_mem_nil, or_false] at h
  subst h
  exact ⟨RX2, TX2, 9, RX2, tyX2, rfl, inX2, by decide, wt_135, Or.inl rfl, tyX2_ok, nmX2, rfl, by decide⟩
theorem fgX2_71 : ah_Fg RX2 71 [0] 6 := by
  intro ci h
  simp only [List.mem_cons, List.not_mem_nil, or_false] at h
  subst h
  exact ⟨RX0, TX0, 8, RX0, rfl, inX0, by decide, wt_136, Or.inl rfl⟩
theorem fpX2_42 : ah_Fp RX2 42 [2] 8 .int := by
  intro ci h
  simp only [List.mem_cons, List.not_mem_nil, or_false] at h
  subst h
  exact ⟨RX2, TX2, 9, RX2, tyX2, rfl, inX2, by decide, wt_137, Or.inl rfl, tyX2_ok, nmX2, rfl, by decide⟩
theorem fpX2_9 : ah_Fp RX2 9 [2] 0 .boolean := by
  intro ci h
  simp only [List.mem_cons, List.not_mem_nil, or_false] at h
  subst h
  exact ⟨RX2, TX2, 9, RX2, tyX2, rfl, inX2, by decide, wt_138, Or.inl rfl, tyX2_ok, nmX2, rfl, by decide⟩
theorem fpX2_54 : ah_Fp RX2 54 [1, 3, 5, 8, 9] 1 .int := by
  intro ci h
  simp only [List.mem_cons, List.not_mem_nil, or_false] at h
  rcases h with rfl | rfl | rfl | rfl | rfl
  · exact ⟨RX1, TX1, 4, RX8, tyX1, rfl, inX1, by decide, wt_118, Or.inl rfl, tyX1_ok, nmX1, rfl, by decide⟩
  · exact ⟨RX3, TX3, 4, RX8, tyX3, rfl, inX3, by decide, wt_118, Or.inl rfl, tyX3_ok, nmX3, rfl, by decide⟩
  · exact ⟨RX5, TX5, 4, RX8, tyX5, rfl, inX5, by decide, wt_118, Or.inl rfl, tyX5_ok, nmX5, rfl, by decide⟩
  · exact ⟨RX8, TX8, 4, RX8, tyX8, rfl, inX8, by decide, wt_118, Or.inl rfl, tyX8_ok, nmX8, rfl, by decide⟩
  · exact ⟨RX9, TX9, 4, RX8, tyX9, rfl, inX9, by decide, wt_118, Or.inl rfl, tyX9_ok, nmX9, rfl, by decide⟩
theorem fpX2_57 : ah_Fp RX2 57 [1, 3, 5, 8, 9] 2 .int := by
  intro ci h
  simp only [List.mem_cons, List.not_mem_nil, or_false] at h
  rcases h with rfl | rfl | rfl | rfl | rfl
  · exact ⟨RX1, TX1, 4, RX8, tyX1, rfl, inX1, by decide, wt_120, Or.inl rfl, tyX1_ok, nmX1, rfl, by decide⟩
  · exact ⟨RX3, TX3, 4, RX8, tyX3, rfl, inX3, by decide, wt_120, Or.inl rfl, tyX3_ok, nmX3, rfl, by decide⟩
  · exact ⟨RX5, TX5, 4, RX8, tyX5, rfl, inX5, by decide, wt_120, Or.inl rfl, tyX5_ok, nmX5, rfl, by decide⟩
  · exact ⟨RX8, TX8, 4, RX8, tyX8, rfl, inX8, by decide, wt_120, Or.inl rfl, tyX8_ok, nmX8, rfl, by decide⟩
  · exact ⟨RX9, TX9, 4, RX8, tyX9, rfl, inX9, by decide, wt_120, Or.inl rfl, tyX9_ok, nmX9, rfl, by decide⟩
theorem fpX2_60 : ah_Fp RX2 60 [1, 3, 5, 8, 9] 3 .int := by
  intro ci h
  simp only [List.mem_cons, List.not_mem_nil, or_false] at h
  rcases h with rfl | rfl | rfl | rfl | rfl
  · exact ⟨RX1, TX1, 4, RX8, tyX1, rfl, inX1, by decide, wt_122, Or.inl rfl, tyX1_ok, nmX1, rfl, by decide⟩
  · exact ⟨RX3, TX3, 4, RX8, tyX3, rfl, inX3, by decide, wt_122, Or.inl rfl, tyX3_ok, nmX3, rfl, by decide⟩
  · exact ⟨RX5, TX5, 4, RX8, tyX5, rfl, inX5, by decide, wt_122, Or.inl rfl, tyX5_ok, nmX5, rfl, by decide⟩
  · exact ⟨RX8, TX8, 4, RX8, tyX8, rfl, inX8, by decide, wt_122, Or.inl rfl, tyX8_ok, nmX8, rfl, by decide⟩
  · exact ⟨RX9, TX9, 4, RX8, tyX9, rfl, inX9, by decide, wt_122, Or.inl rfl, tyX9_ok, nmX9, rfl, by decide⟩
theorem fgX2_32 : ah_Fg RX2 32 [2] 5 := by
  intro ci h
  simp only [List.mem_cons, List.not_mem_nil, or_false] at h
  subst h
  exact ⟨RX2, TX2, 9, RX2, rfl, inX2, by decide, wt_131, Or.inl rfl⟩
theorem fpX2_68 : ah_Fp RX2 68 [0] 3 .int := by
  intro ci h
  simp only [List.mem_cons, List.not_mem_nil, or_false] at h
  subst h
  exact ⟨RX0, TX0, 8, RX0, tyX0, rfl, inX0, by decide, wt_130, Or.inl rfl, tyX0_ok, nmX0, rfl, by decide⟩
theorem fgX2_36 : ah_Fg RX2 36 [2] 6 := by
  intro ci h
  simp only [List.mem_cons, List.not_mem_nil, or_false] at h
  subst h
  exact ⟨RX2, TX2, 9, RX2, rfl, inX2, by decide, wt_133, Or.inl rfl⟩
theorem fpX2_69 : ah_Fp RX2 69 [0] 4 .int := by
  intro ci h
  simp only [List.mem_cons, List.not_mem_nil, or_false] at h
  subst h
  exact ⟨RX0, TX0, 8, RX0, tyX0, rfl, inX0, by decide, wt_132, Or.inl rfl, tyX0_ok, nmX0, rfl, by decide⟩
theorem fgX2_39 : ah_Fg RX2 39 [2] 7 := by
  intro ci h
  simp only [List.mem_cons, List.not_mem_nil, or_false] at h
  subst h
  exact ⟨RX2, TX2, 9, RX2, rfl, inX2, by decide, wt_135, Or.inl rfl⟩
theorem fpX2_70 : ah_Fp RX2 70 [0] 5 .int := by
  intro ci h
  simp only [List.mem_cons, List.not_mem_nil, or_false] at h
  subst h
  exact ⟨RX0, TX0, 8, RX0, tyX0, rfl, inX0, by decide, wt_134, Or.inl rfl, tyX0_ok, nmX0, rfl, by decide⟩
theorem fgX2_42 : ah_Fg RX2 42 [2] 8 := by
  intro ci h
  simp only [List.mem_cons, List.not_mem_nil, or_false] at h
  subst h
  exact ⟨RX2, TX2, 9, RX2, rfl, inX2, by decide, wt_137, Or.inl rfl⟩
theorem fpX2_71 : ah_Fp RX2 71 [0] 6 .int := by
  intro ci h
  simp only [List.mem_cons, List.not_mem_nil, or_false] at h
  subst h
  exact ⟨RX0, TX0, 8, RX0, tyX0, rfl, inX0, by decide, wt_136, Or.inl rfl, tyX0_ok, nmX0, rfl, by decide⟩
theorem fgX4_15 : ah_Fg RX4 15 [4] 1 := by
  intro ci h
  simp only [List.mem_cons, List.not_mem_nil, or_false] at h
  subst h
  exact ⟨RX4, TX4, 2, RX4, rfl, inX4, by decide, wt_139, Or.inl rfl⟩
theorem fgX4_11 : ah_Fg RX4 11 [4] 0 := by
  intro ci h
  simp only [List.mem_cons, List.not_mem_nil, or_false] at h
  subst h
  exact ⟨RX4, TX4, 2, RX4, rfl, inX4, by decide, wt_140, Or.inl rfl⟩
theorem fpX4_15 : ah_Fp RX4 15 [4] 1 .int := by
  intro ci h
  simp only [List.mem_cons, List.not_mem_nil, or_false] at h
  subst h
  exact ⟨RX4, TX4, 2, RX4, tyX4, rfl, inX4, by decide, wt_139, Or.inl rfl, tyX4_ok, nmX4, rfl, by decide⟩
theorem fgX6_9 : ah_Fg RX6 9 [6] 4 := by
  intro ci h
  simp only [List.mem_cons, List.not_mem_nil, or_false] at h
  subst h
  exact ⟨RX6, TX6, 12, RX6, rfl, inX6, by decide, wt_150, Or.inl rfl⟩
theorem fgX6_62 : ah_Fg RX6 62 [0] 2 := by
  intro ci h
  simp only [List.mem_cons, List.not_mem_nil, or_false] at h
  subst h
  exact ⟨RX0, TX0, 8, RX0, rfl, inX0, by decide, wt_151, Or.inl rfl⟩
theorem fpX6_67 : ah_Fp RX6 67 [6] 8 .int := by
  intro ci h
  simp only [List.mem_cons, List.not_mem_nil, or_false] at h
  subst h
  exact ⟨RX6, TX6, 12, RX6, tyX6, rfl, inX6, by decide, wt_152, Or.inl rfl, tyX6_ok, nmX6, rfl, by decide⟩
theorem fgX6_67 : ah_Fg RX6 67 [6] 8 := by
  intro ci h
  simp only [List.mem_cons, List.not_mem_nil, or_false] at h
  subst h
  exact ⟨RX6, TX6, 12, RX6, rfl, inX6, by decide, wt_152, Or.inl rfl⟩
theorem fgX6_23 : ah_Fg RX6 23 [6] 7 := by
  intro ci h
  simp only [List.mem_cons, List.not_mem_nil, or_false] at h
  subst h
  exact ⟨RX6, TX6, 12, RX6, rfl, inX6, by decide, wt_153, Or.inl rfl⟩
theorem fgX6_68 : ah_Fg RX6 68 [0] 0 := by
  intro ci h
  simp only [List.mem_cons, List.not_mem_nil, or_false] at h
  subst h
  exact ⟨RX0, TX0, 8, RX0, rfl, inX0, by decide, wt_154, Or.inl rfl⟩
theorem fgX6_72 : ah_Fg RX6 72 [1, 3, 5, 8, 9] 2 := by
  intro ci h
  simp only [List.mem_cons, List.not_mem_nil, or_false] at h
  rcases h with rfl | rfl | rfl | rfl | rfl
  · exact ⟨RX1, TX1, 4, RX8, rfl, inX1, by decide, wt_155, Or.inl rfl⟩
  · exact ⟨RX3, TX3, 4, RX8, rfl, inX3, by decide, wt_155, Or.inl rfl⟩
  · exact ⟨RX5, TX5, 4, RX8, rfl, inX5, by decide, wt_155, Or.inl rfl⟩
  · exact ⟨RX8, TX8, 4, RX8, rfl, inX8, by decide, wt_155, Or.inl rfl⟩
  · exact ⟨RX9, TX9, 4, RX8, rfl, inX9, by decide, wt_155, Or.inl rfl⟩
theorem fgX6_20 : ah_Fg RX6 20 [6] 6 := by
  intro ci h
  simp only [List.mem_cons, List.not_mem_nil, or_false] at h
  subst h
  exact ⟨RX6, TX6, 12, RX6, rfl, inX6, by decide, wt_157, Or.inl rfl⟩
theorem fgX6_15 : ah_Fg RX6 15 [6] 5 := by
  intro ci h
  simp only [List.mem_cons, List.not_mem_nil, or_false] at h
  subst h
  exact ⟨RX6, TX6, 12, RX6, rfl, inX6, by decide, wt_159, Or.inl rfl⟩
theorem fgX6_26 : ah_Fg RX6 26 [6] 9 := by
  intro ci h
  simp only [List.mem_cons, List.not_mem_nil, or_false] at h
  subst h
  exact ⟨RX6, TX6, 12, RX6, rfl, inX6, by decide, wt_165, Or.inl rfl⟩
theorem fgX6_33 : ah_Fg RX6 33 [6] 0 := by
  intro ci h
  simp only [List.mem_cons, List.not_mem_nil, or_false] at h
  subst h
  exact ⟨RX6, TX6, 12, RX6, rfl, inX6, by decide, wt_170, Or.inl rfl⟩
theorem fpX6_33 : ah_Fp RX6 33 [6] 0 .int := by
  intro ci h
  simp only [List.mem_cons, List.not_mem_nil, or_false] at h
  subst h
  exact ⟨RX6, TX6, 12, RX6, tyX6, rfl, inX6, by decide, wt_170, Or.inl rfl, tyX6_ok, nmX6, rfl, by decide⟩
theorem fgX6_45 : ah_Fg RX6 45 [6] 11 := by
  intro ci h
  simp only [List.mem_cons, List.not_mem_nil, or_false] at h
  subst h
  exact ⟨RX6, TX6, 12, RX6, rfl, inX6, by decide, wt_175, Or.inl rfl⟩
theorem fpX6_45 : ah_Fp RX6 45 [6] 11 .int := by
  intro ci h
  simp only [List.mem_cons, List.not_mem_nil, or_false] at h
  subst h
  exact ⟨RX6, TX6, 12, RX6, tyX6, rfl, inX6, by decide, wt_175, Or.inl rfl, tyX6_ok, nmX6, rfl, by decide⟩
theorem fpX6_36 : ah_Fp RX6 36 [6] 1 .int := by
  intro ci h
  simp only [List.mem_cons, List.not_mem_nil, or_false] at h
  subst h
  exact ⟨RX6, TX6, 12, RX6, tyX6, rfl, inX6, by decide, wt_176, Or.inl rfl, tyX6_ok, nmX6, rfl, by decide⟩
theorem fpX6_39 : ah_Fp RX6 39 [6] 2 .int := by
  intro ci h
  simp only [List.mem_cons, List.not_mem_nil, or_false] at h
  subst h
  exact ⟨RX6, TX6, 12, RX6, tyX6, rfl, inX6, by decide, wt_177, Or.inl rfl, tyX6_ok, nmX6, rfl, by decide⟩
theorem fpX6_42 : ah_Fp RX6 42 [6] 3 .int := by
  intro ci h
  simp only [List.mem_cons, List.not_mem_nil, or_false] at h
  subst h
  exact ⟨RX6, TX6, 12, RX6, tyX6, rfl, inX6, by decide, wt_178, Or.inl rfl, tyX6_ok, nmX6, rfl, by decide⟩
theorem fgX6_30 : ah_Fg RX6 30 [6] 10 := by
  intro ci h
  simp only [List.mem_cons, List.not_mem_nil, or_false] at h
  subst h
  exact ⟨RX6, TX6, 12, RX6, rfl, inX6, by decide, wt_183, Or.inl rfl⟩
theorem fpX6_26 : ah_Fp RX6 26 [6] 9 .int := by
  intro ci h
  simp only [List.mem_cons, List.not_mem_nil, or_false] at h
  subst h
  exact ⟨RX6, TX6, 12, RX6, tyX6, rfl, inX6, by decide, wt_165, Or.inl rfl, tyX6_ok, nmX6, rfl, by decide⟩
theorem fpX6_30 : ah_Fp RX6 30 [6] 10 .int := by
  intro ci h
  simp only [List.mem_cons, List.not_mem_nil, or_false] at h
  subst h
  exact ⟨RX6, TX6, 12, RX6, tyX6, rfl, inX6, by decide, wt_183, Or.inl rfl, tyX6_ok, nmX6, rfl, by decide⟩
theorem fgX7_25 : ah_Fg RX7 25 [7] 4 := by
  intro ci h
  simp only [List.mem_cons, List.not_mem_nil, or_false] at h
  subst h
  exact ⟨RX7, TX7, 5, RX7, rfl, inX7, by decide, wt_209, Or.inl rfl⟩
theorem fgX7_38 : ah_Fg RX7 38 [0] 2 := by
  intro ci h
  simp only [List.mem_cons, List.not_mem_nil, or_false] at h
  subst h
  exact ⟨RX0, TX0, 8, RX0, rfl, inX0, by decide, wt_212, Or.inl rfl⟩
theorem fgX10_22 : ah_Fg RX10 22 [10] 2 := by
  intro ci h
  simp only [List.mem_cons, List.not_mem_nil, or_false] at h
  subst h
  exact ⟨RX10, TX10, 4, RX10, rfl, inX10, by decide, wt_218, Or.inl rfl⟩
theorem fpX10_22 : ah_Fp RX10 22 [10] 2 .long := by
  intro ci h
  simp only [List.mem_cons, List.not_mem_nil, or_false] at h
  subst h
  exact ⟨RX10, TX10, 4, RX10, tyX10, rfl, inX10, by decide, wt_218, Or.inl rfl, tyX10_ok, nmX10, rfl, by decide⟩
theorem fgX10_9 : ah_Fg RX10 9 [10] 3 := by
  intro ci h
  simp only [List.mem_cons, List.not_mem_nil, or_false] at h
  subst h
  exact ⟨RX10, TX10, 4, RX10, rfl, inX10, by decide, wt_226, Or.inl rfl⟩
theorem fgX10_15 : ah_Fg RX10 15 [10] 0 := by
  intro ci h
  simp only [List.mem_cons, List.not_mem_nil, or_false] at h
  subst h
  exact ⟨RX10, TX10, 4, RX10, rfl, inX10, by decide, wt_228, Or.inl rfl⟩
theorem fpX10_15 : ah_Fp RX10 15 [10] 0 .int := by
  intro ci h
  simp only [List.mem_cons, List.not_mem_nil, or_false] at h
  subst h
  exact ⟨RX10, TX10, 4, RX10, tyX10, rfl, inX10, by decide, wt_228, Or.inl rfl, tyX10_ok, nmX10, rfl, by decide⟩
theorem fgX10_19 : ah_Fg RX10 19 [10] 1 := by
  intro ci h
  simp only [List.mem_cons, List.not_mem_nil, or_false] at h
  subst h
  exact ⟨RX10, TX10, 4, RX10, rfl, inX10, by decide, wt_229, Or.inl rfl⟩
theorem fpX10_19 : ah_Fp RX10 19 [10] 1 .int := by
  intro ci h
  simp only [List.mem_cons, List.not_mem_nil, or_false] at h
  subst h
  exact ⟨RX10, TX10, 4, RX10, tyX10, rfl, inX10, by decide, wt_229, Or.inl rfl, tyX10_ok, nmX10, rfl, by decide⟩
theorem fgX10_26 : ah_Fg RX10 26 [0] 2 := by
  intro ci h
  simp only [List.mem_cons, List.not_mem_nil, or_false] at h
  subst h
  exact ⟨RX0, TX0, 8, RX0, rfl, inX0, by decide, wt_230, Or.inl rfl⟩
theorem fgX11_10 : ah_Fg RX11 10 [11] 0 := by
  intro ci h
  simp only [List.mem_cons, List.not_mem_nil, or_false] at h
  subst h
  exact ⟨RX11, TX11, 6, RX11, rfl, inX11, by decide, wt_241, Or.inl rfl⟩
theorem fgX11_52 : ah_Fg RX11 52 [4] 1 := by
  intro ci h
  simp only [List.mem_cons, List.not_mem_nil, or_false] at h
  subst h
  exact ⟨RX4, TX4, 2, RX4, rfl, inX4, by decide, wt_246, Or.inl rfl⟩
theorem fgX11_19 : ah_Fg RX11 19 [11] 1 := by
  intro ci h
  simp only [List.mem_cons, List.not_mem_nil, or_false] at h
  subst h
  exact ⟨RX11, TX11, 6, RX11, rfl, inX11, by decide, wt_252, Or.inl rfl⟩
theorem fgX11_80 : ah_Fg RX11 80 [0] 0 := by
  intro ci h
  simp only [List.mem_cons, List.not_mem_nil, or_false] at h
  subst h
  exact ⟨RX0, TX0, 8, RX0, rfl, inX0, by decide, wt_254, Or.inl rfl⟩
theorem fgX11_89 : ah_Fg RX11 89 [1, 3, 5, 8, 9] 0 := by
  intro ci h
  simp only [List.mem_cons, List.not_mem_nil, or_false] at h
  rcases h with rfl | rfl | rfl | rfl | rfl
  · exact ⟨RX1, TX1, 4, RX8, rfl, inX1, by decide, wt_272, Or.inl rfl⟩
  · exact ⟨RX3, TX3, 4, RX8, rfl, inX3, by decide, wt_272, Or.inl rfl⟩
  · exact ⟨RX5, TX5, 4, RX8, rfl, inX5, by decide, wt_272, Or.inl rfl⟩
  · exact ⟨RX8, TX8, 4, RX8, rfl, inX8, by decide, wt_272, Or.inl rfl⟩
  · exact ⟨RX9, TX9, 4, RX8, rfl, inX9, by decide, wt_272, Or.inl rfl⟩
theorem fgX11_92 : ah_Fg RX11 92 [1, 3, 5, 8, 9] 1 := by
  intro ci h
  simp only [List.mem_cons, List.not_mem_nil, or_false] at h
  rcases h with rfl | rfl | rfl | rfl | rfl
  · exact ⟨RX1, TX1, 4, RX8, rfl, inX1, by decide, wt_273, Or.inl rfl⟩
  · exact ⟨RX3, TX3, 4, RX8, rfl, inX3, by decide, wt_273, Or.inl rfl⟩
  · exact ⟨RX5, TX5, 4, RX8, rfl, inX5, by decide, wt_273, Or.inl rfl⟩
  · exact ⟨RX8, TX8, 4, RX8, rfl, inX8, by decide, wt_273, Or.inl rfl⟩
  · exact ⟨RX9, TX9, 4, RX8, rfl, inX9, by decide, wt_273, Or.inl rfl⟩
theorem fgX11_93 : ah_Fg RX11 93 [1, 3, 5, 8, 9] 2 := by
  intro ci h
  simp only [List.mem_cons, List.not_mem_nil, or_false] at h
  rcases h with rfl | rfl | rfl | rfl | rfl
  · exact ⟨RX1, TX1, 4, RX8, rfl, inX1, by decide, wt_274, Or.inl rfl⟩
  · exact ⟨RX3, TX3, 4, RX8, rfl, inX3, by decide, wt_274, Or.inl rfl⟩
  · exact ⟨RX5, TX5, 4, RX8, rfl, inX5, by decide, wt_274, Or.inl rfl⟩
  · exact ⟨RX8, TX8, 4, RX8, rfl, inX8, by decide, wt_274, Or.inl rfl⟩
  · exact ⟨RX9, TX9, 4, RX8, rfl, inX9, by decide, wt_274, Or.inl rfl⟩
theorem fgX11_96 : ah_Fg RX11 96 [1, 3, 5, 8, 9] 3 := by
  intro ci h
  simp only [List.mem_cons, List.not_mem_nil, or_false] at h
  rcases h with rfl | rfl | rfl | rfl | rfl
  · exact ⟨RX1, TX1, 4, RX8, rfl, inX1, by decide, wt_275, Or.inl rfl⟩
  · exact ⟨RX3, TX3, 4, RX8, rfl, inX3, by decide, wt_275, Or.inl rfl⟩
  · exact ⟨RX5, TX5, 4, RX8, rfl, inX5, by decide, wt_275, Or.inl rfl⟩
  · exact ⟨RX8, TX8, 4, RX8, rfl, inX8, by decide, wt_275, Or.inl rfl⟩
  · exact ⟨RX9, TX9, 4, RX8, rfl, inX9, by decide, wt_275, Or.inl rfl⟩
theorem fgX11_113 : ah_Fg RX11 113 [0] 1 := by
  intro ci h
  simp only [List.mem_cons, List.not_mem_nil, or_false] at h
  subst h
  exact ⟨RX0, TX0, 8, RX0, rfl, inX0, by decide, wt_286, Or.inl rfl⟩
theorem fgX11_158 : ah_Fg RX11 158 [0] 4 := by
  intro ci h
  simp only [List.mem_cons, List.not_mem_nil, or_false] at h
  subst h
  exact ⟨RX0, TX0, 8, RX0, rfl, inX0, by decide, wt_319, Or.inl rfl⟩
theorem fpX11_158 : ah_Fp RX11 158 [0] 4 .int := by
  intro ci h
  simp only [List.mem_cons, List.not_mem_nil, or_false] at h
  subst h
  exact ⟨RX0, TX0, 8, RX0, tyX0, rfl, inX0, by decide, wt_319, Or.inl rfl, tyX0_ok, nmX0, rfl, by decide⟩
theorem fgX11_165 : ah_Fg RX11 165 [0] 5 := by
  intro ci h
  simp only [List.mem_cons, List.not_mem_nil, or_false] at h
  subst h
  exact ⟨RX0, TX0, 8, RX0, rfl, inX0, by decide, wt_324, Or.inl rfl⟩
theorem fpX11_165 : ah_Fp RX11 165 [0] 5 .int := by
  intro ci h
  simp only [List.mem_cons, List.not_mem_nil, or_false] at h
  subst h
  exact ⟨RX0, TX0, 8, RX0, tyX0, rfl, inX0, by decide, wt_324, Or.inl rfl, tyX0_ok, nmX0, rfl, by decide⟩
theorem fpX11_92 : ah_Fp RX11 92 [1, 3, 5, 8, 9] 1 .int := by
  intro ci h
  simp only [List.mem_cons, List.not_mem_nil, or_false] at h
  rcases h with rfl | rfl | rfl | rfl | rfl
  · exact ⟨RX1, TX1, 4, RX8, tyX1, rfl, inX1, by decide, wt_273, Or.inl rfl, tyX1_ok, nmX1, rfl, by decide⟩
  · exact ⟨RX3, TX3, 4, RX8, tyX3, rfl, inX3, by decide, wt_273, Or.inl rfl, tyX3_ok, nmX3, rfl, by decide⟩
  · exact ⟨RX5, TX5, 4, RX8, tyX5, rfl, inX5, by decide, wt_273, Or.inl rfl, tyX5_ok, nmX5, rfl, by decide⟩
  · exact ⟨RX8, TX8, 4, RX8, tyX8, rfl, inX8, by decide, wt_273, Or.inl rfl, tyX8_ok, nmX8, rfl, by decide⟩
  · exact ⟨RX9, TX9, 4, RX8, tyX9, rfl, inX9, by decide, wt_273, Or.inl rfl, tyX9_ok, nmX9, rfl, by decide⟩
theorem fgX11_174 : ah_Fg RX11 174 [0] 6 := by
  intro ci h
  simp only [List.mem_cons, List.not_mem_nil, or_false] at h
  subst h
  exact ⟨RX0, TX0, 8, RX0, rfl, inX0, by decide, wt_333, Or.inl rfl⟩
theorem fpX11_174 : ah_Fp RX11 174 [0] 6 .int := by
  intro ci h
  simp only [List.mem_cons, List.not_mem_nil, or_false] at h
  subst h
  exact ⟨RX0, TX0, 8, RX0, tyX0, rfl, inX0, by decide, wt_333, Or.inl rfl, tyX0_ok, nmX0, rfl, by decide⟩
theorem fgX11_33 : ah_Fg RX11 33 [11] 3 := by
  intro ci h
  simp only [List.mem_cons, List.not_mem_nil, or_false] at h
  subst h
  exact ⟨RX11, TX11, 6, RX11, rfl, inX11, by decide, wt_338, Or.inl rfl⟩
theorem fgX11_270 : ah_Fg RX11 270 [6] 1 := by
  intro ci h
  simp only [List.mem_cons, List.not_mem_nil, or_false] at h
  subst h
  exact ⟨RX6, TX6, 12, RX6, rfl, inX6, by decide, wt_339, Or.inl rfl⟩
theorem fgX11_271 : ah_Fg RX11 271 [6] 2 := by
  intro ci h
  simp only [List.mem_cons, List.not_mem_nil, or_false] at h
  subst h
  exact ⟨RX6, TX6, 12, RX6, rfl, inX6, by decide, wt_340, Or.inl rfl⟩
theorem fgX11_275 : ah_Fg RX11 275 [6] 3 := by
  intro ci h
  simp only [List.mem_cons, List.not_mem_nil, or_false] at h
  subst h
  exact ⟨RX6, TX6, 12, RX6, rfl, inX6, by decide, wt_356, Or.inl rfl⟩
theorem fgX11_276 : ah_Fg RX11 276 [6] 0 := by
  intro ci h
  simp only [List.mem_cons, List.not_mem_nil, or_false] at h
  subst h
  exact ⟨RX6, TX6, 12, RX6, rfl, inX6, by decide, wt_361, Or.inl rfl⟩
theorem fgX11_212 : ah_Fg RX11 212 [7] 0 := by
  intro ci h
  simp only [List.mem_cons, List.not_mem_nil, or_false] at h
  subst h
  exact ⟨RX7, TX7, 5, RX7, rfl, inX7, by decide, wt_385, Or.inl rfl⟩
theorem fgX11_40 : ah_Fg RX11 40 [11] 4 := by
  intro ci h
  simp only [List.mem_cons, List.not_mem_nil, or_false] at h
  subst h
  exact ⟨RX11, TX11, 6, RX11, rfl, inX11, by decide, wt_390, Or.inl rfl⟩
theorem fgX11_217 : ah_Fg RX11 217 [10] 0 := by
  intro ci h
  simp only [List.mem_cons, List.not_mem_nil, or_false] at h
  subst h
  exact ⟨RX10, TX10, 4, RX10, rfl, inX10, by decide, wt_395, Or.inl rfl⟩
theorem fgX11_219 : ah_Fg RX11 219 [10] 1 := by
  intro ci h
  simp only [List.mem_cons, List.not_mem_nil, or_false] at h
  subst h
  exact ⟨RX10, TX10, 4, RX10, rfl, inX10, by decide, wt_396, Or.inl rfl⟩
theorem fgX11_222 : ah_Fg RX11 222 [10] 2 := by
  intro ci h
  simp only [List.mem_cons, List.not_mem_nil, or_false] at h
  subst h
  exact ⟨RX10, TX10, 4, RX10, rfl, inX10, by decide, wt_397, Or.inl rfl⟩
theorem fgX11_26 : ah_Fg RX11 26 [11] 2 := by
  intro ci h
  simp only [List.mem_cons, List.not_mem_nil, or_false] at h
  subst h
  exact ⟨RX11, TX11, 6, RX11, rfl, inX11, by decide, wt_398, Or.inl rfl⟩
theorem fgX11_230 : ah_Fg RX11 230 [0] 3 := by
  intro ci h
  simp only [List.mem_cons, List.not_mem_nil, or_false] at h
  subst h
  exact ⟨RX0, TX0, 8, RX0, rfl, inX0, by decide, wt_404, Or.inl rfl⟩
theorem fgX11_70 : ah_Fg RX11 70 [2] 0 := by
  intro ci h
  simp only [List.mem_cons, List.not_mem_nil, or_false] at h
  subst h
  exact ⟨RX2, TX2, 9, RX2, rfl, inX2, by decide, wt_405, Or.inl rfl⟩
theorem fgX11_74 : ah_Fg RX11 74 [0] 2 := by
  intro ci h
  simp only [List.mem_cons, List.not_mem_nil, or_false] at h
  subst h
  exact ⟨RX0, TX0, 8, RX0, rfl, inX0, by decide, wt_410, Or.inl rfl⟩
theorem fgX11_44 : ah_Fg RX11 44 [11] 5 := by
  intro ci h
  simp only [List.mem_cons, List.not_mem_nil, or_false] at h
  subst h
  exact ⟨RX11, TX11, 6, RX11, rfl, inX11, by decide, wt_420, Or.inl rfl⟩
theorem fgX11_261 : ah_Fg RX11 261 [4] 0 := by
  intro ci h
  simp only [List.mem_cons, List.not_mem_nil, or_false] at h
  subst h
  exact ⟨RX4, TX4, 2, RX4, rfl, inX4, by decide, wt_438, Or.inl rfl⟩
theorem fgX12_62 : ah_Fg RX12 62 [12] 1 := by
  intro ci h
  simp only [List.mem_cons, List.not_mem_nil, or_false] at h
  subst h
  exact ⟨RX12, TX12, 30, RX12, rfl, inX12, by decide, wt_448, Or.inl rfl⟩
theorem fgX12_7 : ah_Fg RX12 7 [12] 0 := by
  intro ci h
  simp only [List.mem_cons, List.not_mem_nil, or_false] at h
  subst h
  exact ⟨RX12, TX12, 30, RX12, rfl, inX12, by decide, wt_449, Or.inl rfl⟩
theorem fpX12_62 : ah_Fp RX12 62 [12] 1 .int := by
  intro ci h
  simp only [List.mem_cons, List.not_mem_nil, or_false] at h
  subst h
  exact ⟨RX12, TX12, 30, RX12, tyX12, rfl, inX12, by decide, wt_448, Or.inl rfl, tyX12_ok, nmX12, rfl, by decide⟩
theorem fpX12_85 : ah_Fp RX12 85 [12] 2 .int := by
  intro ci h
  simp only [List.mem_cons, List.not_mem_nil, or_false] at h
  subst h
  exact ⟨RX12, TX12, 30, RX12, tyX12, rfl, inX12, by decide, wt_464, Or.inl rfl, tyX12_ok, nmX12, rfl, by decide⟩
theorem fgX12_85 : ah_Fg RX12 85 [12] 2 := by
  intro ci h
  simp only [List.mem_cons, List.not_mem_nil, or_false] at h
  subst h
  exact ⟨RX12, TX12, 30, RX12, rfl, inX12, by decide, wt_464, Or.inl rfl⟩
theorem fgX12_13 : ah_Fg RX12 13 [12] 8 := by
  intro ci h
  simp only [List.mem_cons, List.not_mem_nil, or_false] at h
  subst h
  exact ⟨RX12, TX12, 30, RX12, rfl, inX12, by decide, wt_465, Or.inl rfl⟩
theorem fgX12_16 : ah_Fg RX12 16 [12] 9 := by
  intro ci h
  simp only [List.mem_cons, List.not_mem_nil, or_false] at h
  subst h
  exact ⟨RX12, TX12, 30, RX12, rfl, inX12, by decide, wt_466, Or.inl rfl⟩
theorem fgX12_19 : ah_Fg RX12 19 [12] 10 := by
  intro ci h
  simp only [List.mem_cons, List.not_mem_nil, or_false] at h
  subst h
  exact ⟨RX12, TX12, 30, RX12, rfl, inX12, by decide, wt_467, Or.inl rfl⟩
theorem fgX12_22 : ah_Fg RX12 22 [12] 11 := by
  intro ci h
  simp only [List.mem_cons, List.not_mem_nil, or_false] at h
  subst h
  exact ⟨RX12, TX12, 30, RX12, rfl, inX12, by decide, wt_468, Or.inl rfl⟩
theorem fpX12_88 : ah_Fp RX12 88 [12] 3 .int := by
  intro ci h
  simp only [List.mem_cons, List.not_mem_nil, or_false] at h
  subst h
  exact ⟨RX12, TX12, 30, RX12, tyX12, rfl, inX12, by decide, wt_469, Or.inl rfl, tyX12_ok, nmX12, rfl, by decide⟩
theorem fpX12_91 : ah_Fp RX12 91 [12] 4 .int := by
  intro ci h
  simp only [List.mem_cons, List.not_mem_nil, or_false] at h
  subst h
  exact ⟨RX12, TX12, 30, RX12, tyX12, rfl, inX12, by decide, wt_470, Or.inl rfl, tyX12_ok, nmX12, rfl, by decide⟩
theorem fpX12_94 : ah_Fp RX12 94 [12] 5 .int := by
  intro ci h
  simp only [List.mem_cons, List.not_mem_nil, or_false] at h
  subst h
  exact ⟨RX12, TX12, 30, RX12, tyX12, rfl, inX12, by decide, wt_471, Or.inl rfl, tyX12_ok, nmX12, rfl, by decide⟩
theorem fpX12_97 : ah_Fp RX12 97 [12] 6 .int := by
  intro ci h
  simp only [List.mem_cons, List.not_mem_nil, or_false] at h
  subst h
  exact ⟨RX12, TX12, 30, RX12, tyX12, rfl, inX12, by decide, wt_472, Or.inl rfl, tyX12_ok, nmX12, rfl, by decide⟩
theorem fpX12_100 : ah_Fp RX12 100 [12] 15 .int := by
  intro ci h
  simp only [List.mem_cons, List.not_mem_nil, or_false] at h
  subst h
  exact ⟨RX12, TX12, 30, RX12, tyX12, rfl, inX12, by decide, wt_473, Or.inl rfl, tyX12_ok, nmX12, rfl, by decide⟩
theorem fgX12_103 : ah_Fg RX12 103 [12] 7 := by
  intro ci h
  simp only [List.mem_cons, List.not_mem_nil, or_false] at h
  subst h
  exact ⟨RX12, TX12, 30, RX12, rfl, inX12, by decide, wt_474, Or.inl rfl⟩
theorem fpX12_103 : ah_Fp RX12 103 [12] 7 .int := by
  intro ci h
  simp only [List.mem_cons, List.not_mem_nil, or_false] at h
  subst h
  exact ⟨RX12, TX12, 30, RX12, tyX12, rfl, inX12, by decide, wt_474, Or.inl rfl, tyX12_ok, nmX12, rfl, by decide⟩
theorem fgX12_100 : ah_Fg RX12 100 [12] 15 := by
  intro ci h
  simp only [List.mem_cons, List.not_mem_nil, or_false] at h
  subst h
  exact ⟨RX12, TX12, 30, RX12, rfl, inX12, by decide, wt_473, Or.inl rfl⟩
theorem fgX12_34 : ah_Fg RX12 34 [12] 16 := by
  intro ci h
  simp only [List.mem_cons, List.not_mem_nil, or_false] at h
  subst h
  exact ⟨RX12, TX12, 30, RX12, rfl, inX12, by decide, wt_510, Or.inl rfl⟩
theorem fgX12_37 : ah_Fg RX12 37 [12] 17 := by
  intro ci h
  simp only [List.mem_cons, List.not_mem_nil, or_false] at h
  subst h
  exact ⟨RX12, TX12, 30, RX12, rfl, inX12, by decide, wt_519, Or.inl rfl⟩
theorem fgX12_88 : ah_Fg RX12 88 [12] 3 := by
  intro ci h
  simp only [List.mem_cons, List.not_mem_nil, or_false] at h
  subst h
  exact ⟨RX12, TX12, 30, RX12, rfl, inX12, by decide, wt_469, Or.inl rfl⟩
theorem fgX12_91 : ah_Fg RX12 91 [12] 4 := by
  intro ci h
  simp only [List.mem_cons, List.not_mem_nil, or_false] at h
  subst h
  exact ⟨RX12, TX12, 30, RX12, rfl, inX12, by decide, wt_470, Or.inl rfl⟩
theorem fgX12_94 : ah_Fg RX12 94 [12] 5 := by
  intro ci h
  simp only [List.mem_cons, List.not_mem_nil, or_false] at h
  subst h
  exact ⟨RX12, TX12, 30, RX12, rfl, inX12, by decide, wt_471, Or.inl rfl⟩
theorem fgX12_25 : ah_Fg RX12 25 [12] 12 := by
  intro ci h
  simp only [List.mem_cons, List.not_mem_nil, or_false] at h
  subst h
  exact ⟨RX12, TX12, 30, RX12, rfl, inX12, by decide, wt_551, Or.inl rfl⟩
theorem fgX12_97 : ah_Fg RX12 97 [12] 6 := by
  intro ci h
  simp only [List.mem_cons, List.not_mem_nil, or_false] at h
  subst h
  exact ⟨RX12, TX12, 30, RX12, rfl, inX12, by decide, wt_472, Or.inl rfl⟩
theorem fgX12_28 : ah_Fg RX12 28 [12] 13 := by
  intro ci h
  simp only [List.mem_cons, List.not_mem_nil, or_false] at h
  subst h
  exact ⟨RX12, TX12, 30, RX12, rfl, inX12, by decide, wt_559, Or.inl rfl⟩
theorem fgX12_31 : ah_Fg RX12 31 [12] 14 := by
  intro ci h
  simp only [List.mem_cons, List.not_mem_nil, or_false] at h
  subst h
  exact ⟨RX12, TX12, 30, RX12, rfl, inX12, by decide, wt_560, Or.inl rfl⟩
theorem fgX12_227 : ah_Fg RX12 227 [12] 18 := by
  intro ci h
  simp only [List.mem_cons, List.not_mem_nil, or_false] at h
  subst h
  exact ⟨RX12, TX12, 30, RX12, rfl, inX12, by decide, wt_613, Or.inl rfl⟩
theorem fpX12_227 : ah_Fp RX12 227 [12] 18 .int := by
  intro ci h
  simp only [List.mem_cons, List.not_mem_nil, or_false] at h
  subst h
  exact ⟨RX12, TX12, 30, RX12, tyX12, rfl, inX12, by decide, wt_613, Or.inl rfl, tyX12_ok, nmX12, rfl, by decide⟩
theorem fgX12_40 : ah_Fg RX12 40 [12] 25 := by
  intro ci h
  simp only [List.mem_cons, List.not_mem_nil, or_false] at h
  subst h
  exact ⟨RX12, TX12, 30, RX12, rfl, inX12, by decide, wt_623, Or.inl rfl⟩
theorem fgX12_43 : ah_Fg RX12 43 [12] 26 := by
  intro ci h
  simp only [List.mem_cons, List.not_mem_nil, or_false] at h
  subst h
  exact ⟨RX12, TX12, 30, RX12, rfl, inX12, by decide, wt_624, Or.inl rfl⟩
theorem fgX12_46 : ah_Fg RX12 46 [12] 27 := by
  intro ci h
  simp only [List.mem_cons, List.not_mem_nil, or_false] at h
  subst h
  exact ⟨RX12, TX12, 30, RX12, rfl, inX12, by decide, wt_625, Or.inl rfl⟩
theorem fgX12_49 : ah_Fg RX12 49 [12] 28 := by
  intro ci h
  simp only [List.mem_cons, List.not_mem_nil, or_false] at h
  subst h
  exact ⟨RX12, TX12, 30, RX12, rfl, inX12, by decide, wt_626, Or.inl rfl⟩
theorem fpX12_242 : ah_Fp RX12 242 [12] 20 .int := by
  intro ci h
  simp only [List.mem_cons, List.not_mem_nil, or_false] at h
  subst h
  exact ⟨RX12, TX12, 30, RX12, tyX12, rfl, inX12, by decide, wt_627, Or.inl rfl, tyX12_ok, nmX12, rfl, by decide⟩
theorem fpX12_245 : ah_Fp RX12 245 [12] 21 .int := by
  intro ci h
  simp only [List.mem_cons, List.not_mem_nil, or_false] at h
  subst h
  exact ⟨RX12, TX12, 30, RX12, tyX12, rfl, inX12, by decide, wt_628, Or.inl rfl, tyX12_ok, nmX12, rfl, by decide⟩
theorem fpX12_248 : ah_Fp RX12 248 [12] 22 .int := by
  intro ci h
  simp only [List.mem_cons, List.not_mem_nil, or_false] at h
  subst h
  exact ⟨RX12, TX12, 30, RX12, tyX12, rfl, inX12, by decide, wt_629, Or.inl rfl, tyX12_ok, nmX12, rfl, by decide⟩
theorem fpX12_251 : ah_Fp RX12 251 [12] 23 .int := by
  intro ci h
  simp only [List.mem_cons, List.not_mem_nil, or_false] at h
  subst h
  exact ⟨RX12, TX12, 30, RX12, tyX12, rfl, inX12, by decide, wt_630, Or.inl rfl, tyX12_ok, nmX12, rfl, by decide⟩
theorem fpX12_254 : ah_Fp RX12 254 [12] 24 .int := by
  intro ci h
  simp only [List.mem_cons, List.not_mem_nil, or_false] at h
  subst h
  exact ⟨RX12, TX12, 30, RX12, tyX12, rfl, inX12, by decide, wt_631, Or.inl rfl, tyX12_ok, nmX12, rfl, by decide⟩
theorem fpX12_52 : ah_Fp RX12 52 [12] 19 .int := by
  intro ci h
  simp only [List.mem_cons, List.not_mem_nil, or_false] at h
  subst h
  exact ⟨RX12, TX12, 30, RX12, tyX12, rfl, inX12, by decide, wt_632, Or.inl rfl, tyX12_ok, nmX12, rfl, by decide⟩
theorem fgX12_52 : ah_Fg RX12 52 [12] 19 := by
  intro ci h
  simp only [List.mem_cons, List.not_mem_nil, or_false] at h
  subst h
  exact ⟨RX12, TX12, 30, RX12, rfl, inX12, by decide, wt_632, Or.inl rfl⟩
theorem fgX12_242 : ah_Fg RX12 242 [12] 20 := by
  intro ci h
  simp only [List.mem_cons, List.not_mem_nil, or_false] at h
  subst h
  exact ⟨RX12, TX12, 30, RX12, rfl, inX12, by decide, wt_627, Or.inl rfl⟩
theorem fgX12_245 : ah_Fg RX12 245 [12] 21 := by
  intro ci h
  simp only [List.mem_cons, List.not_mem_nil, or_false] at h
  subst h
  exact ⟨RX12, TX12, 30, RX12, rfl, inX12, by decide, wt_628, Or.inl rfl⟩
theorem fgX12_248 : ah_Fg RX12 248 [12] 22 := by
  intro ci h
  simp only [List.mem_cons, List.not_mem_nil, or_false] at h
  subst h
  exact ⟨RX12, TX12, 30, RX12, rfl, inX12, by decide, wt_629, Or.inl rfl⟩
theorem fgX12_251 : ah_Fg RX12 251 [12] 23 := by
  intro ci h
  simp only [List.mem_cons, List.not_mem_nil, or_false] at h
  subst h
  exact ⟨RX12, TX12, 30, RX12, rfl, inX12, by decide, wt_630, Or.inl rfl⟩
theorem fgX12_254 : ah_Fg RX12 254 [12] 24 := by
  intro ci h
  simp only [List.mem_cons, List.not_mem_nil, or_false] at h
  subst h
  exact ⟨RX12, TX12, 30, RX12, rfl, inX12, by decide, wt_631, Or.inl rfl⟩
theorem fgX12_274 : ah_Fg RX12 274 [12] 29 := by
  intro ci h
  simp only [List.mem_cons, List.not_mem_nil, or_false] at h
  subst h
  exact ⟨RX12, TX12, 30, RX12, rfl, inX12, by decide, wt_653, Or.inl rfl⟩
theorem fpX12_274 : ah_Fp RX12 274 [12] 29 .long := by
  intro ci h
  simp only [List.mem_cons, List.not_mem_nil, or_false] at h
  subst h
  exact ⟨RX12, TX12, 30, RX12, tyX12, rfl, inX12, by decide, wt_653, Or.inl rfl, tyX12_ok, nmX12, rfl, by decide⟩
def ah_N0 (s0 : State) : Prop := va_Nc RX5 RX1 s0 ∧ va_Nc RX8 RX1 s0 ∧ va_Nc RX9 RX1 s0 ∧ va_Nc RX1 RX9 s0 ∧ va_Nc RX3 RX9 s0 ∧ va_Nc RX5 RX9 s0 ∧ va_Nc RX8 RX9 s0 ∧ va_Nc RX1 RX5 s0 ∧ va_Nc RX3 RX5 s0 ∧ va_Nc RX8 RX5 s0 ∧ va_Nc RX9 RX5 s0 ∧ va_Nc RX1 RX3 s0 ∧ va_Nc RX5 RX3 s0 ∧ va_Nc RX8 RX3 s0 ∧ va_Nc RX9 RX3 s0 ∧ va_Nw (.castable RX3 RX1) s0
def ah_Z0 (s0 : State) (ad : Nat → Nat) : Prop := ∃ av : Nat, vk_R RX4 27 "sgkrm" (ad 1000) s0 ∧ vk_S 1 [5] [[115, 103, 107, 114, 109]] (fun _ => ad 1000) (fun _ => av) (fun q => s0.heap.size ≤ q) s0 s0.heap ∧ va_Z "java/lang/String" "COMPACT_STRINGS" "Z" (.int 1) (fun q => s0.heap.size ≤ q) s0 s0.heap
def ah_W0 (s0 : State) (ad : Nat → Nat) (A : Nat → Prop) : Prop := (∀ q, A q → s0.heap.size ≤ q) ∧ ah_N0 s0 ∧ ah_Z0 s0 ad
theorem yc_0 {s0 : State} {ad : Nat → Nat} {A : Nat → Prop} (hW : ah_W0 s0 ad A) : va_Nw (.castable RX3 RX1) s0 := hW.2.1.2.2.2.2.2.2.2.2.2.2.2.2.2.2.2
theorem nc_0 {s0 : State} {ad : Nat → Nat} {A : Nat → Prop} (hW : ah_W0 s0 ad A) : va_Nc RX5 RX1 s0 := hW.2.1.1
theorem nc_1 {s0 : State} {ad : Nat → Nat} {A : Nat → Prop} (hW : ah_W0 s0 ad A) : va_Nc RX8 RX1 s0 := hW.2.1.2.1
theorem nc_2 {s0 : State} {ad : Nat → Nat} {A : Nat → Prop} (hW : ah_W0 s0 ad A) : va_Nc RX9 RX1 s0 := hW.2.1.2.2.1
theorem nc_3 {s0 : State} {ad : Nat → Nat} {A : Nat → Prop} (hW : ah_W0 s0 ad A) : va_Nc RX1 RX9 s0 := hW.2.1.2.2.2.1
theorem nc_4 {s0 : State} {ad : Nat → Nat} {A : Nat → Prop} (hW : ah_W0 s0 ad A) : va_Nc RX3 RX9 s0 := hW.2.1.2.2.2.2.1
theorem nc_5 {s0 : State} {ad : Nat → Nat} {A : Nat → Prop} (hW : ah_W0 s0 ad A) : va_Nc RX5 RX9 s0 := hW.2.1.2.2.2.2.2.1
theorem nc_6 {s0 : State} {ad : Nat → Nat} {A : Nat → Prop} (hW : ah_W0 s0 ad A) : va_Nc RX8 RX9 s0 := hW.2.1.2.2.2.2.2.2.1
theorem nc_7 {s0 : State} {ad : Nat → Nat} {A : Nat → Prop} (hW : ah_W0 s0 ad A) : va_Nc RX1 RX5 s0 := hW.2.1.2.2.2.2.2.2.2.1
theorem nc_8 {s0 : State} {ad : Nat → Nat} {A : Nat → Prop} (hW : ah_W0 s0 ad A) : va_Nc RX3 RX5 s0 := hW.2.1.2.2.2.2.2.2.2.2.1
theorem nc_9 {s0 : State} {ad : Nat → Nat} {A : Nat → Prop} (hW : ah_W0 s0 ad A) : va_Nc RX8 RX5 s0 := hW.2.1.2.2.2.2.2.2.2.2.2.1
theorem nc_10 {s0 : State} {ad : Nat → Nat} {A : Nat → Prop} (hW : ah_W0 s0 ad A) : va_Nc RX9 RX5 s0 := hW.2.1.2.2.2.2.2.2.2.2.2.2.1
theorem nc_11 {s0 : State} {ad : Nat → Nat} {A : Nat → Prop} (hW : ah_W0 s0 ad A) : va_Nc RX1 RX3 s0 := hW.2.1.2.2.2.2.2.2.2.2.2.2.2.1
theorem nc_12 {s0 : State} {ad : Nat → Nat} {A : Nat → Prop} (hW : ah_W0 s0 ad A) : va_Nc RX5 RX3 s0 := hW.2.1.2.2.2.2.2.2.2.2.2.2.2.2.1
theorem nc_13 {s0 : State} {ad : Nat → Nat} {A : Nat → Prop} (hW : ah_W0 s0 ad A) : va_Nc RX8 RX3 s0 := hW.2.1.2.2.2.2.2.2.2.2.2.2.2.2.2.1
theorem nc_14 {s0 : State} {ad : Nat → Nat} {A : Nat → Prop} (hW : ah_W0 s0 ad A) : va_Nc RX9 RX3 s0 := hW.2.1.2.2.2.2.2.2.2.2.2.2.2.2.2.2.1
theorem iqX1_10 {s0 : State} {ad : Nat → Nat} {A : Nat → Prop} (hW : ah_W0 s0 ad A) : ah_In RX1 10 RX1 [1, 3] [5, 8, 9] s0 := by
  refine ⟨wt_11, ?_, ?_⟩
  · intro ci h
    simp only [List.mem_cons, List.not_mem_nil, or_false] at h
    rcases h with rfl | rfl
    · exact ⟨RX1, TX1, 4, rfl, Or.inl rfl⟩
    · exact ⟨RX3, TX3, 4, rfl, Or.inr (yc_0 hW)⟩
  · intro ci h
    simp only [List.mem_cons, List.not_mem_nil, or_false] at h
    rcases h with rfl | rfl | rfl
    · exact ⟨RX5, TX5, 4, rfl, nc_0 hW⟩
    · exact ⟨RX8, TX8, 4, rfl, nc_1 hW⟩
    · exact ⟨RX9, TX9, 4, rfl, nc_2 hW⟩
theorem iqX9_9 {s0 : State} {ad : Nat → Nat} {A : Nat → Prop} (hW : ah_W0 s0 ad A) : ah_In RX9 9 RX9 [9] [1, 3, 5, 8] s0 := by
  refine ⟨wt_19, ?_, ?_⟩
  · intro ci h
    simp only [List.mem_cons, List.not_mem_nil, or_false] at h
    subst h
    exact ⟨RX9, TX9, 4, rfl, Or.inl rfl⟩
  · intro ci h
    simp only [List.mem_cons, List.not_mem_nil, or_false] at h
    rcases h with rfl | rfl | rfl | rfl
    · exact ⟨RX1, TX1, 4, rfl, nc_3 hW⟩
    · exact ⟨RX3, TX3, 4, rfl, nc_4 hW⟩
    · exact ⟨RX5, TX5, 4, rfl, nc_5 hW⟩
    · exact ⟨RX8, TX8, 4, rfl, nc_6 hW⟩
theorem iqX11_279 {s0 : State} {ad : Nat → Nat} {A : Nat → Prop} (hW : ah_W0 s0 ad A) : ah_In RX11 279 RX1 [1, 3] [5, 8, 9] s0 := by
  refine ⟨wt_295, ?_, ?_⟩
  · intro ci h
    simp only [List.mem_cons, List.not_mem_nil, or_false] at h
    rcases h with rfl | rfl
    · exact ⟨RX1, TX1, 4, rfl, Or.inl rfl⟩
    · exact ⟨RX3, TX3, 4, rfl, Or.inr (yc_0 hW)⟩
  · intro ci h
    simp only [List.mem_cons, List.not_mem_nil, or_false] at h
    rcases h with rfl | rfl | rfl
    · exact ⟨RX5, TX5, 4, rfl, nc_0 hW⟩
    · exact ⟨RX8, TX8, 4, rfl, nc_1 hW⟩
    · exact ⟨RX9, TX9, 4, rfl, nc_2 hW⟩
theorem iqX11_281 {s0 : State} {ad : Nat → Nat} {A : Nat → Prop} (hW : ah_W0 s0 ad A) : ah_In RX11 281 RX9 [9] [1, 3, 5, 8] s0 := by
  refine ⟨wt_296, ?_, ?_⟩
  · intro ci h
    simp only [List.mem_cons, List.not_mem_nil, or_false] at h
    subst h
    exact ⟨RX9, TX9, 4, rfl, Or.inl rfl⟩
  · intro ci h
    simp only [List.mem_cons, List.not_mem_nil, or_false] at h
    rcases h with rfl | rfl | rfl | rfl
    · exact ⟨RX1, TX1, 4, rfl, nc_3 hW⟩
    · exact ⟨RX3, TX3, 4, rfl, nc_4 hW⟩
    · exact ⟨RX5, TX5, 4, rfl, nc_5 hW⟩
    · exact ⟨RX8, TX8, 4, rfl, nc_6 hW⟩
theorem iqX11_283 {s0 : State} {ad : Nat → Nat} {A : Nat → Prop} (hW : ah_W0 s0 ad A) : ah_In RX11 283 RX5 [5] [1, 3, 8, 9] s0 := by
  refine ⟨wt_297, ?_, ?_⟩
  · intro ci h
    simp only [List.mem_cons, List.not_mem_nil, or_false] at h
    subst h
    exact ⟨RX5, TX5, 4, rfl, Or.inl rfl⟩
  · intro ci h
    simp only [List.mem_cons, List.not_mem_nil, or_false] at h
    rcases h with rfl | rfl | rfl | rfl
    · exact ⟨RX1, TX1, 4, rfl, nc_7 hW⟩
    · exact ⟨RX3, TX3, 4, rfl, nc_8 hW⟩
    · exact ⟨RX8, TX8, 4, rfl, nc_9 hW⟩
    · exact ⟨RX9, TX9, 4, rfl, nc_10 hW⟩
theorem iqX11_285 {s0 : State} {ad : Nat → Nat} {A : Nat → Prop} (hW : ah_W0 s0 ad A) : ah_In RX11 285 RX3 [3] [1, 5, 8, 9] s0 := by
  refine ⟨wt_298, ?_, ?_⟩
  · intro ci h
    simp only [List.mem_cons, List.not_mem_nil, or_false] at h
    subst h
    exact ⟨RX3, TX3, 4, rfl, Or.inl rfl⟩
  · intro ci h
    simp only [List.mem_cons, List.not_mem_nil, or_false] at h
    rcases h with rfl | rfl | rfl | rfl
    · exact ⟨RX1, TX1, 4, rfl, nc_11 hW⟩
    · exact ⟨RX5, TX5, 4, rfl, nc_12 hW⟩
    · exact ⟨RX8, TX8, 4, rfl, nc_13 hW⟩
    · exact ⟨RX9, TX9, 4, rfl, nc_14 hW⟩
