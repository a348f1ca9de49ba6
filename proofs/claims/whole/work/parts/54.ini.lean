/-! the constructors: their tables -/
theorem wu_0 : Cond.methodLink RX8 3 objectInit ∈ ah_TT := ah_TT_in (tb_1 (List.mem_of_getElem? (i := 82) rfl)) rfl
theorem wu_1 : Cond.instanceMethod objectInit ∈ ah_TT := ah_TT_in (tb_1 (List.mem_of_getElem? (i := 29) rfl)) rfl
theorem wu_2 : Cond.code Lib.objectInit ⟨#[0xb1]⟩ 1 none ∈ ah_TT := ah_TT_in (tb_1 (List.mem_of_getElem? (i := 30) rfl)) rfl
theorem wu_3 : Cond.fieldLink RX8 9 RX8 "mate" "I" ∈ ah_TT := ah_TT_in (tb_1 (List.mem_of_getElem? (i := 107) rfl)) rfl
theorem wu_4 : Cond.fieldLink RX8 15 RX8 "hand" "I" ∈ ah_TT := ah_TT_in (tb_1 (List.mem_of_getElem? (i := 83) rfl)) rfl
theorem wu_5 : Cond.fieldLink RX8 18 RX8 "size" "I" ∈ ah_TT := ah_TT_in (tb_1 (List.mem_of_getElem? (i := 92) rfl)) rfl
theorem wu_6 : Cond.fieldLink RX8 21 RX8 "station" "I" ∈ ah_TT := ah_TT_in (tb_1 (List.mem_of_getElem? (i := 102) rfl)) rfl
theorem wu_7 : Cond.instanceMethod yX8_init ∈ ah_TT := ah_TT_in (tb_1 (List.mem_of_getElem? (i := 80) rfl)) rfl
theorem wu_8 : Cond.initialized RX8 ∈ ah_TT := ah_TT_in (tb_1 (List.mem_of_getElem? (i := 5) rfl)) rfl
theorem wu_9 : Cond.code yX8_init cX8_init 4 none ∈ ah_TT := ah_TT_in (tb_1 (List.mem_of_getElem? (i := 81) rfl)) rfl
theorem wu_10 : Cond.methodLink RX1 3 yX8_init ∈ ah_TT := ah_TT_in (tb_2 (List.mem_of_getElem? (i := 193) rfl)) rfl
theorem wu_11 : Cond.instanceMethod yX1_init ∈ ah_TT := ah_TT_in (tb_2 (List.mem_of_getElem? (i := 191) rfl)) rfl
theorem wu_12 : Cond.initialized RX1 ∈ ah_TT := ah_TT_in (tb_1 (List.mem_of_getElem? (i := 16) rfl)) rfl
theorem wu_13 : Cond.code yX1_init cX1_init 4 none ∈ ah_TT := ah_TT_in (tb_2 (List.mem_of_getElem? (i := 192) rfl)) rfl
theorem wu_14 : Cond.methodLink RX3 3 yX1_init ∈ ah_TT := ah_TT_in (tb_2 (List.mem_of_getElem? (i := 226) rfl)) rfl
theorem wu_15 : Cond.methodLink RX5 3 yX8_init ∈ ah_TT := ah_TT_in (tb_2 (List.mem_of_getElem? (i := 215) rfl)) rfl
theorem wu_16 : Cond.methodLink RX9 3 yX8_init ∈ ah_TT := ah_TT_in (tb_2 (List.mem_of_getElem? (i := 204) rfl)) rfl
theorem wu_17 : Cond.methodLink RX7 3 objectInit ∈ ah_TT := ah_TT_in (tb_1 (List.mem_of_getElem? (i := 60) rfl)) rfl
theorem wu_18 : Cond.fieldLink RX7 9 RX7 "size" "I" ∈ ah_TT := ah_TT_in (tb_1 (List.mem_of_getElem? (i := 61) rfl)) rfl
theorem wu_19 : Cond.arrayClass .int ∈ ah_TT := ah_TT_in (tb_1 (List.mem_of_getElem? (i := 46) rfl)) rfl
theorem wu_20 : Cond.fieldLink RX7 15 RX7 "ones" "[I" ∈ ah_TT := ah_TT_in (tb_1 (List.mem_of_getElem? (i := 63) rfl)) rfl
theorem wu_21 : Cond.fieldLink RX7 19 RX7 "others" "[I" ∈ ah_TT := ah_TT_in (tb_1 (List.mem_of_getElem? (i := 64) rfl)) rfl
theorem wu_22 : Cond.fieldLink RX7 22 RX7 "likenesses" "[I" ∈ ah_TT := ah_TT_in (tb_1 (List.mem_of_getElem? (i := 65) rfl)) rfl
theorem wu_23 : Cond.fieldLink RX7 25 RX7 "left" "[I" ∈ ah_TT := ah_TT_in (tb_1 (List.mem_of_getElem? (i := 66) rfl)) rfl
theorem wu_24 : Cond.methodLink RX4 5 objectInit ∈ ah_TT := ah_TT_in (tb_1 (List.mem_of_getElem? (i := 36) rfl)) rfl
theorem wu_25 : Cond.fieldLink RX4 11 RX4 "codes" "[I" ∈ ah_TT := ah_TT_in (tb_1 (List.mem_of_getElem? (i := 37) rfl)) rfl
theorem wu_26 : Cond.fieldLink RX4 15 RX4 "length" "I" ∈ ah_TT := ah_TT_in (tb_1 (List.mem_of_getElem? (i := 39) rfl)) rfl
theorem wu_27 : Cond.methodLink RX0 3 objectInit ∈ ah_TT := ah_TT_in (tb_1 (List.mem_of_getElem? (i := 52) rfl)) rfl
theorem wu_28 : Cond.classLink RX0 9 RX8 ∈ ah_TT := ah_TT_in (tb_1 (List.mem_of_getElem? (i := 53) rfl)) rfl
theorem wu_29 : Cond.fieldLink RX0 11 RX0 "singles" "[LGloveSaint$Single;" ∈ ah_TT := ah_TT_in (tb_1 (List.mem_of_getElem? (i := 120) rfl)) rfl
theorem wu_30 : Cond.classLink RX0 17 RX7 ∈ ah_TT := ah_TT_in (tb_1 (List.mem_of_getElem? (i := 55) rfl)) rfl
theorem wu_31 : Cond.instantiable RX7 5 ∈ ah_TT := ah_TT_in (tb_1 (List.mem_of_getElem? (i := 56) rfl)) rfl
theorem wu_32 : Cond.initialized RX7 ∈ ah_TT := ah_TT_in (tb_1 (List.mem_of_getElem? (i := 4) rfl)) rfl
theorem wu_33 : Cond.instanceMethod yX7_init ∈ ah_TT := ah_TT_in (tb_1 (List.mem_of_getElem? (i := 58) rfl)) rfl
theorem wu_34 : Cond.code yX7_init cX7_init 1 none ∈ ah_TT := ah_TT_in (tb_1 (List.mem_of_getElem? (i := 59) rfl)) rfl
theorem wu_35 : Cond.fieldLink RX0 20 RX0 "seen" "LGloveSaint$Seen;" ∈ ah_TT := ah_TT_in (tb_1 (List.mem_of_getElem? (i := 124) rfl)) rfl
theorem wu_36 : Cond.fieldLink RX0 24 RX0 "size" "I" ∈ ah_TT := ah_TT_in (tb_1 (List.mem_of_getElem? (i := 127) rfl)) rfl
theorem wu_37 : Cond.fieldLink RX0 28 RX0 "miles" "I" ∈ ah_TT := ah_TT_in (tb_1 (List.mem_of_getElem? (i := 133) rfl)) rfl
theorem wu_38 : Cond.fieldLink RX0 31 RX0 "timesBrought" "I" ∈ ah_TT := ah_TT_in (tb_1 (List.mem_of_getElem? (i := 136) rfl)) rfl
theorem wu_39 : Cond.fieldLink RX0 34 RX0 "timesParted" "I" ∈ ah_TT := ah_TT_in (tb_1 (List.mem_of_getElem? (i := 139) rfl)) rfl
theorem wu_40 : Cond.fieldLink RX0 37 RX0 "timesMay" "I" ∈ ah_TT := ah_TT_in (tb_1 (List.mem_of_getElem? (i := 142) rfl)) rfl
theorem wu_41 : Cond.fieldLink RX0 40 RX0 "formerMates" "[I" ∈ ah_TT := ah_TT_in (tb_1 (List.mem_of_getElem? (i := 145) rfl)) rfl
theorem wu_42 : Cond.instantiable RX8 4 ∈ ah_TT := ah_TT_in (tb_1 (List.mem_of_getElem? (i := 78) rfl)) rfl
theorem wu_43 : Cond.methodLink RX0 44 yX8_init ∈ ah_TT := ah_TT_in (tb_1 (List.mem_of_getElem? (i := 79) rfl)) rfl
theorem wu_44 : Cond.methodLink RX2 3 objectInit ∈ ah_TT := ah_TT_in (tb_1 (List.mem_of_getElem? (i := 168) rfl)) rfl
theorem wu_45 : Cond.fieldLink RX2 9 RX2 "isThere" "Z" ∈ ah_TT := ah_TT_in (tb_1 (List.mem_of_getElem? (i := 171) rfl)) rfl
theorem wu_46 : Cond.fieldLink RX2 15 RX2 "sizes" "[I" ∈ ah_TT := ah_TT_in (tb_1 (List.mem_of_getElem? (i := 173) rfl)) rfl
theorem wu_47 : Cond.fieldLink RX2 19 RX2 "stations" "[I" ∈ ah_TT := ah_TT_in (tb_1 (List.mem_of_getElem? (i := 174) rfl)) rfl
theorem wu_48 : Cond.fieldLink RX2 22 RX2 "mates" "[I" ∈ ah_TT := ah_TT_in (tb_1 (List.mem_of_getElem? (i := 175) rfl)) rfl
theorem wu_49 : Cond.classLink RX2 25 RX7 ∈ ah_TT := ah_TT_in (tb_1 (List.mem_of_getElem? (i := 169) rfl)) rfl
theorem wu_50 : Cond.fieldLink RX2 28 RX2 "seen" "LGloveSaint$Seen;" ∈ ah_TT := ah_TT_in (tb_1 (List.mem_of_getElem? (i := 176) rfl)) rfl
theorem wu_51 : Cond.fieldLink RX2 32 RX2 "miles" "I" ∈ ah_TT := ah_TT_in (tb_1 (List.mem_of_getElem? (i := 177) rfl)) rfl
theorem wu_52 : Cond.fieldLink RX2 36 RX2 "timesBrought" "I" ∈ ah_TT := ah_TT_in (tb_1 (List.mem_of_getElem? (i := 178) rfl)) rfl
theorem wu_53 : Cond.fieldLink RX2 39 RX2 "timesParted" "I" ∈ ah_TT := ah_TT_in (tb_1 (List.mem_of_getElem? (i := 179) rfl)) rfl
theorem wu_54 : Cond.fieldLink RX2 42 RX2 "timesMay" "I" ∈ ah_TT := ah_TT_in (tb_1 (List.mem_of_getElem? (i := 180) rfl)) rfl
theorem wu_55 : Cond.methodLink RX6 3 objectInit ∈ ah_TT := ah_TT_in (tb_1 (List.mem_of_getElem? (i := 205) rfl)) rfl
theorem wu_56 : Cond.fieldLink RX6 9 RX6 "found" "[I" ∈ ah_TT := ah_TT_in (tb_1 (List.mem_of_getElem? (i := 216) rfl)) rfl
theorem wu_57 : Cond.fieldLink RX6 15 RX6 "row" "[I" ∈ ah_TT := ah_TT_in (tb_1 (List.mem_of_getElem? (i := 217) rfl)) rfl
theorem wu_58 : Cond.classLink RX6 18 "[[I" ∈ ah_TT := ah_TT_in (tb_1 (List.mem_of_getElem? (i := 206) rfl)) rfl
theorem wu_59 : Cond.fieldLink RX6 20 RX6 "like" "[[I" ∈ ah_TT := ah_TT_in (tb_1 (List.mem_of_getElem? (i := 218) rfl)) rfl
theorem wu_60 : Cond.fieldLink RX6 23 RX6 "stations" "[I" ∈ ah_TT := ah_TT_in (tb_1 (List.mem_of_getElem? (i := 219) rfl)) rfl
theorem wu_61 : Cond.methodLink RX10 3 objectInit ∈ ah_TT := ah_TT_in (tb_2 (List.mem_of_getElem? (i := 14) rfl)) rfl
theorem wu_62 : Cond.arrayClass .boolean ∈ ah_TT := ah_TT_in (tb_2 (List.mem_of_getElem? (i := 31) rfl)) rfl
theorem wu_63 : Cond.fieldLink RX10 9 RX10 "taken" "[Z" ∈ ah_TT := ah_TT_in (tb_2 (List.mem_of_getElem? (i := 21) rfl)) rfl
theorem wu_64 : Cond.methodLink RX11 1 objectInit ∈ ah_TT := ah_TT_in (tb_1 (List.mem_of_getElem? (i := 28) rfl)) rfl
theorem wu_65 : Cond.classLink RX11 7 RX4 ∈ ah_TT := ah_TT_in (tb_1 (List.mem_of_getElem? (i := 31) rfl)) rfl
theorem wu_66 : Cond.instantiable RX4 2 ∈ ah_TT := ah_TT_in (tb_1 (List.mem_of_getElem? (i := 32) rfl)) rfl
theorem wu_67 : Cond.initialized RX4 ∈ ah_TT := ah_TT_in (tb_1 (List.mem_of_getElem? (i := 2) rfl)) rfl
theorem wu_68 : Cond.instanceMethod yX4_init ∈ ah_TT := ah_TT_in (tb_1 (List.mem_of_getElem? (i := 34) rfl)) rfl
theorem wu_69 : Cond.code yX4_init cX4_init 1 none ∈ ah_TT := ah_TT_in (tb_1 (List.mem_of_getElem? (i := 35) rfl)) rfl
theorem wu_70 : Cond.fieldLink RX11 10 RX11 "page" "LGloveSaint$Page;" ∈ ah_TT := ah_TT_in (tb_2 (List.mem_of_getElem? (i := 32) rfl)) rfl
theorem wu_71 : Cond.classLink RX11 16 RX0 ∈ ah_TT := ah_TT_in (tb_1 (List.mem_of_getElem? (i := 47) rfl)) rfl
theorem wu_72 : Cond.instantiable RX0 8 ∈ ah_TT := ah_TT_in (tb_1 (List.mem_of_getElem? (i := 48) rfl)) rfl
theorem wu_73 : Cond.initialized RX0 ∈ ah_TT := ah_TT_in (tb_1 (List.mem_of_getElem? (i := 3) rfl)) rfl
theorem wu_74 : Cond.instanceMethod yX0_init ∈ ah_TT := ah_TT_in (tb_1 (List.mem_of_getElem? (i := 50) rfl)) rfl
theorem wu_75 : Cond.code yX0_init cX0_init 2 none ∈ ah_TT := ah_TT_in (tb_1 (List.mem_of_getElem? (i := 51) rfl)) rfl
theorem wu_76 : Cond.methodLink RX11 18 yX0_init ∈ ah_TT := ah_TT_in (tb_1 (List.mem_of_getElem? (i := 49) rfl)) rfl
theorem wu_77 : Cond.fieldLink RX11 19 RX11 "shown" "LGloveSaint$Drawer;" ∈ ah_TT := ah_TT_in (tb_2 (List.mem_of_getElem? (i := 33) rfl)) rfl
theorem wu_78 : Cond.classLink RX11 23 RX2 ∈ ah_TT := ah_TT_in (tb_1 (List.mem_of_getElem? (i := 163) rfl)) rfl
theorem wu_79 : Cond.instantiable RX2 9 ∈ ah_TT := ah_TT_in (tb_1 (List.mem_of_getElem? (i := 164) rfl)) rfl
theorem wu_80 : Cond.initialized RX2 ∈ ah_TT := ah_TT_in (tb_1 (List.mem_of_getElem? (i := 6) rfl)) rfl
theorem wu_81 : Cond.instanceMethod yX2_init ∈ ah_TT := ah_TT_in (tb_1 (List.mem_of_getElem? (i := 166) rfl)) rfl
theorem wu_82 : Cond.code yX2_init cX2_init 1 none ∈ ah_TT := ah_TT_in (tb_1 (List.mem_of_getElem? (i := 167) rfl)) rfl
theorem wu_83 : Cond.fieldLink RX11 26 RX11 "kept" "LGloveSaint$Image;" ∈ ah_TT := ah_TT_in (tb_2 (List.mem_of_getElem? (i := 34) rfl)) rfl
theorem wu_84 : Cond.classLink RX11 30 RX6 ∈ ah_TT := ah_TT_in (tb_1 (List.mem_of_getElem? (i := 200) rfl)) rfl
theorem wu_85 : Cond.instantiable RX6 12 ∈ ah_TT := ah_TT_in (tb_1 (List.mem_of_getElem? (i := 201) rfl)) rfl
theorem wu_86 : Cond.initialized RX6 ∈ ah_TT := ah_TT_in (tb_1 (List.mem_of_getElem? (i := 7) rfl)) rfl
theorem wu_87 : Cond.instanceMethod yX6_init ∈ ah_TT := ah_TT_in (tb_1 (List.mem_of_getElem? (i := 203) rfl)) rfl
theorem wu_88 : Cond.code yX6_init cX6_init 1 none ∈ ah_TT := ah_TT_in (tb_1 (List.mem_of_getElem? (i := 204) rfl)) rfl
theorem wu_89 : Cond.fieldLink RX11 33 RX11 "rows" "LGloveSaint$Rows;" ∈ ah_TT := ah_TT_in (tb_2 (List.mem_of_getElem? (i := 35) rfl)) rfl
theorem wu_90 : Cond.classLink RX11 37 RX10 ∈ ah_TT := ah_TT_in (tb_2 (List.mem_of_getElem? (i := 9) rfl)) rfl
theorem wu_91 : Cond.instantiable RX10 4 ∈ ah_TT := ah_TT_in (tb_2 (List.mem_of_getElem? (i := 10) rfl)) rfl
theorem wu_92 : Cond.initialized RX10 ∈ ah_TT := ah_TT_in (tb_1 (List.mem_of_getElem? (i := 8) rfl)) rfl
theorem wu_93 : Cond.instanceMethod yX10_init ∈ ah_TT := ah_TT_in (tb_2 (List.mem_of_getElem? (i := 12) rfl)) rfl
theorem wu_94 : Cond.code yX10_init cX10_init 1 none ∈ ah_TT := ah_TT_in (tb_2 (List.mem_of_getElem? (i := 13) rfl)) rfl
theorem wu_95 : Cond.fieldLink RX11 40 RX11 "cold" "LGloveSaint$Winters;" ∈ ah_TT := ah_TT_in (tb_2 (List.mem_of_getElem? (i := 36) rfl)) rfl
theorem wu_96 : Cond.fieldLink RX11 44 RX11 "drawersRead" "I" ∈ ah_TT := ah_TT_in (tb_2 (List.mem_of_getElem? (i := 37) rfl)) rfl
theorem wu_97 : Cond.methodLink RX12 1 objectInit ∈ ah_TT := ah_TT_in (tb_4 (List.mem_of_getElem? (i := 147) rfl)) rfl
theorem wu_98 : Cond.fieldLink RX12 7 RX12 "page" "[I" ∈ ah_TT := ah_TT_in (tb_4 (List.mem_of_getElem? (i := 148) rfl)) rfl
theorem wu_99 : Cond.fieldLink RX12 13 RX12 "rows" "[I" ∈ ah_TT := ah_TT_in (tb_4 (List.mem_of_getElem? (i := 156) rfl)) rfl
theorem wu_100 : Cond.fieldLink RX12 16 RX12 "sizes" "[I" ∈ ah_TT := ah_TT_in (tb_4 (List.mem_of_getElem? (i := 157) rfl)) rfl
theorem wu_101 : Cond.fieldLink RX12 19 RX12 "stations" "[I" ∈ ah_TT := ah_TT_in (tb_4 (List.mem_of_getElem? (i := 158) rfl)) rfl
theorem wu_102 : Cond.fieldLink RX12 22 RX12 "mates" "[I" ∈ ah_TT := ah_TT_in (tb_4 (List.mem_of_getElem? (i := 159) rfl)) rfl
theorem wu_103 : Cond.fieldLink RX12 25 RX12 "before" "[I" ∈ ah_TT := ah_TT_in (tb_4 (List.mem_of_getElem? (i := 160) rfl)) rfl
theorem wu_104 : Cond.fieldLink RX12 28 RX12 "row" "[I" ∈ ah_TT := ah_TT_in (tb_4 (List.mem_of_getElem? (i := 161) rfl)) rfl
theorem wu_105 : Cond.fieldLink RX12 31 RX12 "bestRow" "[I" ∈ ah_TT := ah_TT_in (tb_4 (List.mem_of_getElem? (i := 162) rfl)) rfl
theorem wu_106 : Cond.fieldLink RX12 34 RX12 "sights" "[I" ∈ ah_TT := ah_TT_in (tb_4 (List.mem_of_getElem? (i := 164) rfl)) rfl
theorem wu_107 : Cond.fieldLink RX12 37 RX12 "parts" "[I" ∈ ah_TT := ah_TT_in (tb_4 (List.mem_of_getElem? (i := 165) rfl)) rfl
theorem wu_108 : Cond.fieldLink RX12 40 RX12 "keptSizes" "[I" ∈ ah_TT := ah_TT_in (tb_4 (List.mem_of_getElem? (i := 173) rfl)) rfl
theorem wu_109 : Cond.fieldLink RX12 43 RX12 "keptStations" "[I" ∈ ah_TT := ah_TT_in (tb_4 (List.mem_of_getElem? (i := 174) rfl)) rfl
theorem wu_110 : Cond.fieldLink RX12 46 RX12 "keptMates" "[I" ∈ ah_TT := ah_TT_in (tb_4 (List.mem_of_getElem? (i := 175) rfl)) rfl
theorem wu_111 : Cond.fieldLink RX12 49 RX12 "keptSights" "[I" ∈ ah_TT := ah_TT_in (tb_4 (List.mem_of_getElem? (i := 176) rfl)) rfl
theorem wu_112 : Cond.fieldLink RX12 52 RX12 "keptDrawer" "I" ∈ ah_TT := ah_TT_in (tb_4 (List.mem_of_getElem? (i := 167) rfl)) rfl
theorem upX8_9 : at_Fp RX8 9 [1, 3, 5, 8, 9] 3 .int := by
  intro ci h
  simp only [List.mem_cons, List.not_mem_nil, or_false] at h
  rcases h with rfl | rfl | rfl | rfl | rfl
  · exact ⟨RX1, TX1, 4, RX8, tyX1, rfl, inX1, by decide, wu_3, Or.inl rfl, tyX1_ok, nmX1, Or.inl rfl, by decide⟩
  · exact ⟨RX3, TX3, 4, RX8, tyX3, rfl, inX3, by decide, wu_3, Or.inl rfl, tyX3_ok, nmX3, Or.inl rfl, by decide⟩
  · exact ⟨RX5, TX5, 4, RX8, tyX5, rfl, inX5, by decide, wu_3, Or.inl rfl, tyX5_ok, nmX5, Or.inl rfl, by decide⟩
  · exact ⟨RX8, TX8, 4, RX8, tyX8, rfl, inX8, by decide, wu_3, Or.inl rfl, tyX8_ok, nmX8, Or.inl rfl, by decide⟩
  · exact ⟨RX9, TX9, 4, RX8, tyX9, rfl, inX9, by decide, wu_3, Or.inl rfl, tyX9_ok, nmX9, Or.inl rfl, by decide⟩
theorem upX8_15 : at_Fp RX8 15 [1, 3, 5, 8, 9] 0 .int := by
  intro ci h
  simp only [List.mem_cons, List.not_mem_nil, or_false] at h
  rcases h with rfl | rfl | rfl | rfl | rfl
  · exact ⟨RX1, TX1, 4, RX8, tyX1, rfl, inX1, by decide, wu_4, Or.inl rfl, tyX1_ok, nmX1, Or.inr ⟨rfl, rfl⟩, by decide⟩
  · exact ⟨RX3, TX3, 4, RX8, tyX3, rfl, inX3, by decide, wu_4, Or.inl rfl, tyX3_ok, nmX3, Or.inr ⟨rfl, rfl⟩, by decide⟩
  · exact ⟨RX5, TX5, 4, RX8, tyX5, rfl, inX5, by decide, wu_4, Or.inl rfl, tyX5_ok, nmX5, Or.inr ⟨rfl, rfl⟩, by decide⟩
  · exact ⟨RX8, TX8, 4, RX8, tyX8, rfl, inX8, by decide, wu_4, Or.inl rfl, tyX8_ok, nmX8, Or.inr ⟨rfl, rfl⟩, by decide⟩
  · exact ⟨RX9, TX9, 4, RX8, tyX9, rfl, inX9, by decide, wu_4, Or.inl rfl, tyX9_ok, nmX9, Or.inr ⟨rfl, rfl⟩, by decide⟩
theorem upX8_18 : at_Fp RX8 18 [1, 3, 5, 8, 9] 1 .int := by
  intro ci h
  simp only [List.mem_cons, List.not_mem_nil, or_false] at h
  rcases h with rfl | rfl | rfl | rfl | rfl
  · exact ⟨RX1, TX1, 4, RX8, tyX1, rfl, inX1, by decide, wu_5, Or.inl rfl, tyX1_ok, nmX1, Or.inl rfl, by decide⟩
  · exact ⟨RX3, TX3, 4, RX8, tyX3, rfl, inX3, by decide, wu_5, Or.inl rfl, tyX3_ok, nmX3, Or.inl rfl, by decide⟩
  · exact ⟨RX5, TX5, 4, RX8, tyX5, rfl, inX5, by decide, wu_5, Or.inl rfl, tyX5_ok, nmX5, Or.inl rfl, by decide⟩
  · exact ⟨RX8, TX8, 4, RX8, tyX8, rfl, inX8, by decide, wu_5, Or.inl rfl, tyX8_ok, nmX8, Or.inl rfl, by decide⟩
  · exact ⟨RX9, TX9, 4, RX8, tyX9, rfl, inX9, by decide, wu_5, Or.inl rfl, tyX9_ok, nmX9, Or.inl rfl, by decide⟩
theorem upX8_21 : at_Fp RX8 21 [1, 3, 5, 8, 9] 2 .int := by
  intro ci h
  simp only [List.mem_cons, List.not_mem_nil, or_false] at h
  rcases h with rfl | rfl | rfl | rfl | rfl
  · exact ⟨RX1, TX1, 4, RX8, tyX1, rfl, inX1, by decide, wu_6, Or.inl rfl, tyX1_ok, nmX1, Or.inl rfl, by decide⟩
  · exact ⟨RX3, TX3, 4, RX8, tyX3, rfl, inX3, by decide, wu_6, Or.inl rfl, tyX3_ok, nmX3, Or.inl rfl, by decide⟩
  · exact ⟨RX5, TX5, 4, RX8, tyX5, rfl, inX5, by decide, wu_6, Or.inl rfl, tyX5_ok, nmX5, Or.inl rfl, by decide⟩
  · exact ⟨RX8, TX8, 4, RX8, tyX8, rfl, inX8, by decide, wu_6, Or.inl rfl, tyX8_ok, nmX8, Or.inl rfl, by decide⟩
  · exact ⟨RX9, TX9, 4, RX8, tyX9, rfl, inX9, by decide, wu_6, Or.inl rfl, tyX9_ok, nmX9, Or.inl rfl, by decide⟩
theorem upX7_9 : at_Fp RX7 9 [7] 0 .int := by
  intro ci h
  simp only [List.mem_cons, List.not_mem_nil, or_false] at h
  subst h
  exact ⟨RX7, TX7, 5, RX7, tyX7, rfl, inX7, by decide, wu_18, Or.inl rfl, tyX7_ok, nmX7, Or.inl rfl, by decide⟩
theorem upX7_15 : at_Fp RX7 15 [7] 1 (.array .int) := by
  intro ci h
  simp only [List.mem_cons, List.not_mem_nil, or_false] at h
  subst h
  exact ⟨RX7, TX7, 5, RX7, tyX7, rfl, inX7, by decide, wu_20, Or.inl rfl, tyX7_ok, nmX7, Or.inr ⟨rfl, rfl⟩, by decide⟩
theorem upX7_19 : at_Fp RX7 19 [7] 2 (.array .int) := by
  intro ci h
  simp only [List.mem_cons, List.not_mem_nil, or_false] at h
  subst h
  exact ⟨RX7, TX7, 5, RX7, tyX7, rfl, inX7, by decide, wu_21, Or.inl rfl, tyX7_ok, nmX7, Or.inr ⟨rfl, rfl⟩, by decide⟩
theorem upX7_22 : at_Fp RX7 22 [7] 3 (.array .int) := by
  intro ci h
  simp only [List.mem_cons, List.not_mem_nil, or_false] at h
  subst h
  exact ⟨RX7, TX7, 5, RX7, tyX7, rfl, inX7, by decide, wu_22, Or.inl rfl, tyX7_ok, nmX7, Or.inr ⟨rfl, rfl⟩, by decide⟩
theorem upX7_25 : at_Fp RX7 25 [7] 4 (.array .int) := by
  intro ci h
  simp only [List.mem_cons, List.not_mem_nil, or_false] at h
  subst h
  exact ⟨RX7, TX7, 5, RX7, tyX7, rfl, inX7, by decide, wu_23, Or.inl rfl, tyX7_ok, nmX7, Or.inr ⟨rfl, rfl⟩, by decide⟩
theorem upX4_11 : at_Fp RX4 11 [4] 0 (.array .int) := by
  intro ci h
  simp only [List.mem_cons, List.not_mem_nil, or_false] at h
  subst h
  exact ⟨RX4, TX4, 2, RX4, tyX4, rfl, inX4, by decide, wu_25, Or.inl rfl, tyX4_ok, nmX4, Or.inr ⟨rfl, rfl⟩, by decide⟩
theorem upX4_15 : at_Fp RX4 15 [4] 1 .int := by
  intro ci h
  simp only [List.mem_cons, List.not_mem_nil, or_false] at h
  subst h
  exact ⟨RX4, TX4, 2, RX4, tyX4, rfl, inX4, by decide, wu_26, Or.inl rfl, tyX4_ok, nmX4, Or.inl rfl, by decide⟩
theorem upX0_11 : at_Fp RX0 11 [0] 0 (.array (.object "GloveSaint$Single")) := by
  intro ci h
  simp only [List.mem_cons, List.not_mem_nil, or_false] at h
  subst h
  exact ⟨RX0, TX0, 8, RX0, tyX0, rfl, inX0, by decide, wu_29, Or.inl rfl, tyX0_ok, nmX0, Or.inr ⟨rfl, rfl⟩, by decide⟩
theorem upX0_20 : at_Fp RX0 20 [0] 1 (.object "GloveSaint$Seen") := by
  intro ci h
  simp only [List.mem_cons, List.not_mem_nil, or_false] at h
  subst h
  exact ⟨RX0, TX0, 8, RX0, tyX0, rfl, inX0, by decide, wu_35, Or.inl rfl, tyX0_ok, nmX0, Or.inr ⟨rfl, rfl⟩, by decide⟩
theorem upX0_24 : at_Fp RX0 24 [0] 2 .int := by
  intro ci h
  simp only [List.mem_cons, List.not_mem_nil, or_false] at h
  subst h
  exact ⟨RX0, TX0, 8, RX0, tyX0, rfl, inX0, by decide, wu_36, Or.inl rfl, tyX0_ok, nmX0, Or.inl rfl, by decide⟩
theorem upX0_28 : at_Fp RX0 28 [0] 3 .int := by
  intro ci h
  simp only [List.mem_cons, List.not_mem_nil, or_false] at h
  subst h
  exact ⟨RX0, TX0, 8, RX0, tyX0, rfl, inX0, by decide, wu_37, Or.inl rfl, tyX0_ok, nmX0, Or.inl rfl, by decide⟩
theorem upX0_31 : at_Fp RX0 31 [0] 4 .int := by
  intro ci h
  simp only [List.mem_cons, List.not_mem_nil, or_false] at h
  subst h
  exact ⟨RX0, TX0, 8, RX0, tyX0, rfl, inX0, by decide, wu_38, Or.inl rfl, tyX0_ok, nmX0, Or.inl rfl, by decide⟩
theorem upX0_34 : at_Fp RX0 34 [0] 5 .int := by
  intro ci h
  simp only [List.mem_cons, List.not_mem_nil, or_false] at h
  subst h
  exact ⟨RX0, TX0, 8, RX0, tyX0, rfl, inX0, by decide, wu_39, Or.inl rfl, tyX0_ok, nmX0, Or.inl rfl, by decide⟩
theorem upX0_37 : at_Fp RX0 37 [0] 6 .int := by
  intro ci h
  simp only [List.mem_cons, List.not_mem_nil, or_false] at h
  subst h
  exact ⟨RX0, TX0, 8, RX0, tyX0, rfl, inX0, by decide, wu_40, Or.inl rfl, tyX0_ok, nmX0, Or.inl rfl, by decide⟩
theorem upX0_40 : at_Fp RX0 40 [0] 7 (.array .int) := by
  intro ci h
  simp only [List.mem_cons, List.not_mem_nil, or_false] at h
  subst h
  exact ⟨RX0, TX0, 8, RX0, tyX0, rfl, inX0, by decide, wu_41, Or.inl rfl, tyX0_ok, nmX0, Or.inr ⟨rfl, rfl⟩, by decide⟩
theorem ugX0_11 : ah_Fg RX0 11 [0] 0 := by
  intro ci h
  simp only [List.mem_cons, List.not_mem_nil, or_false] at h
  subst h
  exact ⟨RX0, TX0, 8, RX0, rfl, inX0, by decide, wu_29, Or.inl rfl⟩
theorem upX2_9 : at_Fp RX2 9 [2] 0 .boolean := by
  intro ci h
  simp only [List.mem_cons, List.not_mem_nil, or_false] at h
  subst h
  exact ⟨RX2, TX2, 9, RX2, tyX2, rfl, inX2, by decide, wu_45, Or.inl rfl, tyX2_ok, nmX2, Or.inl rfl, by decide⟩
theorem upX2_15 : at_Fp RX2 15 [2] 1 (.array .int) := by
  intro ci h
  simp only [List.mem_cons, List.not_mem_nil, or_false] at h
  subst h
  exact ⟨RX2, TX2, 9, RX2, tyX2, rfl, inX2, by decide, wu_46, Or.inl rfl, tyX2_ok, nmX2, Or.inr ⟨rfl, rfl⟩, by decide⟩
theorem upX2_19 : at_Fp RX2 19 [2] 2 (.array .int) := by
  intro ci h
  simp only [List.mem_cons, List.not_mem_nil, or_false] at h
  subst h
  exact ⟨RX2, TX2, 9, RX2, tyX2, rfl, inX2, by decide, wu_47, Or.inl rfl, tyX2_ok, nmX2, Or.inr ⟨rfl, rfl⟩, by decide⟩
theorem upX2_22 : at_Fp RX2 22 [2] 3 (.array .int) := by
  intro ci h
  simp only [List.mem_cons, List.not_mem_nil, or_false] at h
  subst h
  exact ⟨RX2, TX2, 9, RX2, tyX2, rfl, inX2, by decide, wu_48, Or.inl rfl, tyX2_ok, nmX2, Or.inr ⟨rfl, rfl⟩, by decide⟩
theorem upX2_28 : at_Fp RX2 28 [2] 4 (.object "GloveSaint$Seen") := by
  intro ci h
  simp only [List.mem_cons, List.not_mem_nil, or_false] at h
  subst h
  exact ⟨RX2, TX2, 9, RX2, tyX2, rfl, inX2, by decide, wu_50, Or.inl rfl, tyX2_ok, nmX2, Or.inr ⟨rfl, rfl⟩, by decide⟩
theorem upX2_32 : at_Fp RX2 32 [2] 5 .int := by
  intro ci h
  simp only [List.mem_cons, List.not_mem_nil, or_false] at h
  subst h
  exact ⟨RX2, TX2, 9, RX2, tyX2, rfl, inX2, by decide, wu_51, Or.inl rfl, tyX2_ok, nmX2, Or.inl rfl, by decide⟩
theorem upX2_36 : at_Fp RX2 36 [2] 6 .int := by
  intro ci h
  simp only [List.mem_cons, List.not_mem_nil, or_false] at h
  subst h
  exact ⟨RX2, TX2, 9, RX2, tyX2, rfl, inX2, by decide, wu_52, Or.inl rfl, tyX2_ok, nmX2, Or.inl rfl, by decide⟩
theorem upX2_39 : at_Fp RX2 39 [2] 7 .int := by
  intro ci h
  simp only [List.mem_cons, List.not_mem_nil, or_false] at h
  subst h
  exact ⟨RX2, TX2, 9, RX2, tyX2, rfl, inX2, by decide, wu_53, Or.inl rfl, tyX2_ok, nmX2, Or.inl rfl, by decide⟩
theorem upX2_42 : at_Fp RX2 42 [2] 8 .int := by
  intro ci h
  simp only [List.mem_cons, List.not_mem_nil, or_false] at h
  subst h
  exact ⟨RX2, TX2, 9, RX2, tyX2, rfl, inX2, by decide, wu_54, Or.inl rfl, tyX2_ok, nmX2, Or.inl rfl, by decide⟩
theorem upX6_9 : at_Fp RX6 9 [6] 4 (.array .int) := by
  intro ci h
  simp only [List.mem_cons, List.not_mem_nil, or_false] at h
  subst h
  exact ⟨RX6, TX6, 12, RX6, tyX6, rfl, inX6, by decide, wu_56, Or.inl rfl, tyX6_ok, nmX6, Or.inr ⟨rfl, rfl⟩, by decide⟩
theorem upX6_15 : at_Fp RX6 15 [6] 5 (.array .int) := by
  intro ci h
  simp only [List.mem_cons, List.not_mem_nil, or_false] at h
  subst h
  exact ⟨RX6, TX6, 12, RX6, tyX6, rfl, inX6, by decide, wu_57, Or.inl rfl, tyX6_ok, nmX6, Or.inr ⟨rfl, rfl⟩, by decide⟩
theorem upX6_20 : at_Fp RX6 20 [6] 6 (.array (.array .int)) := by
  intro ci h
  simp only [List.mem_cons, List.not_mem_nil, or_false] at h
  subst h
  exact ⟨RX6, TX6, 12, RX6, tyX6, rfl, inX6, by decide, wu_59, Or.inl rfl, tyX6_ok, nmX6, Or.inr ⟨rfl, rfl⟩, by decide⟩
theorem upX6_23 : at_Fp RX6 23 [6] 7 (.array .int) := by
  intro ci h
  simp only [List.mem_cons, List.not_mem_nil, or_false] at h
  subst h
  exact ⟨RX6, TX6, 12, RX6, tyX6, rfl, inX6, by decide, wu_60, Or.inl rfl, tyX6_ok, nmX6, Or.inr ⟨rfl, rfl⟩, by decide⟩
theorem upX10_9 : at_Fp RX10 9 [10] 3 (.array .boolean) := by
  intro ci h
  simp only [List.mem_cons, List.not_mem_nil, or_false] at h
  subst h
  exact ⟨RX10, TX10, 4, RX10, tyX10, rfl, inX10, by decide, wu_63, Or.inl rfl, tyX10_ok, nmX10, Or.inr ⟨rfl, rfl⟩, by decide⟩
theorem upX11_10 : at_Fp RX11 10 [11] 0 (.object "GloveSaint$Page") := by
  intro ci h
  simp only [List.mem_cons, List.not_mem_nil, or_false] at h
  subst h
  exact ⟨RX11, TX11, 6, RX11, tyX11, rfl, inX11, by decide, wu_70, Or.inl rfl, tyX11_ok, nmX11, Or.inr ⟨rfl, rfl⟩, by decide⟩
theorem upX11_19 : at_Fp RX11 19 [11] 1 (.object "GloveSaint$Drawer") := by
  intro ci h
  simp only [List.mem_cons, List.not_mem_nil, or_false] at h
  subst h
  exact ⟨RX11, TX11, 6, RX11, tyX11, rfl, inX11, by decide, wu_77, Or.inl rfl, tyX11_ok, nmX11, Or.inr ⟨rfl, rfl⟩, by decide⟩
theorem upX11_26 : at_Fp RX11 26 [11] 2 (.object "GloveSaint$Image") := by
  intro ci h
  simp only [List.mem_cons, List.not_mem_nil, or_false] at h
  subst h
  exact ⟨RX11, TX11, 6, RX11, tyX11, rfl, inX11, by decide, wu_83, Or.inl rfl, tyX11_ok, nmX11, Or.inr ⟨rfl, rfl⟩, by decide⟩
theorem upX11_33 : at_Fp RX11 33 [11] 3 (.object "GloveSaint$Rows") := by
  intro ci h
  simp only [List.mem_cons, List.not_mem_nil, or_false] at h
  subst h
  exact ⟨RX11, TX11, 6, RX11, tyX11, rfl, inX11, by decide, wu_89, Or.inl rfl, tyX11_ok, nmX11, Or.inr ⟨rfl, rfl⟩, by decide⟩
theorem upX11_40 : at_Fp RX11 40 [11] 4 (.object "GloveSaint$Winters") := by
  intro ci h
  simp only [List.mem_cons, List.not_mem_nil, or_false] at h
  subst h
  exact ⟨RX11, TX11, 6, RX11, tyX11, rfl, inX11, by decide, wu_95, Or.inl rfl, tyX11_ok, nmX11, Or.inr ⟨rfl, rfl⟩, by decide⟩
theorem upX11_44 : at_Fp RX11 44 [11] 5 .int := by
  intro ci h
  simp only [List.mem_cons, List.not_mem_nil, or_false] at h
  subst h
  exact ⟨RX11, TX11, 6, RX11, tyX11, rfl, inX11, by decide, wu_96, Or.inl rfl, tyX11_ok, nmX11, Or.inl rfl, by decide⟩
theorem upX12_7 : at_Fp RX12 7 [12] 0 (.array .int) := by
  intro ci h
  simp only [List.mem_cons, List.not_mem_nil, or_false] at h
  subst h
  exact ⟨RX12, TX12, 30, RX12, tyX12, rfl, inX12, by decide, wu_98, Or.inl rfl, tyX12_ok, nmX12, Or.inr ⟨rfl, rfl⟩, by decide⟩
theorem upX12_13 : at_Fp RX12 13 [12] 8 (.array .int) := by
  intro ci h
  simp only [List.mem_cons, List.not_mem_nil, or_false] at h
  subst h
  exact ⟨RX12, TX12, 30, RX12, tyX12, rfl, inX12, by decide, wu_99, Or.inl rfl, tyX12_ok, nmX12, Or.inr ⟨rfl, rfl⟩, by decide⟩
theorem upX12_16 : at_Fp RX12 16 [12] 9 (.array .int) := by
  intro ci h
  simp only [List.mem_cons, List.not_mem_nil, or_false] at h
  subst h
  exact ⟨RX12, TX12, 30, RX12, tyX12, rfl, inX12, by decide, wu_100, Or.inl rfl, tyX12_ok, nmX12, Or.inr ⟨rfl, rfl⟩, by decide⟩
theorem upX12_19 : at_Fp RX12 19 [12] 10 (.array .int) := by
  intro ci h
  simp only [List.mem_cons, List.not_mem_nil, or_false] at h
  subst h
  exact ⟨RX12, TX12, 30, RX12, tyX12, rfl, inX12, by decide, wu_101, Or.inl rfl, tyX12_ok, nmX12, Or.inr ⟨rfl, rfl⟩, by decide⟩
theorem upX12_22 : at_Fp RX12 22 [12] 11 (.array .int) := by
  intro ci h
  simp only [List.mem_cons, List.not_mem_nil, or_false] at h
  subst h
  exact ⟨RX12, TX12, 30, RX12, tyX12, rfl, inX12, by decide, wu_102, Or.inl rfl, tyX12_ok, nmX12, Or.inr ⟨rfl, rfl⟩, by decide⟩
theorem upX12_25 : at_Fp RX12 25 [12] 12 (.array .int) := by
  intro ci h
  simp only [List.mem_cons, List.not_mem_nil, or_false] at h
  subst h
  exact ⟨RX12, TX12, 30, RX12, tyX12, rfl, inX12, by decide, wu_103, Or.inl rfl, tyX12_ok, nmX12, Or.inr ⟨rfl, rfl⟩, by decide⟩
theorem upX12_28 : at_Fp RX12 28 [12] 13 (.array .int) := by
  intro ci h
  simp only [List.mem_cons, List.not_mem_nil, or_false] at h
  subst h
  exact ⟨RX12, TX12, 30, RX12, tyX12, rfl, inX12, by decide, wu_104, Or.inl rfl, tyX12_ok, nmX12, Or.inr ⟨rfl, rfl⟩, by decide⟩
theorem upX12_31 : at_Fp RX12 31 [12] 14 (.array .int) := by
  intro ci h
  simp only [List.mem_cons, List.not_mem_nil, or_false] at h
  subst h
  exact ⟨RX12, TX12, 30, RX12, tyX12, rfl, inX12, by decide, wu_105, Or.inl rfl, tyX12_ok, nmX12, Or.inr ⟨rfl, rfl⟩, by decide⟩
theorem upX12_34 : at_Fp RX12 34 [12] 16 (.array .int) := by
  intro ci h
  simp only [List.mem_cons, List.not_mem_nil, or_false] at h
  subst h
  exact ⟨RX12, TX12, 30, RX12, tyX12, rfl, inX12, by decide, wu_106, Or.inl rfl, tyX12_ok, nmX12, Or.inr ⟨rfl, rfl⟩, by decide⟩
theorem upX12_37 : at_Fp RX12 37 [12] 17 (.array .int) := by
  intro ci h
  simp only [List.mem_cons, List.not_mem_nil, or_false] at h
  subst h
  exact ⟨RX12, TX12, 30, RX12, tyX12, rfl, inX12, by decide, wu_107, Or.inl rfl, tyX12_ok, nmX12, Or.inr ⟨rfl, rfl⟩, by decide⟩
theorem upX12_40 : at_Fp RX12 40 [12] 25 (.array .int) := by
  intro ci h
  simp only [List.mem_cons, List.not_mem_nil, or_false] at h
  subst h
  exact ⟨RX12, TX12, 30, RX12, tyX12, rfl, inX12, by decide, wu_108, Or.inl rfl, tyX12_ok, nmX12, Or.inr ⟨rfl, rfl⟩, by decide⟩
theorem upX12_43 : at_Fp RX12 43 [12] 26 (.array .int) := by
  intro ci h
  simp only [List.mem_cons, List.not_mem_nil, or_false] at h
  subst h
  exact ⟨RX12, TX12, 30, RX12, tyX12, rfl, inX12, by decide, wu_109, Or.inl rfl, tyX12_ok, nmX12, Or.inr ⟨rfl, rfl⟩, by decide⟩
theorem upX12_46 : at_Fp RX12 46 [12] 27 (.array .int) := by
  intro ci h
  simp only [List.mem_cons, List.not_mem_nil, or_false] at h
  subst h
  exact ⟨RX12, TX12, 30, RX12, tyX12, rfl, inX12, by decide, wu_110, Or.inl rfl, tyX12_ok, nmX12, Or.inr ⟨rfl, rfl⟩, by decide⟩
theorem upX12_49 : at_Fp RX12 49 [12] 28 (.array .int) := by
  intro ci h
  simp only [List.mem_cons, List.not_mem_nil, or_false] at h
  subst h
  exact ⟨RX12, TX12, 30, RX12, tyX12, rfl, inX12, by decide, wu_111, Or.inl rfl, tyX12_ok, nmX12, Or.inr ⟨rfl, rfl⟩, by decide⟩
theorem upX12_52 : at_Fp RX12 52 [12] 19 .int := by
  intro ci h
  simp only [List.mem_cons, List.not_mem_nil, or_false] at h
  subst h
  exact ⟨RX12, TX12, 30, RX12, tyX12, rfl, inX12, by decide, wu_112, Or.inl rfl, tyX12_ok, nmX12, Or.inl rfl, by decide⟩
def at_N0 (s0 : State) : Prop := va_Nw (.methodLinkNest RX0 19 yX7_init "GloveSaint") s0 ∧ va_Nw (.methodLinkNest RX2 27 yX7_init "GloveSaint") s0 ∧ va_Nw (.methodLinkNest RX11 9 yX4_init "GloveSaint") s0 ∧ va_Nw (.methodLinkNest RX11 25 yX2_init "GloveSaint") s0 ∧ va_Nw (.methodLinkNest RX11 32 yX6_init "GloveSaint") s0 ∧ va_Nw (.methodLinkNest RX11 39 yX10_init "GloveSaint") s0 ∧ at_AOA s0 ∧ va_AO RX8 s0
theorem at_n0 {s0 : State} (h : at_N0 s0) : va_Nw (.methodLinkNest RX0 19 yX7_init "GloveSaint") s0 := h.1
theorem at_n1 {s0 : State} (h : at_N0 s0) : va_Nw (.methodLinkNest RX2 27 yX7_init "GloveSaint") s0 := h.2.1
theorem at_n2 {s0 : State} (h : at_N0 s0) : va_Nw (.methodLinkNest RX11 9 yX4_init "GloveSaint") s0 := h.2.2.1
theorem at_n3 {s0 : State} (h : at_N0 s0) : va_Nw (.methodLinkNest RX11 25 yX2_init "GloveSaint") s0 := h.2.2.2.1
theorem at_n4 {s0 : State} (h : at_N0 s0) : va_Nw (.methodLinkNest RX11 32 yX6_init "GloveSaint") s0 := h.2.2.2.2.1
theorem at_n5 {s0 : State} (h : at_N0 s0) : va_Nw (.methodLinkNest RX11 39 yX10_init "GloveSaint") s0 := h.2.2.2.2.2.1
theorem at_n6 {s0 : State} (h : at_N0 s0) : at_AOA s0 := h.2.2.2.2.2.2.1
theorem at_n7 {s0 : State} (h : at_N0 s0) : va_AO RX8 s0 := h.2.2.2.2.2.2.2
def kX8_init (f lim : Nat) : List (Nat × ah_S) := [
  (0, ah_ald 0 1),
  (1, at_oi 4),
  (4, ah_ald 0 5),
  (5, ah_push (.int (-1)) 6),
  (6, ah_pfi [1, 3, 5, 8, 9] 3 9),
  (9, ah_ald 0 10),
  (10, ah_ild 1 11),
  (11, ah_pfi [1, 3, 5, 8, 9] 0 14),
  (14, ah_ald 0 15),
  (15, ah_ild 2 16),
  (16, ah_pfi [1, 3, 5, 8, 9] 1 19),
  (19, ah_ald 0 20),
  (20, ah_ild 3 21),
  (21, ah_pfi [1, 3, 5, 8, 9] 2 24),
  (24, ah_vret)]
def aX8_init (f : Nat) : ah_F := fun as h => (ah_fun (kX8_init f (h.length + 0)) 4 f as h).bind fun r => bif Nat.ble r.2.length (h.length + 0) then some r else none
set_option maxRecDepth 100000 in
set_option maxHeartbeats 4000000 in
theorem mX8_init {l : Launch} {s0 : State} {D : va_G} {tc : Nat → ClassId} {A : Nat → Prop} (hA : ∀ q, A q → s0.heap.size ≤ q) (hN : at_N0 s0) (f : Nat) : at_Met l s0 D tc A yX8_init cX8_init 4 none 1 20 0 (fun _ => True) (aX8_init f) :=
  at_met (code := kX8_init f) hA (by decide) (fun p e s m args below meth c res ad0 n0 _ C hA2 hnm hmc =>
  ah_cons (at_aload_n C dX8_init_0 rfl) ((ah_cons (at_objInit C dX8_init_1 wu_0 wu_1 wu_2 ⟨by decide, by decide⟩) (ah_cons (at_aload_n C dX8_init_4 rfl) (ah_cons (at_iconst C dX8_init_5 (by decide)) (ah_cons (at_pfi C hnm dX8_init_6 upX8_9) (ah_cons (at_aload_n C dX8_init_9 rfl) (ah_cons (at_iload_n C dX8_init_10 rfl) (ah_cons (at_pfi C hnm dX8_init_11 upX8_15) (ah_cons (at_aload_n C dX8_init_14 rfl) (ah_cons (at_iload_n C dX8_init_15 rfl) (ah_cons (at_pfi C hnm dX8_init_16 upX8_18) (ah_cons (at_aload_n C dX8_init_19 rfl) (ah_cons (at_iload_n C dX8_init_20 rfl) (ah_cons (at_pfi C hnm dX8_init_21 upX8_21) (ah_cons (at_vret C hmc rfl dX8_init_24) ah_nil))))))))))))))))
def kX1_init (f lim : Nat) : List (Nat × ah_S) := [
  (0, ah_ald 0 1),
  (1, ah_ild 1 2),
  (2, ah_ild 2 3),
  (3, ah_ild 3 4),
  (4, at_cI (aX8_init f) lim 0 4 7),
  (7, ah_vret)]
def aX1_init (f : Nat) : ah_F := fun as h => (ah_fun (kX1_init f (h.length + 0)) 4 f as h).bind fun r => bif Nat.ble r.2.length (h.length + 0) then some r else none
set_option maxRecDepth 100000 in
set_option maxHeartbeats 4000000 in
theorem mX1_init {l : Launch} {s0 : State} {D : va_G} {tc : Nat → ClassId} {A : Nat → Prop} (hA : ∀ q, A q → s0.heap.size ≤ q) (hN : at_N0 s0) (f : Nat) : at_Met l s0 D tc A yX1_init cX1_init 4 none 2 43 0 (fun _ => True) (aX1_init f) :=
  at_met (code := kX1_init f) hA (by decide) (fun p e s m args below meth c res ad0 n0 _ C hA2 hnm hmc =>
  ah_cons (at_aload_n C dX1_init_0 rfl) ((ah_cons (at_iload_n C dX1_init_1 rfl) (ah_cons (at_iload_n C dX1_init_2 rfl) (ah_cons (at_iload_n C dX1_init_3 rfl) (ah_cons (at_ctor (n := 3) C hA2 ⟨Nat.le_refl _, Nat.le_refl _⟩ rfl (mX8_init hA hN f) dX1_init_4 wu_10 wu_7 wu_8 wu_9 rfl ⟨by decide, by decide, by decide⟩ ⟨by decide, by decide⟩) (ah_cons (at_vret C hmc rfl dX1_init_7) ah_nil)))))))
def kX3_init (f lim : Nat) : List (Nat × ah_S) := [
  (0, ah_ald 0 1),
  (1, ah_ild 1 2),
  (2, ah_ild 2 3),
  (3, ah_ild 3 4),
  (4, at_cI (aX1_init f) lim 0 4 7),
  (7, ah_vret)]
def aX3_init (f : Nat) : ah_F := fun as h => (ah_fun (kX3_init f (h.length + 0)) 4 f as h).bind fun r => bif Nat.ble r.2.length (h.length + 0) then some r else none
set_option maxRecDepth 100000 in
set_option maxHeartbeats 4000000 in
theorem mX3_init {l : Launch} {s0 : State} {D : va_G} {tc : Nat → ClassId} {A : Nat → Prop} (hA : ∀ q, A q → s0.heap.size ≤ q) (hN : at_N0 s0) (f : Nat) : at_Met l s0 D tc A yX3_init cX3_init 4 none 3 66 0 (fun _ => True) (aX3_init f) :=
  at_met (code := kX3_init f) hA (by decide) (fun p e s m args below meth c res ad0 n0 _ C hA2 hnm hmc =>
  ah_cons (at_aload_n C dX3_init_0 rfl) ((ah_cons (at_iload_n C dX3_init_1 rfl) (ah_cons (at_iload_n C dX3_init_2 rfl) (ah_cons (at_iload_n C dX3_init_3 rfl) (ah_cons (at_ctor (n := 3) C hA2 ⟨Nat.le_refl _, Nat.le_refl _⟩ rfl (mX1_init hA hN f) dX3_init_4 wu_14 wu_11 wu_12 wu_13 rfl ⟨by decide, by decide, by decide⟩ ⟨by decide, by decide⟩) (ah_cons (at_vret C hmc rfl dX3_init_7) ah_nil)))))))
def kX5_init (f lim : Nat) : List (Nat × ah_S) := [
  (0, ah_ald 0 1),
  (1, ah_ild 1 2),
  (2, ah_ild 2 3),
  (3, ah_ild 3 4),
  (4, at_cI (aX8_init f) lim 0 4 7),
  (7, ah_vret)]
def aX5_init (f : Nat) : ah_F := fun as h => (ah_fun (kX5_init f (h.length + 0)) 4 f as h).bind fun r => bif Nat.ble r.2.length (h.length + 0) then some r else none
set_option maxRecDepth 100000 in
set_option maxHeartbeats 4000000 in
theorem mX5_init {l : Launch} {s0 : State} {D : va_G} {tc : Nat → ClassId} {A : Nat → Prop} (hA : ∀ q, A q → s0.heap.size ≤ q) (hN : at_N0 s0) (f : Nat) : at_Met l s0 D tc A yX5_init cX5_init 4 none 2 43 0 (fun _ => True) (aX5_init f) :=
  at_met (code := kX5_init f) hA (by decide) (fun p e s m args below meth c res ad0 n0 _ C hA2 hnm hmc =>
  ah_cons (at_aload_n C dX5_init_0 rfl) ((ah_cons (at_iload_n C dX5_init_1 rfl) (ah_cons (at_iload_n C dX5_init_2 rfl) (ah_cons (at_iload_n C dX5_init_3 rfl) (ah_cons (at_ctor (n := 3) C hA2 ⟨Nat.le_refl _, Nat.le_refl _⟩ rfl (mX8_init hA hN f) dX5_init_4 wu_15 wu_7 wu_8 wu_9 rfl ⟨by decide, by decide, by decide⟩ ⟨by decide, by decide⟩) (ah_cons (at_vret C hmc rfl dX5_init_7) ah_nil)))))))
def kX9_init (f lim : Nat) : List (Nat × ah_S) := [
  (0, ah_ald 0 1),
  (1, ah_ild 1 2),
  (2, ah_ild 2 3),
  (3, ah_ild 3 4),
  (4, at_cI (aX8_init f) lim 0 4 7),
  (7, ah_vret)]
def aX9_init (f : Nat) : ah_F := fun as h => (ah_fun (kX9_init f (h.length + 0)) 4 f as h).bind fun r => bif Nat.ble r.2.length (h.length + 0) then some r else none
set_option maxRecDepth 100000 in
set_option maxHeartbeats 4000000 in
theorem mX9_init {l : Launch} {s0 : State} {D : va_G} {tc : Nat → ClassId} {A : Nat → Prop} (hA : ∀ q, A q → s0.heap.size ≤ q) (hN : at_N0 s0) (f : Nat) : at_Met l s0 D tc A yX9_init cX9_init 4 none 2 43 0 (fun _ => True) (aX9_init f) :=
  at_met (code := kX9_init f) hA (by decide) (fun p e s m args below meth c res ad0 n0 _ C hA2 hnm hmc =>
  ah_cons (at_aload_n C dX9_init_0 rfl) ((ah_cons (at_iload_n C dX9_init_1 rfl) (ah_cons (at_iload_n C dX9_init_2 rfl) (ah_cons (at_iload_n C dX9_init_3 rfl) (ah_cons (at_ctor (n := 3) C hA2 ⟨Nat.le_refl _, Nat.le_refl _⟩ rfl (mX8_init hA hN f) dX9_init_4 wu_16 wu_7 wu_8 wu_9 rfl ⟨by decide, by decide, by decide⟩ ⟨by decide, by decide⟩) (ah_cons (at_vret C hmc rfl dX9_init_7) ah_nil)))))))
def kX7_init (f lim : Nat) : List (Nat × ah_S) := [
  (0, ah_ald 0 1),
  (1, at_oi 4),
  (4, ah_ald 0 5),
  (5, ah_push (.int (0)) 6),
  (6, ah_pfi [7] 0 9),
  (9, ah_ald 0 10),
  (10, ah_push (.int (8)) 12),
  (12, at_nwa lim 0 14),
  (14, at_pr [7] 1 17),
  (17, ah_ald 0 18),
  (18, ah_push (.int (8)) 20),
  (20, at_nwa lim 0 22),
  (22, at_pr [7] 2 25),
  (25, ah_ald 0 26),
  (26, ah_push (.int (8)) 28),
  (28, at_nwa lim 0 30),
  (30, at_pr [7] 3 33),
  (33, ah_ald 0 34),
  (34, ah_push (.int (20)) 36),
  (36, at_nwa lim 0 38),
  (38, at_pr [7] 4 41),
  (41, ah_vret)]
def aX7_init (f : Nat) : ah_F := fun as h => (ah_fun (kX7_init f (h.length + 4)) 1 f as h).bind fun r => bif Nat.ble r.2.length (h.length + 4) then some r else none
set_option maxRecDepth 100000 in
set_option maxHeartbeats 4000000 in
theorem mX7_init {l : Launch} {s0 : State} {D : va_G} {tc : Nat → ClassId} {A : Nat → Prop} (hA : ∀ q, A q → s0.heap.size ≤ q) (hN : at_N0 s0) (f : Nat) : at_Met l s0 D tc A yX7_init cX7_init 1 none 1 20 4 (fun _ => True) (aX7_init f) :=
  at_met (code := kX7_init f) hA (by decide) (fun p e s m args below meth c res ad0 n0 _ C hA2 hnm hmc =>
  ah_cons (at_aload_n C dX7_init_0 rfl) ((ah_cons (at_objInit C dX7_init_1 wu_17 wu_1 wu_2 ⟨by decide, by decide⟩) (ah_cons (at_aload_n C dX7_init_4 rfl) (ah_cons (at_iconst C dX7_init_5 (by decide)) (ah_cons (at_pfi C hnm dX7_init_6 upX7_9) (ah_cons (at_aload_n C dX7_init_9 rfl) (ah_cons (at_bipush C dX7_init_10 (by decide)) (ah_cons (at_newai C hA2 ⟨Nat.le_refl _, Nat.le_refl _⟩ rfl dX7_init_12 (ty := .int) rfl wu_19 rfl (fun _ h => h) (fun _ _ => rfl) (by decide)) (ah_cons (at_pfr C hnm dX7_init_14 upX7_15 (fun _ => ⟨rfl, rfl⟩)) (ah_cons (at_aload_n C dX7_init_17 rfl) (ah_cons (at_bipush C dX7_init_18 (by decide)) (ah_cons (at_newai C hA2 ⟨Nat.le_refl _, Nat.le_refl _⟩ rfl dX7_init_20 (ty := .int) rfl wu_19 rfl (fun _ h => h) (fun _ _ => rfl) (by decide)) (ah_cons (at_pfr C hnm dX7_init_22 upX7_19 (fun _ => ⟨rfl, rfl⟩)) (ah_cons (at_aload_n C dX7_init_25 rfl) (ah_cons (at_bipush C dX7_init_26 (by decide)) (ah_cons (at_newai C hA2 ⟨Nat.le_refl _, Nat.le_refl _⟩ rfl dX7_init_28 (ty := .int) rfl wu_19 rfl (fun _ h => h) (fun _ _ => rfl) (by decide)) (ah_cons (at_pfr C hnm dX7_init_30 upX7_22 (fun _ => ⟨rfl, rfl⟩)) (ah_cons (at_aload_n C dX7_init_33 rfl) (ah_cons (at_bipush C dX7_init_34 (by decide)) (ah_cons (at_newai C hA2 ⟨Nat.le_refl _, Nat.le_refl _⟩ rfl dX7_init_36 (ty := .int) rfl wu_19 rfl (fun _ h => h) (fun _ _ => rfl) (by decide)) (ah_cons (at_pfr C hnm dX7_init_38 upX7_25 (fun _ => ⟨rfl, rfl⟩)) (ah_cons (at_vret C hmc rfl dX7_init_41) ah_nil)))))))))))))))))))))))
def kX4_init (f lim : Nat) : List (Nat × ah_S) := [
  (0, ah_ald 0 1),
  (1, at_oi 4),
  (4, ah_ald 0 5),
  (5, ah_push (.int (36)) 7),
  (7, at_nwa lim 0 9),
  (9, at_pr [4] 0 12),
  (12, ah_ald 0 13),
  (13, ah_push (.int (0)) 14),
  (14, ah_pfi [4] 1 17),
  (17, ah_vret)]
def aX4_init (f : Nat) : ah_F := fun as h => (ah_fun (kX4_init f (h.length + 1)) 1 f as h).bind fun r => bif Nat.ble r.2.length (h.length + 1) then some r else none
set_option maxRecDepth 100000 in
set_option maxHeartbeats 4000000 in
theorem mX4_init {l : Launch} {s0 : State} {D : va_G} {tc : Nat → ClassId} {A : Nat → Prop} (hA : ∀ q, A q → s0.heap.size ≤ q) (hN : at_N0 s0) (f : Nat) : at_Met l s0 D tc A yX4_init cX4_init 1 none 1 20 1 (fun _ => True) (aX4_init f) :=
  at_met (code := kX4_init f) hA (by decide) (fun p e s m args below meth c res ad0 n0 _ C hA2 hnm hmc =>
  ah_cons (at_aload_n C dX4_init_0 rfl) ((ah_cons (at_objInit C dX4_init_1 wu_24 wu_1 wu_2 ⟨by decide, by decide⟩) (ah_cons (at_aload_n C dX4_init_4 rfl) (ah_cons (at_bipush C dX4_init_5 (by decide)) (ah_cons (at_newai C hA2 ⟨Nat.le_refl _, Nat.le_refl _⟩ rfl dX4_init_7 (ty := .int) rfl wu_19 rfl (fun _ h => h) (fun _ _ => rfl) (by decide)) (ah_cons (at_pfr C hnm dX4_init_9 upX4_11 (fun _ => ⟨rfl, rfl⟩)) (ah_cons (at_aload_n C dX4_init_12 rfl) (ah_cons (at_iconst C dX4_init_13 (by decide)) (ah_cons (at_pfi C hnm dX4_init_14 upX4_15) (ah_cons (at_vret C hmc rfl dX4_init_17) ah_nil)))))))))))
def kX0_init (f lim : Nat) : List (Nat × ah_S) := [
  (59, ah_ild 1 60),
  (0, ah_ald 0 1),
  (1, at_oi 4),
  (4, ah_ald 0 5),
  (5, ah_push (.int (7)) 7),
  (7, at_nwq lim 2 10),
  (10, at_pr [0] 0 13),
  (13, ah_ald 0 14),
  (14, at_new lim 7 [.int 0, .null, .null, .null, .null] 17),
  (17, ah_dupR 18),
  (18, at_cI (aX7_init f) lim 4 1 21),
  (21, at_pr [0] 1 24),
  (24, ah_ald 0 25),
  (25, ah_push (.int (0)) 26),
  (26, ah_pfi [0] 2 29),
  (29, ah_ald 0 30),
  (30, ah_push (.int (0)) 31),
  (31, ah_pfi [0] 3 34),
  (34, ah_ald 0 35),
  (35, ah_push (.int (0)) 36),
  (36, ah_pfi [0] 4 39),
  (39, ah_ald 0 40),
  (40, ah_push (.int (0)) 41),
  (41, ah_pfi [0] 5 44),
  (44, ah_ald 0 45),
  (45, ah_push (.int (0)) 46),
  (46, ah_pfi [0] 6 49),
  (49, ah_ald 0 50),
  (50, ah_push (.int (7)) 52),
  (52, at_nwa lim 0 54),
  (54, at_pr [0] 7 57),
  (57, ah_push (.int (0)) 58),
  (58, ah_lim 59 [0, 1] (ah_ist 1 59)),
  (60, ah_push (.int (7)) 62),
  (62, ah_clt 65 87),
  (65, ah_ald 0 66),
  (66, ah_gfr [0] 0 69),
  (69, ah_ild 1 70),
  (70, at_new lim 8 [.int 0, .int 0, .int 0, .int 0] 73),
  (73, ah_dupR 74),
  (74, ah_push (.int (0)) 75),
  (75, ah_push (.int (0)) 76),
  (76, ah_push (.int (0)) 77),
  (77, at_cI (aX8_init f) lim 0 4 80),
  (80, at_ast 2 8 81),
  (81, ah_inc 1 (1) 84),
  (84, ah_lim 59 [0, 1] (ah_goto 59)),
  (87, ah_vret)]
def aX0_init (f : Nat) : ah_F := fun as h => (ah_fun (kX0_init f (h.length + 14)) 2 f as h).bind fun r => bif Nat.ble r.2.length (h.length + 14) then some r else none
set_option maxRecDepth 100000 in
set_option maxHeartbeats 4000000 in
theorem mX0_init {l : Launch} {s0 : State} {D : va_G} {tc : Nat → ClassId} {A : Nat → Prop} (hA : ∀ q, A q → s0.heap.size ≤ q) (hN : at_N0 s0) (f : Nat) : at_Met l s0 D tc A yX0_init cX0_init 2 none 2 43 14 (fun _ => True) (aX0_init f) :=
  at_met (code := kX0_init f) hA (by decide) (fun p e s m args below meth c res ad0 n0 _ C hA2 hnm hmc =>
  ah_cons (at_iload_n C dX0_init_59 rfl) ((ah_cons (at_aload_n C dX0_init_0 rfl) (ah_cons (at_objInit C dX0_init_1 wu_27 wu_1 wu_2 ⟨by decide, by decide⟩) (ah_cons (at_aload_n C dX0_init_4 rfl) (ah_cons (at_bipush C dX0_init_5 (by decide)) (ah_cons (at_newaq C hA2 ⟨Nat.le_refl _, Nat.le_refl _⟩ rfl dX0_init_7 wu_28 (at_n7 hN) rfl) (ah_cons (at_pfr C hnm dX0_init_10 upX0_11 (fun _ => ⟨rfl, rfl⟩)) (ah_cons (at_aload_n C dX0_init_13 rfl) (ah_cons (at_newo C hA2 ⟨Nat.le_refl _, Nat.le_refl _⟩ rfl dX0_init_14 (ci := 7) (fs := [.int 0, .null, .null, .null, .null]) rfl inX7 tyX7 tyX7_ok wu_30 wu_31 wu_32 (fun j hj => by rcases (show j = 0 ∨ j = 1 ∨ j = 2 ∨ j = 3 ∨ j = 4 by omega) with rfl | rfl | rfl | rfl | rfl <;> rfl) (fun _ => rfl) (by decide)) (ah_cons (at_dupR C dX0_init_17) (ah_cons (at_ctorN (n := 0) C hA2 ⟨Nat.le_refl _, Nat.le_refl _⟩ rfl (mX7_init hA hN f) dX0_init_18 (at_n0 hN) wu_33 wu_32 wu_34 rfl ⟨by decide, by decide, by decide⟩ ⟨by decide, by decide⟩) (ah_cons (at_pfr C hnm dX0_init_21 upX0_20 (fun _ => ⟨rfl, rfl⟩)) (ah_cons (at_aload_n C dX0_init_24 rfl) (ah_cons (at_iconst C dX0_init_25 (by decide)) (ah_cons (at_pfi C hnm dX0_init_26 upX0_24) (ah_cons (at_aload_n C dX0_init_29 rfl) (ah_cons (at_iconst C dX0_init_30 (by decide)) (ah_cons (at_pfi C hnm dX0_init_31 upX0_28) (ah_cons (at_aload_n C dX0_init_34 rfl) (ah_cons (at_iconst C dX0_init_35 (by decide)) (ah_cons (at_pfi C hnm dX0_init_36 upX0_31) (ah_cons (at_aload_n C dX0_init_39 rfl) (ah_cons (at_iconst C dX0_init_40 (by decide)) (ah_cons (at_pfi C hnm dX0_init_41 upX0_34) (ah_cons (at_aload_n C dX0_init_44 rfl) (ah_cons (at_iconst C dX0_init_45 (by decide)) (ah_cons (at_pfi C hnm dX0_init_46 upX0_37) (ah_cons (at_aload_n C dX0_init_49 rfl) (ah_cons (at_bipush C dX0_init_50 (by decide)) (ah_cons (at_newai C hA2 ⟨Nat.le_refl _, Nat.le_refl _⟩ rfl dX0_init_52 (ty := .int) rfl wu_19 rfl (fun _ h => h) (fun _ _ => rfl) (by decide)) (ah_cons (at_pfr C hnm dX0_init_54 upX0_40 (fun _ => ⟨rfl, rfl⟩)) (ah_cons (at_iconst C dX0_init_57 (by decide)) (ah_cons (at_lim (at_istore_n C dX0_init_58 rfl (by decide))) (ah_cons (at_bipush C dX0_init_60 (by decide)) (ah_cons (at_icmp_ge C dX0_init_62 (by decide)) (ah_cons (at_aload_n C dX0_init_65 rfl) (ah_cons (at_gfr C dX0_init_66 ugX0_11) (ah_cons (at_iload_n C dX0_init_69 rfl) (ah_cons (at_newo C hA2 ⟨Nat.le_refl _, Nat.le_refl _⟩ rfl dX0_init_70 (ci := 8) (fs := [.int 0, .int 0, .int 0, .int 0]) rfl inX8 tyX8 tyX8_ok wu_28 wu_42 wu_8 (fun j hj => by rcases (show j = 0 ∨ j = 1 ∨ j = 2 ∨ j = 3 by omega) with rfl | rfl | rfl | rfl <;> rfl) (fun _ => rfl) (by decide)) (ah_cons (at_dupR C dX0_init_73) (ah_cons (at_iconst C dX0_init_74 (by decide)) (ah_cons (at_iconst C dX0_init_75 (by decide)) (ah_cons (at_iconst C dX0_init_76 (by decide)) (ah_cons (at_ctor (n := 3) C hA2 ⟨Nat.le_refl _, Nat.le_refl _⟩ rfl (mX8_init hA hN f) dX0_init_77 wu_43 wu_7 wu_8 wu_9 rfl ⟨by decide, by decide, by decide⟩ ⟨by decide, by decide⟩) (ah_cons (at_aast C dX0_init_80 (ci := 8) rfl rfl) (ah_cons (at_iinc C dX0_init_81 (by decide) (by decide)) (ah_cons (at_lim (at_goto C dX0_init_84 (by decide))) (ah_cons (at_vret C hmc rfl dX0_init_87) ah_nil)))))))))))))))))))))))))))))))))))))))))))))))))
def kX2_init (f lim : Nat) : List (Nat × ah_S) := [
  (0, ah_ald 0 1),
  (1, at_oi 4),
  (4, ah_ald 0 5),
  (5, ah_push (.int (0)) 6),
  (6, ah_pfz [2] 0 9),
  (9, ah_ald 0 10),
  (10, ah_push (.int (7)) 12),
  (12, at_nwa lim 0 14),
  (14, at_pr [2] 1 17),
  (17, ah_ald 0 18),
  (18, ah_push (.int (7)) 20),
  (20, at_nwa lim 0 22),
  (22, at_pr [2] 2 25),
  (25, ah_ald 0 26),
  (26, ah_push (.int (7)) 28),
  (28, at_nwa lim 0 30),
  (30, at_pr [2] 3 33),
  (33, ah_ald 0 34),
  (34, at_new lim 7 [.int 0, .null, .null, .null, .null] 37),
  (37, ah_dupR 38),
  (38, at_cI (aX7_init f) lim 4 1 41),
  (41, at_pr [2] 4 44),
  (44, ah_ald 0 45),
  (45, ah_push (.int (0)) 46),
  (46, ah_pfi [2] 5 49),
  (49, ah_ald 0 50),
  (50, ah_push (.int (0)) 51),
  (51, ah_pfi [2] 6 54),
  (54, ah_ald 0 55),
  (55, ah_push (.int (0)) 56),
  (56, ah_pfi [2] 7 59),
  (59, ah_ald 0 60),
  (60, ah_push (.int (0)) 61),
  (61, ah_pfi [2] 8 64),
  (64, ah_vret)]
def aX2_init (f : Nat) : ah_F := fun as h => (ah_fun (kX2_init f (h.length + 8)) 1 f as h).bind fun r => bif Nat.ble r.2.length (h.length + 8) then some r else none
set_option maxRecDepth 100000 in
set_option maxHeartbeats 4000000 in
theorem mX2_init {l : Launch} {s0 : State} {D : va_G} {tc : Nat → ClassId} {A : Nat → Prop} (hA : ∀ q, A q → s0.heap.size ≤ q) (hN : at_N0 s0) (f : Nat) : at_Met l s0 D tc A yX2_init cX2_init 1 none 2 40 8 (fun _ => True) (aX2_init f) :=
  at_met (code := kX2_init f) hA (by decide) (fun p e s m args below meth c res ad0 n0 _ C hA2 hnm hmc =>
  ah_cons (at_aload_n C dX2_init_0 rfl) ((ah_cons (at_objInit C dX2_init_1 wu_44 wu_1 wu_2 ⟨by decide, by decide⟩) (ah_cons (at_aload_n C dX2_init_4 rfl) (ah_cons (at_iconst C dX2_init_5 (by decide)) (ah_cons (at_pfz C hnm dX2_init_6 upX2_9) (ah_cons (at_aload_n C dX2_init_9 rfl) (ah_cons (at_bipush C dX2_init_10 (by decide)) (ah_cons (at_newai C hA2 ⟨Nat.le_refl _, Nat.le_refl _⟩ rfl dX2_init_12 (ty := .int) rfl wu_19 rfl (fun _ h => h) (fun _ _ => rfl) (by decide)) (ah_cons (at_pfr C hnm dX2_init_14 upX2_15 (fun _ => ⟨rfl, rfl⟩)) (ah_cons (at_aload_n C dX2_init_17 rfl) (ah_cons (at_bipush C dX2_init_18 (by decide)) (ah_cons (at_newai C hA2 ⟨Nat.le_refl _, Nat.le_refl _⟩ rfl dX2_init_20 (ty := .int) rfl wu_19 rfl (fun _ h => h) (fun _ _ => rfl) (by decide)) (ah_cons (at_pfr C hnm dX2_init_22 upX2_19 (fun _ => ⟨rfl, rfl⟩)) (ah_cons (at_aload_n C dX2_init_25 rfl) (ah_cons (at_bipush C dX2_init_26 (by decide)) (ah_cons (at_newai C hA2 ⟨Nat.le_refl _, Nat.le_refl _⟩ rfl dX2_init_28 (ty := .int) rfl wu_19 rfl (fun _ h => h) (fun _ _ => rfl) (by decide)) (ah_cons (at_pfr C hnm dX2_init_30 upX2_22 (fun _ => ⟨rfl, rfl⟩)) (ah_cons (at_aload_n C dX2_init_33 rfl) (ah_cons (at_newo C hA2 ⟨Nat.le_refl _, Nat.le_refl _⟩ rfl dX2_init_34 (ci := 7) (fs := [.int 0, .null, .null, .null, .null]) rfl inX7 tyX7 tyX7_ok wu_49 wu_31 wu_32 (fun j hj => by rcases (show j = 0 ∨ j = 1 ∨ j = 2 ∨ j = 3 ∨ j = 4 by omega) with rfl | rfl | rfl | rfl | rfl <;> rfl) (fun _ => rfl) (by decide)) (ah_cons (at_dupR C dX2_init_37) (ah_cons (at_ctorN (n := 0) C hA2 ⟨Nat.le_refl _, Nat.le_refl _⟩ rfl (mX7_init hA hN f) dX2_init_38 (at_n1 hN) wu_33 wu_32 wu_34 rfl ⟨by decide, by decide, by decide⟩ ⟨by decide, by decide⟩) (ah_cons (at_pfr C hnm dX2_init_41 upX2_28 (fun _ => ⟨rfl, rfl⟩)) (ah_cons (at_aload_n C dX2_init_44 rfl) (ah_cons (at_iconst C dX2_init_45 (by decide)) (ah_cons (at_pfi C hnm dX2_init_46 upX2_32) (ah_cons (at_aload_n C dX2_init_49 rfl) (ah_cons (at_iconst C dX2_init_50 (by decide)) (ah_cons (at_pfi C hnm dX2_init_51 upX2_36) (ah_cons (at_aload_n C dX2_init_54 rfl) (ah_cons (at_iconst C dX2_init_55 (by decide)) (ah_cons (at_pfi C hnm dX2_init_56 upX2_39) (ah_cons (at_aload_n C dX2_init_59 rfl) (ah_cons (at_iconst C dX2_init_60 (by decide)) (ah_cons (at_pfi C hnm dX2_init_61 upX2_42) (ah_cons (at_vret C hmc rfl dX2_init_64) ah_nil))))))))))))))))))))))))))))))))))))
def kX6_init (f lim : Nat) : List (Nat × ah_S) := [
  (0, ah_ald 0 1),
  (1, at_oi 4),
  (4, ah_ald 0 5),
  (5, ah_push (.int (7)) 7),
  (7, at_nwa lim 0 9),
  (9, at_pr [6] 4 12),
  (12, ah_ald 0 13),
  (13, ah_push (.int (7)) 15),
  (15, at_nwa lim 0 17),
  (17, at_pr [6] 5 20),
  (20, ah_ald 0 21),
  (21, ah_push (.int (7)) 23),
  (23, ah_push (.int (7)) 25),
  (25, at_mul lim 29),
  (29, at_pr [6] 6 32),
  (32, ah_ald 0 33),
  (33, ah_push (.int (7)) 35),
  (35, at_nwa lim 0 37),
  (37, at_pr [6] 7 40),
  (40, ah_vret)]
def aX6_init (f : Nat) : ah_F := fun as h => (ah_fun (kX6_init f (h.length + 11)) 1 f as h).bind fun r => bif Nat.ble r.2.length (h.length + 11) then some r else none
set_option maxRecDepth 100000 in
set_option maxHeartbeats 4000000 in
theorem mX6_init {l : Launch} {s0 : State} {D : va_G} {tc : Nat → ClassId} {A : Nat → Prop} (hA : ∀ q, A q → s0.heap.size ≤ q) (hN : at_N0 s0) (f : Nat) : at_Met l s0 D tc A yX6_init cX6_init 1 none 1 20 11 (fun _ => True) (aX6_init f) :=
  at_met (code := kX6_init f) hA (by decide) (fun p e s m args below meth c res ad0 n0 _ C hA2 hnm hmc =>
  ah_cons (at_aload_n C dX6_init_0 rfl) ((ah_cons (at_objInit C dX6_init_1 wu_55 wu_1 wu_2 ⟨by decide, by decide⟩) (ah_cons (at_aload_n C dX6_init_4 rfl) (ah_cons (at_bipush C dX6_init_5 (by decide)) (ah_cons (at_newai C hA2 ⟨Nat.le_refl _, Nat.le_refl _⟩ rfl dX6_init_7 (ty := .int) rfl wu_19 rfl (fun _ h => h) (fun _ _ => rfl) (by decide)) (ah_cons (at_pfr C hnm dX6_init_9 upX6_9 (fun _ => ⟨rfl, rfl⟩)) (ah_cons (at_aload_n C dX6_init_12 rfl) (ah_cons (at_bipush C dX6_init_13 (by decide)) (ah_cons (at_newai C hA2 ⟨Nat.le_refl _, Nat.le_refl _⟩ rfl dX6_init_15 (ty := .int) rfl wu_19 rfl (fun _ h => h) (fun _ _ => rfl) (by decide)) (ah_cons (at_pfr C hnm dX6_init_17 upX6_15 (fun _ => ⟨rfl, rfl⟩)) (ah_cons (at_aload_n C dX6_init_20 rfl) (ah_cons (at_bipush C dX6_init_21 (by decide)) (ah_cons (at_bipush C dX6_init_23 (by decide)) (ah_cons (at_multi C hA2 ⟨Nat.le_refl _, Nat.le_refl _⟩ rfl dX6_init_25 wu_58 (at_n6 hN) wu_19) (ah_cons (at_pfr C hnm dX6_init_29 upX6_20 (fun _ => ⟨rfl, rfl⟩)) (ah_cons (at_aload_n C dX6_init_32 rfl) (ah_cons (at_bipush C dX6_init_33 (by decide)) (ah_cons (at_newai C hA2 ⟨Nat.le_refl _, Nat.le_refl _⟩ rfl dX6_init_35 (ty := .int) rfl wu_19 rfl (fun _ h => h) (fun _ _ => rfl) (by decide)) (ah_cons (at_pfr C hnm dX6_init_37 upX6_23 (fun _ => ⟨rfl, rfl⟩)) (ah_cons (at_vret C hmc rfl dX6_init_40) ah_nil)))))))))))))))))))))
def kX10_init (f lim : Nat) : List (Nat × ah_S) := [
  (0, ah_ald 0 1),
  (1, at_oi 4),
  (4, ah_ald 0 5),
  (5, ah_push (.int (7)) 7),
  (7, at_nwa lim 1 9),
  (9, at_pr [10] 3 12),
  (12, ah_vret)]
def aX10_init (f : Nat) : ah_F := fun as h => (ah_fun (kX10_init f (h.length + 1)) 1 f as h).bind fun r => bif Nat.ble r.2.length (h.length + 1) then some r else none
set_option maxRecDepth 100000 in
set_option maxHeartbeats 4000000 in
theorem mX10_init {l : Launch} {s0 : State} {D : va_G} {tc : Nat → ClassId} {A : Nat → Prop} (hA : ∀ q, A q → s0.heap.size ≤ q) (hN : at_N0 s0) (f : Nat) : at_Met l s0 D tc A yX10_init cX10_init 1 none 1 20 1 (fun _ => True) (aX10_init f) :=
  at_met (code := kX10_init f) hA (by decide) (fun p e s m args below meth c res ad0 n0 _ C hA2 hnm hmc =>
  ah_cons (at_aload_n C dX10_init_0 rfl) ((ah_cons (at_objInit C dX10_init_1 wu_61 wu_1 wu_2 ⟨by decide, by decide⟩) (ah_cons (at_aload_n C dX10_init_4 rfl) (ah_cons (at_bipush C dX10_init_5 (by decide)) (ah_cons (at_newai C hA2 ⟨Nat.le_refl _, Nat.le_refl _⟩ rfl dX10_init_7 (ty := .boolean) rfl wu_62 rfl (fun _ h => h) (fun _ _ => rfl) (by decide)) (ah_cons (at_pfr C hnm dX10_init_9 upX10_9 (fun _ => ⟨rfl, rfl⟩)) (ah_cons (at_vret C hmc rfl dX10_init_12) ah_nil))))))))
def kX11_init (f lim : Nat) : List (Nat × ah_S) := [
  (0, ah_ald 0 1),
  (1, at_oi 4),
  (4, ah_ald 0 5),
  (5, at_new lim 4 [.null, .int 0] 8),
  (8, ah_dupR 9),
  (9, at_cI (aX4_init f) lim 1 1 12),
  (12, at_pr [11] 0 15),
  (15, ah_ald 0 16),
  (16, at_new lim 0 [.null, .null, .int 0, .int 0, .int 0, .int 0, .int 0, .null] 19),
  (19, ah_dupR 20),
  (20, at_cI (aX0_init f) lim 14 1 23),
  (23, at_pr [11] 1 26),
  (26, ah_ald 0 27),
  (27, at_new lim 2 [.int 0, .null, .null, .null, .null, .int 0, .int 0, .int 0, .int 0] 30),
  (30, ah_dupR 31),
  (31, at_cI (aX2_init f) lim 8 1 34),
  (34, at_pr [11] 2 37),
  (37, ah_ald 0 38),
  (38, at_new lim 6 [.int 0, .int 0, .int 0, .int 0, .null, .null, .null, .null, .int 0, .int 0, .int 0, .int 0] 41),
  (41, ah_dupR 42),
  (42, at_cI (aX6_init f) lim 11 1 45),
  (45, at_pr [11] 3 48),
  (48, ah_ald 0 49),
  (49, at_new lim 10 [.int 0, .int 0, .long 0, .null] 52),
  (52, ah_dupR 53),
  (53, at_cI (aX10_init f) lim 1 1 56),
  (56, at_pr [11] 4 59),
  (59, ah_ald 0 60),
  (60, ah_push (.int (0)) 61),
  (61, ah_pfi [11] 5 64),
  (64, ah_vret)]
def aX11_init (f : Nat) : ah_F := fun as h => (ah_fun (kX11_init f (h.length + 40)) 1 f as h).bind fun r => bif Nat.ble r.2.length (h.length + 40) then some r else none
set_option maxRecDepth 100000 in
set_option maxHeartbeats 4000000 in
theorem mX11_init {l : Launch} {s0 : State} {D : va_G} {tc : Nat → ClassId} {A : Nat → Prop} (hA : ∀ q, A q → s0.heap.size ≤ q) (hN : at_N0 s0) (f : Nat) : at_Met l s0 D tc A yX11_init cX11_init 1 none 3 64 40 (fun _ => True) (aX11_init f) :=
  at_met (code := kX11_init f) hA (by decide) (fun p e s m args below meth c res ad0 n0 _ C hA2 hnm hmc =>
  ah_cons (at_aload_n C dX11_init_0 rfl) ((ah_cons (at_objInit C dX11_init_1 wu_64 wu_1 wu_2 ⟨by decide, by decide⟩) (ah_cons (at_aload_n C dX11_init_4 rfl) (ah_cons (at_newo C hA2 ⟨Nat.le_refl _, Nat.le_refl _⟩ rfl dX11_init_5 (ci := 4) (fs := [.null, .int 0]) rfl inX4 tyX4 tyX4_ok wu_65 wu_66 wu_67 (fun j hj => by rcases (show j = 0 ∨ j = 1 by omega) with rfl | rfl <;> rfl) (fun _ => rfl) (by decide)) (ah_cons (at_dupR C dX11_init_8) (ah_cons (at_ctorN (n := 0) C hA2 ⟨Nat.le_refl _, Nat.le_refl _⟩ rfl (mX4_init hA hN f) dX11_init_9 (at_n2 hN) wu_68 wu_67 wu_69 rfl ⟨by decide, by decide, by decide⟩ ⟨by decide, by decide⟩) (ah_cons (at_pfr C hnm dX11_init_12 upX11_10 (fun _ => ⟨rfl, rfl⟩)) (ah_cons (at_aload_n C dX11_init_15 rfl) (ah_cons (at_newo C hA2 ⟨Nat.le_refl _, Nat.le_refl _⟩ rfl dX11_init_16 (ci := 0) (fs := [.null, .null, .int 0, .int 0, .int 0, .int 0, .int 0, .null]) rfl inX0 tyX0 tyX0_ok wu_71 wu_72 wu_73 (fun j hj => by rcases (show j = 0 ∨ j = 1 ∨ j = 2 ∨ j = 3 ∨ j = 4 ∨ j = 5 ∨ j = 6 ∨ j = 7 by omega) with rfl | rfl | rfl | rfl | rfl | rfl | rfl | rfl <;> rfl) (fun _ => rfl) (by decide)) (ah_cons (at_dupR C dX11_init_19) (ah_cons (at_ctor (n := 0) C hA2 ⟨Nat.le_refl _, Nat.le_refl _⟩ rfl (mX0_init hA hN f) dX11_init_20 wu_76 wu_74 wu_73 wu_75 rfl ⟨by decide, by decide, by decide⟩ ⟨by decide, by decide⟩) (ah_cons (at_pfr C hnm dX11_init_23 upX11_19 (fun _ => ⟨rfl, rfl⟩)) (ah_cons (at_aload_n C dX11_init_26 rfl) (ah_cons (at_newo C hA2 ⟨Nat.le_refl _, Nat.le_refl _⟩ rfl dX11_init_27 (ci := 2) (fs := [.int 0, .null, .null, .null, .null, .int 0, .int 0, .int 0, .int 0]) rfl inX2 tyX2 tyX2_ok wu_78 wu_79 wu_80 (fun j hj => by rcases (show j = 0 ∨ j = 1 ∨ j = 2 ∨ j = 3 ∨ j = 4 ∨ j = 5 ∨ j = 6 ∨ j = 7 ∨ j = 8 by omega) with rfl | rfl | rfl | rfl | rfl | rfl | rfl | rfl | rfl <;> rfl) (fun _ => rfl) (by decide)) (ah_cons (at_dupR C dX11_init_30) (ah_cons (at_ctorN (n := 0) C hA2 ⟨Nat.le_refl _, Nat.le_refl _⟩ rfl (mX2_init hA hN f) dX11_init_31 (at_n3 hN) wu_81 wu_80 wu_82 rfl ⟨by decide, by decide, by decide⟩ ⟨by decide, by decide⟩) (ah_cons (at_pfr C hnm dX11_init_34 upX11_26 (fun _ => ⟨rfl, rfl⟩)) (ah_cons (at_aload_n C dX11_init_37 rfl) (ah_cons (at_newo C hA2 ⟨Nat.le_refl _, Nat.le_refl _⟩ rfl dX11_init_38 (ci := 6) (fs := [.int 0, .int 0, .int 0, .int 0, .null, .null, .null, .null, .int 0, .int 0, .int 0, .int 0]) rfl inX6 tyX6 tyX6_ok wu_84 wu_85 wu_86 (fun j hj => by rcases (show j = 0 ∨ j = 1 ∨ j = 2 ∨ j = 3 ∨ j = 4 ∨ j = 5 ∨ j = 6 ∨ j = 7 ∨ j = 8 ∨ j = 9 ∨ j = 10 ∨ j = 11 by omega) with rfl | rfl | rfl | rfl | rfl | rfl | rfl | rfl | rfl | rfl | rfl | rfl <;> rfl) (fun _ => rfl) (by decide)) (ah_cons (at_dupR C dX11_init_41) (ah_cons (at_ctorN (n := 0) C hA2 ⟨Nat.le_refl _, Nat.le_refl _⟩ rfl (mX6_init hA hN f) dX11_init_42 (at_n4 hN) wu_87 wu_86 wu_88 rfl ⟨by decide, by decide, by decide⟩ ⟨by decide, by decide⟩) (ah_cons (at_pfr C hnm dX11_init_45 upX11_33 (fun _ => ⟨rfl, rfl⟩)) (ah_cons (at_aload_n C dX11_init_48 rfl) (ah_cons (at_newo C hA2 ⟨Nat.le_refl _, Nat.le_refl _⟩ rfl dX11_init_49 (ci := 10) (fs := [.int 0, .int 0, .long 0, .null]) rfl inX10 tyX10 tyX10_ok wu_90 wu_91 wu_92 (fun j hj => by rcases (show j = 0 ∨ j = 1 ∨ j = 2 ∨ j = 3 by omega) with rfl | rfl | rfl | rfl <;> rfl) (fun _ => rfl) (by decide)) (ah_cons (at_dupR C dX11_init_52) (ah_cons (at_ctorN (n := 0) C hA2 ⟨Nat.le_refl _, Nat.le_refl _⟩ rfl (mX10_init hA hN f) dX11_init_53 (at_n5 hN) wu_93 wu_92 wu_94 rfl ⟨by decide, by decide, by decide⟩ ⟨by decide, by decide⟩) (ah_cons (at_pfr C hnm dX11_init_56 upX11_40 (fun _ => ⟨rfl, rfl⟩)) (ah_cons (at_aload_n C dX11_init_59 rfl) (ah_cons (at_iconst C dX11_init_60 (by decide)) (ah_cons (at_pfi C hnm dX11_init_61 upX11_44) (ah_cons (at_vret C hmc rfl dX11_init_64) ah_nil))))))))))))))))))))))))))))))))
def kX12_init (f lim : Nat) : List (Nat × ah_S) := [
  (0, ah_ald 0 1),
  (1, at_oi 4),
  (4, ah_ald 0 5),
  (5, ah_push (.int (36)) 7),
  (7, at_nwa lim 0 9),
  (9, at_pr [12] 0 12),
  (12, ah_ald 0 13),
  (13, ah_push (.int (14)) 15),
  (15, at_nwa lim 0 17),
  (17, at_pr [12] 8 20),
  (20, ah_ald 0 21),
  (21, ah_push (.int (7)) 23),
  (23, at_nwa lim 0 25),
  (25, at_pr [12] 9 28),
  (28, ah_ald 0 29),
  (29, ah_push (.int (7)) 31),
  (31, at_nwa lim 0 33),
  (33, at_pr [12] 10 36),
  (36, ah_ald 0 37),
  (37, ah_push (.int (7)) 39),
  (39, at_nwa lim 0 41),
  (41, at_pr [12] 11 44),
  (44, ah_ald 0 45),
  (45, ah_push (.int (7)) 47),
  (47, at_nwa lim 0 49),
  (49, at_pr [12] 12 52),
  (52, ah_ald 0 53),
  (53, ah_push (.int (7)) 55),
  (55, at_nwa lim 0 57),
  (57, at_pr [12] 13 60),
  (60, ah_ald 0 61),
  (61, ah_push (.int (7)) 63),
  (63, at_nwa lim 0 65),
  (65, at_pr [12] 14 68),
  (68, ah_ald 0 69),
  (69, ah_push (.int (24)) 71),
  (71, at_nwa lim 0 73),
  (73, at_pr [12] 16 76),
  (76, ah_ald 0 77),
  (77, ah_push (.int (20)) 79),
  (79, at_nwa lim 0 81),
  (81, at_pr [12] 17 84),
  (84, ah_ald 0 85),
  (85, ah_push (.int (7)) 87),
  (87, at_nwa lim 0 89),
  (89, at_pr [12] 25 92),
  (92, ah_ald 0 93),
  (93, ah_push (.int (7)) 95),
  (95, at_nwa lim 0 97),
  (97, at_pr [12] 26 100),
  (100, ah_ald 0 101),
  (101, ah_push (.int (7)) 103),
  (103, at_nwa lim 0 105),
  (105, at_pr [12] 27 108),
  (108, ah_ald 0 109),
  (109, ah_push (.int (24)) 111),
  (111, at_nwa lim 0 113),
  (113, at_pr [12] 28 116),
  (116, ah_ald 0 117),
  (117, ah_push (.int (-1)) 118),
  (118, ah_pfi [12] 19 121),
  (121, ah_vret)]
def aX12_init (f : Nat) : ah_F := fun as h => (ah_fun (kX12_init f (h.length + 14)) 1 f as h).bind fun r => bif Nat.ble r.2.length (h.length + 14) then some r else none
set_option maxRecDepth 100000 in
set_option maxHeartbeats 4000000 in
theorem mX12_init {l : Launch} {s0 : State} {D : va_G} {tc : Nat → ClassId} {A : Nat → Prop} (hA : ∀ q, A q → s0.heap.size ≤ q) (hN : at_N0 s0) (f : Nat) : at_Met l s0 D tc A yX12_init cX12_init 1 none 1 20 14 (fun _ => True) (aX12_init f) :=
  at_met (code := kX12_init f) hA (by decide) (fun p e s m args below meth c res ad0 n0 _ C hA2 hnm hmc =>
  ah_cons (at_aload_n C dX12_init_0 rfl) ((ah_cons (at_objInit C dX12_init_1 wu_97 wu_1 wu_2 ⟨by decide, by decide⟩) (ah_cons (at_aload_n C dX12_init_4 rfl) (ah_cons (at_bipush C dX12_init_5 (by decide)) (ah_cons (at_newai C hA2 ⟨Nat.le_refl _, Nat.le_refl _⟩ rfl dX12_init_7 (ty := .int) rfl wu_19 rfl (fun _ h => h) (fun _ _ => rfl) (by decide)) (ah_cons (at_pfr C hnm dX12_init_9 upX12_7 (fun _ => ⟨rfl, rfl⟩)) (ah_cons (at_aload_n C dX12_init_12 rfl) (ah_cons (at_bipush C dX12_init_13 (by decide)) (ah_cons (at_newai C hA2 ⟨Nat.le_refl _, Nat.le_refl _⟩ rfl dX12_init_15 (ty := .int) rfl wu_19 rfl (fun _ h => h) (fun _ _ => rfl) (by decide)) (ah_cons (at_pfr C hnm dX12_init_17 upX12_13 (fun _ => ⟨rfl, rfl⟩)) (ah_cons (at_aload_n C dX12_init_20 rfl) (ah_cons (at_bipush C dX12_init_21 (by decide)) (ah_cons (at_newai C hA2 ⟨Nat.le_refl _, Nat.le_refl _⟩ rfl dX12_init_23 (ty := .int) rfl wu_19 rfl (fun _ h => h) (fun _ _ => rfl) (by decide)) (ah_cons (at_pfr C hnm dX12_init_25 upX12_16 (fun _ => ⟨rfl, rfl⟩)) (ah_cons (at_aload_n C dX12_init_28 rfl) (ah_cons (at_bipush C dX12_init_29 (by decide)) (ah_cons (at_newai C hA2 ⟨Nat.le_refl _, Nat.le_refl _⟩ rfl dX12_init_31 (ty := .int) rfl wu_19 rfl (fun _ h => h) (fun _ _ => rfl) (by decide)) (ah_cons (at_pfr C hnm dX12_init_33 upX12_19 (fun _ => ⟨rfl, rfl⟩)) (ah_cons (at_aload_n C dX12_init_36 rfl) (ah_cons (at_bipush C dX12_init_37 (by decide)) (ah_cons (at_newai C hA2 ⟨Nat.le_refl _, Nat.le_refl _⟩ rfl dX12_init_39 (ty := .int) rfl wu_19 rfl (fun _ h => h) (fun _ _ => rfl) (by decide)) (ah_cons (at_pfr C hnm dX12_init_41 upX12_22 (fun _ => ⟨rfl, rfl⟩)) (ah_cons (at_aload_n C dX12_init_44 rfl) (ah_cons (at_bipush C dX12_init_45 (by decide)) (ah_cons (at_newai C hA2 ⟨Nat.le_refl _, Nat.le_refl _⟩ rfl dX12_init_47 (ty := .int) rfl wu_19 rfl (fun _ h => h) (fun _ _ => rfl) (by decide)) (ah_cons (at_pfr C hnm dX12_init_49 upX12_25 (fun _ => ⟨rfl, rfl⟩)) (ah_cons (at_aload_n C dX12_init_52 rfl) (ah_cons (at_bipush C dX12_init_53 (by decide)) (ah_cons (at_newai C hA2 ⟨Nat.le_refl _, Nat.le_refl _⟩ rfl dX12_init_55 (ty := .int) rfl wu_19 rfl (fun _ h => h) (fun _ _ => rfl) (by decide)) (ah_cons (at_pfr C hnm dX12_init_57 upX12_28 (fun _ => ⟨rfl, rfl⟩)) (ah_cons (at_aload_n C dX12_init_60 rfl) (ah_cons (at_bipush C dX12_init_61 (by decide)) (ah_cons (at_newai C hA2 ⟨Nat.le_refl _, Nat.le_refl _⟩ rfl dX12_init_63 (ty := .int) rfl wu_19 rfl (fun _ h => h) (fun _ _ => rfl) (by decide)) (ah_cons (at_pfr C hnm dX12_init_65 upX12_31 (fun _ => ⟨rfl, rfl⟩)) (ah_cons (at_aload_n C dX12_init_68 rfl) (ah_cons (at_bipush C dX12_init_69 (by decide)) (ah_cons (at_newai C hA2 ⟨Nat.le_refl _, Nat.le_refl _⟩ rfl dX12_init_71 (ty := .int) rfl wu_19 rfl (fun _ h => h) (fun _ _ => rfl) (by decide)) (ah_cons (at_pfr C hnm dX12_init_73 upX12_34 (fun _ => ⟨rfl, rfl⟩)) (ah_cons (at_aload_n C dX12_init_76 rfl) (ah_cons (at_bipush C dX12_init_77 (by decide)) (ah_cons (at_newai C hA2 ⟨Nat.le_refl _, Nat.le_refl _⟩ rfl dX12_init_79 (ty := .int) rfl wu_19 rfl (fun _ h => h) (fun _ _ => rfl) (by decide)) (ah_cons (at_pfr C hnm dX12_init_81 upX12_37 (fun _ => ⟨rfl, rfl⟩)) (ah_cons (at_aload_n C dX12_init_84 rfl) (ah_cons (at_bipush C dX12_init_85 (by decide)) (ah_cons (at_newai C hA2 ⟨Nat.le_refl _, Nat.le_refl _⟩ rfl dX12_init_87 (ty := .int) rfl wu_19 rfl (fun _ h => h) (fun _ _ => rfl) (by decide)) (ah_cons (at_pfr C hnm dX12_init_89 upX12_40 (fun _ => ⟨rfl, rfl⟩)) (ah_cons (at_aload_n C dX12_init_92 rfl) (ah_cons (at_bipush C dX12_init_93 (by decide)) (ah_cons (at_newai C hA2 ⟨Nat.le_refl _, Nat.le_refl _⟩ rfl dX12_init_95 (ty := .int) rfl wu_19 rfl (fun _ h => h) (fun _ _ => rfl) (by decide)) (ah_cons (at_pfr C hnm dX12_init_97 upX12_43 (fun _ => ⟨rfl, rfl⟩)) (ah_cons (at_aload_n C dX12_init_100 rfl) (ah_cons (at_bipush C dX12_init_101 (by decide)) (ah_cons (at_newai C hA2 ⟨Nat.le_refl _, Nat.le_refl _⟩ rfl dX12_init_103 (ty := .int) rfl wu_19 rfl (fun _ h => h) (fun _ _ => rfl) (by decide)) (ah_cons (at_pfr C hnm dX12_init_105 upX12_46 (fun _ => ⟨rfl, rfl⟩)) (ah_cons (at_aload_n C dX12_init_108 rfl) (ah_cons (at_bipush C dX12_init_109 (by decide)) (ah_cons (at_newai C hA2 ⟨Nat.le_refl _, Nat.le_refl _⟩ rfl dX12_init_111 (ty := .int) rfl wu_19 rfl (fun _ h => h) (fun _ _ => rfl) (by decide)) (ah_cons (at_pfr C hnm dX12_init_113 upX12_49 (fun _ => ⟨rfl, rfl⟩)) (ah_cons (at_aload_n C dX12_init_116 rfl) (ah_cons (at_iconst C dX12_init_117 (by decide)) (ah_cons (at_pfi C hnm dX12_init_118 upX12_52) (ah_cons (at_vret C hmc rfl dX12_init_121) ah_nil)))))))))))))))))))))))))))))))))))))))))))))))))))))))))))))))
