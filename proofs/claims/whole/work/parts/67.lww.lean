/-! the law: its words -/
theorem wl_0 : Cond.methodLink "GloveSaintLaw" 13 yX11_letter ∈ ah_TT := ah_TT_in (tb_2 (List.mem_of_getElem? (i := 51) rfl)) rfl
theorem wl_1 : Cond.instanceMethod yX11_letter ∈ ah_TT := ah_TT_in (tb_2 (List.mem_of_getElem? (i := 52) rfl)) rfl
theorem wl_2 : Cond.selects RX11 yX11_letter yX11_letter ∈ ah_TT := ah_TT_in (tb_2 (List.mem_of_getElem? (i := 53) rfl)) rfl
theorem wl_3 : Cond.initialized RX11 ∈ ah_TT := ah_TT_in (tb_1 (List.mem_of_getElem? (i := 1) rfl)) rfl
theorem wl_4 : Cond.code yX11_letter cX11_letter 2 (some .int) ∈ ah_TT := ah_TT_in (tb_2 (List.mem_of_getElem? (i := 54) rfl)) rfl
theorem wl_5 : Cond.methodLink "GloveSaintLaw" 17 yX12_letter ∈ ah_TT := ah_TT_in (tb_4 (List.mem_of_getElem? (i := 239) rfl)) rfl
theorem wl_6 : Cond.instanceMethod yX12_letter ∈ ah_TT := ah_TT_in (tb_5 (List.mem_of_getElem? (i := 0) rfl)) rfl
theorem wl_7 : Cond.selects RX12 yX12_letter yX12_letter ∈ ah_TT := ah_TT_in (tb_5 (List.mem_of_getElem? (i := 1) rfl)) rfl
theorem wl_8 : Cond.initialized RX12 ∈ ah_TT := ah_TT_in (tb_1 (List.mem_of_getElem? (i := 9) rfl)) rfl
theorem wl_9 : Cond.code yX12_letter cX12_letter 2 (some .int) ∈ ah_TT := ah_TT_in (tb_5 (List.mem_of_getElem? (i := 2) rfl)) rfl
theorem wl_10 : Cond.methodLink "GloveSaintLaw" 18 yX11_blank ∈ ah_TT := ah_TT_in (tb_2 (List.mem_of_getElem? (i := 59) rfl)) rfl
theorem wl_11 : Cond.instanceMethod yX11_blank ∈ ah_TT := ah_TT_in (tb_2 (List.mem_of_getElem? (i := 60) rfl)) rfl
theorem wl_12 : Cond.selects RX11 yX11_blank yX11_blank ∈ ah_TT := ah_TT_in (tb_2 (List.mem_of_getElem? (i := 61) rfl)) rfl
theorem wl_13 : Cond.code yX11_blank cX11_blank 2 (some .int) ∈ ah_TT := ah_TT_in (tb_2 (List.mem_of_getElem? (i := 62) rfl)) rfl
theorem wl_14 : Cond.methodLink "GloveSaintLaw" 22 yX12_blank ∈ ah_TT := ah_TT_in (tb_5 (List.mem_of_getElem? (i := 7) rfl)) rfl
theorem wl_15 : Cond.instanceMethod yX12_blank ∈ ah_TT := ah_TT_in (tb_5 (List.mem_of_getElem? (i := 8) rfl)) rfl
theorem wl_16 : Cond.selects RX12 yX12_blank yX12_blank ∈ ah_TT := ah_TT_in (tb_5 (List.mem_of_getElem? (i := 9) rfl)) rfl
theorem wl_17 : Cond.code yX12_blank cX12_blank 2 (some .int) ∈ ah_TT := ah_TT_in (tb_5 (List.mem_of_getElem? (i := 10) rfl)) rfl
theorem wl_18 : Cond.methodLink "GloveSaintLaw" 23 yX11_fault ∈ ah_TT := ah_TT_in (tb_2 (List.mem_of_getElem? (i := 67) rfl)) rfl
theorem wl_19 : Cond.instanceMethod yX11_fault ∈ ah_TT := ah_TT_in (tb_2 (List.mem_of_getElem? (i := 68) rfl)) rfl
theorem wl_20 : Cond.selects RX11 yX11_fault yX11_fault ∈ ah_TT := ah_TT_in (tb_2 (List.mem_of_getElem? (i := 69) rfl)) rfl
theorem wl_21 : Cond.code yX11_fault cX11_fault 1 (some .int) ∈ ah_TT := ah_TT_in (tb_2 (List.mem_of_getElem? (i := 70) rfl)) rfl
theorem wl_22 : Cond.methodLink "GloveSaintLaw" 26 yX12_fault ∈ ah_TT := ah_TT_in (tb_5 (List.mem_of_getElem? (i := 11) rfl)) rfl
theorem wl_23 : Cond.instanceMethod yX12_fault ∈ ah_TT := ah_TT_in (tb_5 (List.mem_of_getElem? (i := 12) rfl)) rfl
theorem wl_24 : Cond.selects RX12 yX12_fault yX12_fault ∈ ah_TT := ah_TT_in (tb_5 (List.mem_of_getElem? (i := 13) rfl)) rfl
theorem wl_25 : Cond.code yX12_fault cX12_fault 1 (some .int) ∈ ah_TT := ah_TT_in (tb_5 (List.mem_of_getElem? (i := 14) rfl)) rfl
theorem wl_26 : Cond.methodLink "GloveSaintLaw" 27 yX11_drawer ∈ ah_TT := ah_TT_in (tb_2 (List.mem_of_getElem? (i := 166) rfl)) rfl
theorem wl_27 : Cond.instanceMethod yX11_drawer ∈ ah_TT := ah_TT_in (tb_2 (List.mem_of_getElem? (i := 167) rfl)) rfl
theorem wl_28 : Cond.selects RX11 yX11_drawer yX11_drawer ∈ ah_TT := ah_TT_in (tb_2 (List.mem_of_getElem? (i := 168) rfl)) rfl
theorem wl_29 : Cond.code yX11_drawer cX11_drawer 1 (some .int) ∈ ah_TT := ah_TT_in (tb_2 (List.mem_of_getElem? (i := 169) rfl)) rfl
theorem wl_30 : Cond.methodLink "GloveSaintLaw" 30 yX12_drawer ∈ ah_TT := ah_TT_in (tb_5 (List.mem_of_getElem? (i := 29) rfl)) rfl
theorem wl_31 : Cond.instanceMethod yX12_drawer ∈ ah_TT := ah_TT_in (tb_5 (List.mem_of_getElem? (i := 30) rfl)) rfl
theorem wl_32 : Cond.selects RX12 yX12_drawer yX12_drawer ∈ ah_TT := ah_TT_in (tb_5 (List.mem_of_getElem? (i := 31) rfl)) rfl
theorem wl_33 : Cond.code yX12_drawer cX12_drawer 2 (some .int) ∈ ah_TT := ah_TT_in (tb_5 (List.mem_of_getElem? (i := 32) rfl)) rfl
theorem wl_34 : Cond.methodLink "GloveSaintLaw" 31 yX11_single ∈ ah_TT := ah_TT_in (tb_2 (List.mem_of_getElem? (i := 238) rfl)) rfl
theorem wl_35 : Cond.instanceMethod yX11_single ∈ ah_TT := ah_TT_in (tb_2 (List.mem_of_getElem? (i := 239) rfl)) rfl
theorem wl_36 : Cond.selects RX11 yX11_single yX11_single ∈ ah_TT := ah_TT_in (tb_3 (List.mem_of_getElem? (i := 0) rfl)) rfl
theorem wl_37 : Cond.code yX11_single cX11_single 4 (some .int) ∈ ah_TT := ah_TT_in (tb_3 (List.mem_of_getElem? (i := 1) rfl)) rfl
theorem wl_38 : Cond.methodLink "GloveSaintLaw" 35 yX12_single ∈ ah_TT := ah_TT_in (tb_5 (List.mem_of_getElem? (i := 33) rfl)) rfl
theorem wl_39 : Cond.instanceMethod yX12_single ∈ ah_TT := ah_TT_in (tb_5 (List.mem_of_getElem? (i := 34) rfl)) rfl
theorem wl_40 : Cond.selects RX12 yX12_single yX12_single ∈ ah_TT := ah_TT_in (tb_5 (List.mem_of_getElem? (i := 35) rfl)) rfl
theorem wl_41 : Cond.code yX12_single cX12_single 3 (some .int) ∈ ah_TT := ah_TT_in (tb_5 (List.mem_of_getElem? (i := 36) rfl)) rfl
theorem wl_42 : Cond.methodLink "GloveSaintLaw" 36 yX11_as ∈ ah_TT := ah_TT_in (tb_3 (List.mem_of_getElem? (i := 110) rfl)) rfl
theorem wl_43 : Cond.instanceMethod yX11_as ∈ ah_TT := ah_TT_in (tb_3 (List.mem_of_getElem? (i := 111) rfl)) rfl
theorem wl_44 : Cond.selects RX11 yX11_as yX11_as ∈ ah_TT := ah_TT_in (tb_3 (List.mem_of_getElem? (i := 112) rfl)) rfl
theorem wl_45 : Cond.code yX11_as cX11_as 3 (some .int) ∈ ah_TT := ah_TT_in (tb_3 (List.mem_of_getElem? (i := 113) rfl)) rfl
theorem wl_46 : Cond.methodLink "GloveSaintLaw" 39 yX12_as ∈ ah_TT := ah_TT_in (tb_5 (List.mem_of_getElem? (i := 100) rfl)) rfl
theorem wl_47 : Cond.instanceMethod yX12_as ∈ ah_TT := ah_TT_in (tb_5 (List.mem_of_getElem? (i := 101) rfl)) rfl
theorem wl_48 : Cond.selects RX12 yX12_as yX12_as ∈ ah_TT := ah_TT_in (tb_5 (List.mem_of_getElem? (i := 102) rfl)) rfl
theorem wl_49 : Cond.code yX12_as cX12_as 4 (some .int) ∈ ah_TT := ah_TT_in (tb_5 (List.mem_of_getElem? (i := 103) rfl)) rfl
theorem wl_50 : Cond.methodLink "GloveSaintLaw" 40 yX11_likeness ∈ ah_TT := ah_TT_in (tb_3 (List.mem_of_getElem? (i := 121) rfl)) rfl
theorem wl_51 : Cond.instanceMethod yX11_likeness ∈ ah_TT := ah_TT_in (tb_3 (List.mem_of_getElem? (i := 122) rfl)) rfl
theorem wl_52 : Cond.selects RX11 yX11_likeness yX11_likeness ∈ ah_TT := ah_TT_in (tb_3 (List.mem_of_getElem? (i := 123) rfl)) rfl
theorem wl_53 : Cond.code yX11_likeness cX11_likeness 3 (some .int) ∈ ah_TT := ah_TT_in (tb_3 (List.mem_of_getElem? (i := 124) rfl)) rfl
theorem wl_54 : Cond.methodLink "GloveSaintLaw" 43 yX12_likeness ∈ ah_TT := ah_TT_in (tb_5 (List.mem_of_getElem? (i := 105) rfl)) rfl
theorem wl_55 : Cond.instanceMethod yX12_likeness ∈ ah_TT := ah_TT_in (tb_5 (List.mem_of_getElem? (i := 106) rfl)) rfl
theorem wl_56 : Cond.selects RX12 yX12_likeness yX12_likeness ∈ ah_TT := ah_TT_in (tb_5 (List.mem_of_getElem? (i := 107) rfl)) rfl
theorem wl_57 : Cond.code yX12_likeness cX12_likeness 3 (some .int) ∈ ah_TT := ah_TT_in (tb_5 (List.mem_of_getElem? (i := 108) rfl)) rfl
theorem wl_58 : Cond.methodLink "GloveSaintLaw" 44 yX11_apart ∈ ah_TT := ah_TT_in (tb_3 (List.mem_of_getElem? (i := 130) rfl)) rfl
theorem wl_59 : Cond.instanceMethod yX11_apart ∈ ah_TT := ah_TT_in (tb_3 (List.mem_of_getElem? (i := 131) rfl)) rfl
theorem wl_60 : Cond.selects RX11 yX11_apart yX11_apart ∈ ah_TT := ah_TT_in (tb_3 (List.mem_of_getElem? (i := 132) rfl)) rfl
theorem wl_61 : Cond.code yX11_apart cX11_apart 3 (some .int) ∈ ah_TT := ah_TT_in (tb_3 (List.mem_of_getElem? (i := 133) rfl)) rfl
theorem wl_62 : Cond.methodLink "GloveSaintLaw" 47 yX12_apart ∈ ah_TT := ah_TT_in (tb_5 (List.mem_of_getElem? (i := 113) rfl)) rfl
theorem wl_63 : Cond.instanceMethod yX12_apart ∈ ah_TT := ah_TT_in (tb_5 (List.mem_of_getElem? (i := 114) rfl)) rfl
theorem wl_64 : Cond.selects RX12 yX12_apart yX12_apart ∈ ah_TT := ah_TT_in (tb_5 (List.mem_of_getElem? (i := 115) rfl)) rfl
theorem wl_65 : Cond.code yX12_apart cX12_apart 3 (some .int) ∈ ah_TT := ah_TT_in (tb_5 (List.mem_of_getElem? (i := 116) rfl)) rfl
theorem wl_66 : Cond.methodLink "GloveSaintLaw" 48 yX11_carry ∈ ah_TT := ah_TT_in (tb_3 (List.mem_of_getElem? (i := 135) rfl)) rfl
theorem wl_67 : Cond.instanceMethod yX11_carry ∈ ah_TT := ah_TT_in (tb_3 (List.mem_of_getElem? (i := 136) rfl)) rfl
theorem wl_68 : Cond.selects RX11 yX11_carry yX11_carry ∈ ah_TT := ah_TT_in (tb_3 (List.mem_of_getElem? (i := 137) rfl)) rfl
theorem wl_69 : Cond.code yX11_carry cX11_carry 3 (some .int) ∈ ah_TT := ah_TT_in (tb_3 (List.mem_of_getElem? (i := 138) rfl)) rfl
theorem wl_70 : Cond.methodLink "GloveSaintLaw" 51 yX12_carry ∈ ah_TT := ah_TT_in (tb_5 (List.mem_of_getElem? (i := 117) rfl)) rfl
theorem wl_71 : Cond.instanceMethod yX12_carry ∈ ah_TT := ah_TT_in (tb_5 (List.mem_of_getElem? (i := 118) rfl)) rfl
theorem wl_72 : Cond.selects RX12 yX12_carry yX12_carry ∈ ah_TT := ah_TT_in (tb_5 (List.mem_of_getElem? (i := 119) rfl)) rfl
theorem wl_73 : Cond.code yX12_carry cX12_carry 4 (some .int) ∈ ah_TT := ah_TT_in (tb_5 (List.mem_of_getElem? (i := 120) rfl)) rfl
theorem wl_74 : Cond.methodLink "GloveSaintLaw" 52 yX11_bring ∈ ah_TT := ah_TT_in (tb_3 (List.mem_of_getElem? (i := 147) rfl)) rfl
theorem wl_75 : Cond.instanceMethod yX11_bring ∈ ah_TT := ah_TT_in (tb_3 (List.mem_of_getElem? (i := 148) rfl)) rfl
theorem wl_76 : Cond.selects RX11 yX11_bring yX11_bring ∈ ah_TT := ah_TT_in (tb_3 (List.mem_of_getElem? (i := 149) rfl)) rfl
theorem wl_77 : Cond.code yX11_bring cX11_bring 3 (some .int) ∈ ah_TT := ah_TT_in (tb_3 (List.mem_of_getElem? (i := 150) rfl)) rfl
theorem wl_78 : Cond.methodLink "GloveSaintLaw" 55 yX12_bring ∈ ah_TT := ah_TT_in (tb_5 (List.mem_of_getElem? (i := 122) rfl)) rfl
theorem wl_79 : Cond.instanceMethod yX12_bring ∈ ah_TT := ah_TT_in (tb_5 (List.mem_of_getElem? (i := 123) rfl)) rfl
theorem wl_80 : Cond.selects RX12 yX12_bring yX12_bring ∈ ah_TT := ah_TT_in (tb_5 (List.mem_of_getElem? (i := 124) rfl)) rfl
theorem wl_81 : Cond.code yX12_bring cX12_bring 3 (some .int) ∈ ah_TT := ah_TT_in (tb_5 (List.mem_of_getElem? (i := 125) rfl)) rfl
theorem wl_82 : Cond.methodLink "GloveSaintLaw" 56 yX11_part ∈ ah_TT := ah_TT_in (tb_3 (List.mem_of_getElem? (i := 159) rfl)) rfl
theorem wl_83 : Cond.instanceMethod yX11_part ∈ ah_TT := ah_TT_in (tb_3 (List.mem_of_getElem? (i := 160) rfl)) rfl
theorem wl_84 : Cond.selects RX11 yX11_part yX11_part ∈ ah_TT := ah_TT_in (tb_3 (List.mem_of_getElem? (i := 161) rfl)) rfl
theorem wl_85 : Cond.code yX11_part cX11_part 3 (some .int) ∈ ah_TT := ah_TT_in (tb_3 (List.mem_of_getElem? (i := 162) rfl)) rfl
theorem wl_86 : Cond.methodLink "GloveSaintLaw" 59 yX12_part ∈ ah_TT := ah_TT_in (tb_5 (List.mem_of_getElem? (i := 126) rfl)) rfl
theorem wl_87 : Cond.instanceMethod yX12_part ∈ ah_TT := ah_TT_in (tb_5 (List.mem_of_getElem? (i := 127) rfl)) rfl
theorem wl_88 : Cond.selects RX12 yX12_part yX12_part ∈ ah_TT := ah_TT_in (tb_5 (List.mem_of_getElem? (i := 128) rfl)) rfl
theorem wl_89 : Cond.code yX12_part cX12_part 3 (some .int) ∈ ah_TT := ah_TT_in (tb_5 (List.mem_of_getElem? (i := 129) rfl)) rfl
theorem wl_90 : Cond.methodLink "GloveSaintLaw" 60 yX11_shrink ∈ ah_TT := ah_TT_in (tb_3 (List.mem_of_getElem? (i := 167) rfl)) rfl
theorem wl_91 : Cond.instanceMethod yX11_shrink ∈ ah_TT := ah_TT_in (tb_3 (List.mem_of_getElem? (i := 168) rfl)) rfl
theorem wl_92 : Cond.selects RX11 yX11_shrink yX11_shrink ∈ ah_TT := ah_TT_in (tb_3 (List.mem_of_getElem? (i := 169) rfl)) rfl
theorem wl_93 : Cond.code yX11_shrink cX11_shrink 4 (some .int) ∈ ah_TT := ah_TT_in (tb_3 (List.mem_of_getElem? (i := 170) rfl)) rfl
theorem wl_94 : Cond.methodLink "GloveSaintLaw" 63 yX12_shrink ∈ ah_TT := ah_TT_in (tb_5 (List.mem_of_getElem? (i := 130) rfl)) rfl
theorem wl_95 : Cond.instanceMethod yX12_shrink ∈ ah_TT := ah_TT_in (tb_5 (List.mem_of_getElem? (i := 131) rfl)) rfl
theorem wl_96 : Cond.selects RX12 yX12_shrink yX12_shrink ∈ ah_TT := ah_TT_in (tb_5 (List.mem_of_getElem? (i := 132) rfl)) rfl
theorem wl_97 : Cond.code yX12_shrink cX12_shrink 4 (some .int) ∈ ah_TT := ah_TT_in (tb_5 (List.mem_of_getElem? (i := 133) rfl)) rfl
theorem wl_98 : Cond.methodLink "GloveSaintLaw" 64 yX11_may ∈ ah_TT := ah_TT_in (tb_3 (List.mem_of_getElem? (i := 171) rfl)) rfl
theorem wl_99 : Cond.instanceMethod yX11_may ∈ ah_TT := ah_TT_in (tb_3 (List.mem_of_getElem? (i := 172) rfl)) rfl
theorem wl_100 : Cond.selects RX11 yX11_may yX11_may ∈ ah_TT := ah_TT_in (tb_3 (List.mem_of_getElem? (i := 173) rfl)) rfl
theorem wl_101 : Cond.code yX11_may cX11_may 1 (some .int) ∈ ah_TT := ah_TT_in (tb_3 (List.mem_of_getElem? (i := 174) rfl)) rfl
theorem wl_102 : Cond.methodLink "GloveSaintLaw" 67 yX12_may ∈ ah_TT := ah_TT_in (tb_5 (List.mem_of_getElem? (i := 135) rfl)) rfl
theorem wl_103 : Cond.instanceMethod yX12_may ∈ ah_TT := ah_TT_in (tb_5 (List.mem_of_getElem? (i := 136) rfl)) rfl
theorem wl_104 : Cond.selects RX12 yX12_may yX12_may ∈ ah_TT := ah_TT_in (tb_5 (List.mem_of_getElem? (i := 137) rfl)) rfl
theorem wl_105 : Cond.code yX12_may cX12_may 3 (some .int) ∈ ah_TT := ah_TT_in (tb_5 (List.mem_of_getElem? (i := 138) rfl)) rfl
theorem wl_106 : Cond.methodLink "GloveSaintLaw" 68 yX11_most ∈ ah_TT := ah_TT_in (tb_3 (List.mem_of_getElem? (i := 192) rfl)) rfl
theorem wl_107 : Cond.instanceMethod yX11_most ∈ ah_TT := ah_TT_in (tb_3 (List.mem_of_getElem? (i := 193) rfl)) rfl
theorem wl_108 : Cond.selects RX11 yX11_most yX11_most ∈ ah_TT := ah_TT_in (tb_3 (List.mem_of_getElem? (i := 194) rfl)) rfl
theorem wl_109 : Cond.code yX11_most cX11_most 2 (some .int) ∈ ah_TT := ah_TT_in (tb_3 (List.mem_of_getElem? (i := 195) rfl)) rfl
theorem wl_110 : Cond.methodLink "GloveSaintLaw" 71 yX12_most ∈ ah_TT := ah_TT_in (tb_5 (List.mem_of_getElem? (i := 150) rfl)) rfl
theorem wl_111 : Cond.instanceMethod yX12_most ∈ ah_TT := ah_TT_in (tb_5 (List.mem_of_getElem? (i := 151) rfl)) rfl
theorem wl_112 : Cond.selects RX12 yX12_most yX12_most ∈ ah_TT := ah_TT_in (tb_5 (List.mem_of_getElem? (i := 152) rfl)) rfl
theorem wl_113 : Cond.code yX12_most cX12_most 2 (some .int) ∈ ah_TT := ah_TT_in (tb_5 (List.mem_of_getElem? (i := 153) rfl)) rfl
theorem wl_114 : Cond.methodLink "GloveSaintLaw" 72 yX11_best ∈ ah_TT := ah_TT_in (tb_4 (List.mem_of_getElem? (i := 2) rfl)) rfl
theorem wl_115 : Cond.instanceMethod yX11_best ∈ ah_TT := ah_TT_in (tb_4 (List.mem_of_getElem? (i := 3) rfl)) rfl
theorem wl_116 : Cond.selects RX11 yX11_best yX11_best ∈ ah_TT := ah_TT_in (tb_4 (List.mem_of_getElem? (i := 4) rfl)) rfl
theorem wl_117 : Cond.code yX11_best cX11_best 3 (some .int) ∈ ah_TT := ah_TT_in (tb_4 (List.mem_of_getElem? (i := 5) rfl)) rfl
theorem wl_118 : Cond.methodLink "GloveSaintLaw" 75 yX12_best ∈ ah_TT := ah_TT_in (tb_5 (List.mem_of_getElem? (i := 175) rfl)) rfl
theorem wl_119 : Cond.instanceMethod yX12_best ∈ ah_TT := ah_TT_in (tb_5 (List.mem_of_getElem? (i := 176) rfl)) rfl
theorem wl_120 : Cond.selects RX12 yX12_best yX12_best ∈ ah_TT := ah_TT_in (tb_5 (List.mem_of_getElem? (i := 177) rfl)) rfl
theorem wl_121 : Cond.code yX12_best cX12_best 3 (some .int) ∈ ah_TT := ah_TT_in (tb_5 (List.mem_of_getElem? (i := 178) rfl)) rfl
theorem wl_122 : Cond.methodLink "GloveSaintLaw" 76 yX11_stable ∈ ah_TT := ah_TT_in (tb_4 (List.mem_of_getElem? (i := 10) rfl)) rfl
theorem wl_123 : Cond.instanceMethod yX11_stable ∈ ah_TT := ah_TT_in (tb_4 (List.mem_of_getElem? (i := 11) rfl)) rfl
theorem wl_124 : Cond.selects RX11 yX11_stable yX11_stable ∈ ah_TT := ah_TT_in (tb_4 (List.mem_of_getElem? (i := 12) rfl)) rfl
theorem wl_125 : Cond.code yX11_stable cX11_stable 2 (some .int) ∈ ah_TT := ah_TT_in (tb_4 (List.mem_of_getElem? (i := 13) rfl)) rfl
theorem wl_126 : Cond.methodLink "GloveSaintLaw" 79 yX12_stable ∈ ah_TT := ah_TT_in (tb_5 (List.mem_of_getElem? (i := 188) rfl)) rfl
theorem wl_127 : Cond.instanceMethod yX12_stable ∈ ah_TT := ah_TT_in (tb_5 (List.mem_of_getElem? (i := 189) rfl)) rfl
theorem wl_128 : Cond.selects RX12 yX12_stable yX12_stable ∈ ah_TT := ah_TT_in (tb_5 (List.mem_of_getElem? (i := 190) rfl)) rfl
theorem wl_129 : Cond.code yX12_stable cX12_stable 2 (some .int) ∈ ah_TT := ah_TT_in (tb_5 (List.mem_of_getElem? (i := 191) rfl)) rfl
theorem wl_130 : Cond.methodLink "GloveSaintLaw" 80 yX11_happy ∈ ah_TT := ah_TT_in (tb_4 (List.mem_of_getElem? (i := 18) rfl)) rfl
theorem wl_131 : Cond.instanceMethod yX11_happy ∈ ah_TT := ah_TT_in (tb_4 (List.mem_of_getElem? (i := 19) rfl)) rfl
theorem wl_132 : Cond.selects RX11 yX11_happy yX11_happy ∈ ah_TT := ah_TT_in (tb_4 (List.mem_of_getElem? (i := 20) rfl)) rfl
theorem wl_133 : Cond.code yX11_happy cX11_happy 3 (some .int) ∈ ah_TT := ah_TT_in (tb_4 (List.mem_of_getElem? (i := 21) rfl)) rfl
theorem wl_134 : Cond.methodLink "GloveSaintLaw" 83 yX12_happy ∈ ah_TT := ah_TT_in (tb_5 (List.mem_of_getElem? (i := 200) rfl)) rfl
theorem wl_135 : Cond.instanceMethod yX12_happy ∈ ah_TT := ah_TT_in (tb_5 (List.mem_of_getElem? (i := 201) rfl)) rfl
theorem wl_136 : Cond.selects RX12 yX12_happy yX12_happy ∈ ah_TT := ah_TT_in (tb_5 (List.mem_of_getElem? (i := 202) rfl)) rfl
theorem wl_137 : Cond.code yX12_happy cX12_happy 3 (some .int) ∈ ah_TT := ah_TT_in (tb_5 (List.mem_of_getElem? (i := 203) rfl)) rfl
theorem wl_138 : Cond.methodLink "GloveSaintLaw" 84 yX11_round ∈ ah_TT := ah_TT_in (tb_4 (List.mem_of_getElem? (i := 22) rfl)) rfl
theorem wl_139 : Cond.instanceMethod yX11_round ∈ ah_TT := ah_TT_in (tb_4 (List.mem_of_getElem? (i := 23) rfl)) rfl
theorem wl_140 : Cond.selects RX11 yX11_round yX11_round ∈ ah_TT := ah_TT_in (tb_4 (List.mem_of_getElem? (i := 24) rfl)) rfl
theorem wl_141 : Cond.code yX11_round cX11_round 2 (some .int) ∈ ah_TT := ah_TT_in (tb_4 (List.mem_of_getElem? (i := 25) rfl)) rfl
theorem wl_142 : Cond.methodLink "GloveSaintLaw" 87 yX12_round ∈ ah_TT := ah_TT_in (tb_5 (List.mem_of_getElem? (i := 204) rfl)) rfl
theorem wl_143 : Cond.instanceMethod yX12_round ∈ ah_TT := ah_TT_in (tb_5 (List.mem_of_getElem? (i := 205) rfl)) rfl
theorem wl_144 : Cond.selects RX12 yX12_round yX12_round ∈ ah_TT := ah_TT_in (tb_5 (List.mem_of_getElem? (i := 206) rfl)) rfl
theorem wl_145 : Cond.code yX12_round cX12_round 2 (some .int) ∈ ah_TT := ah_TT_in (tb_5 (List.mem_of_getElem? (i := 207) rfl)) rfl
theorem wl_146 : Cond.methodLink "GloveSaintLaw" 88 yX11_odds ∈ ah_TT := ah_TT_in (tb_4 (List.mem_of_getElem? (i := 31) rfl)) rfl
theorem wl_147 : Cond.instanceMethod yX11_odds ∈ ah_TT := ah_TT_in (tb_4 (List.mem_of_getElem? (i := 32) rfl)) rfl
theorem wl_148 : Cond.selects RX11 yX11_odds yX11_odds ∈ ah_TT := ah_TT_in (tb_4 (List.mem_of_getElem? (i := 33) rfl)) rfl
theorem wl_149 : Cond.code yX11_odds cX11_odds 5 (some .int) ∈ ah_TT := ah_TT_in (tb_4 (List.mem_of_getElem? (i := 34) rfl)) rfl
theorem wl_150 : Cond.methodLink "GloveSaintLaw" 91 yX12_odds ∈ ah_TT := ah_TT_in (tb_5 (List.mem_of_getElem? (i := 212) rfl)) rfl
theorem wl_151 : Cond.instanceMethod yX12_odds ∈ ah_TT := ah_TT_in (tb_5 (List.mem_of_getElem? (i := 213) rfl)) rfl
theorem wl_152 : Cond.selects RX12 yX12_odds yX12_odds ∈ ah_TT := ah_TT_in (tb_5 (List.mem_of_getElem? (i := 214) rfl)) rfl
theorem wl_153 : Cond.code yX12_odds cX12_odds 2 (some .int) ∈ ah_TT := ah_TT_in (tb_5 (List.mem_of_getElem? (i := 215) rfl)) rfl
theorem wl_154 : Cond.methodLink "GloveSaintLaw" 92 yX11_see ∈ ah_TT := ah_TT_in (tb_4 (List.mem_of_getElem? (i := 50) rfl)) rfl
theorem wl_155 : Cond.instanceMethod yX11_see ∈ ah_TT := ah_TT_in (tb_4 (List.mem_of_getElem? (i := 51) rfl)) rfl
theorem wl_156 : Cond.selects RX11 yX11_see yX11_see ∈ ah_TT := ah_TT_in (tb_4 (List.mem_of_getElem? (i := 52) rfl)) rfl
theorem wl_157 : Cond.code yX11_see cX11_see 4 (some .int) ∈ ah_TT := ah_TT_in (tb_4 (List.mem_of_getElem? (i := 53) rfl)) rfl
theorem wl_158 : Cond.methodLink "GloveSaintLaw" 96 yX12_see ∈ ah_TT := ah_TT_in (tb_5 (List.mem_of_getElem? (i := 223) rfl)) rfl
theorem wl_159 : Cond.instanceMethod yX12_see ∈ ah_TT := ah_TT_in (tb_5 (List.mem_of_getElem? (i := 224) rfl)) rfl
theorem wl_160 : Cond.selects RX12 yX12_see yX12_see ∈ ah_TT := ah_TT_in (tb_5 (List.mem_of_getElem? (i := 225) rfl)) rfl
theorem wl_161 : Cond.code yX12_see cX12_see 4 (some .int) ∈ ah_TT := ah_TT_in (tb_5 (List.mem_of_getElem? (i := 226) rfl)) rfl
theorem wl_162 : Cond.methodLink "GloveSaintLaw" 97 yX11_forget ∈ ah_TT := ah_TT_in (tb_4 (List.mem_of_getElem? (i := 58) rfl)) rfl
theorem wl_163 : Cond.instanceMethod yX11_forget ∈ ah_TT := ah_TT_in (tb_4 (List.mem_of_getElem? (i := 59) rfl)) rfl
theorem wl_164 : Cond.selects RX11 yX11_forget yX11_forget ∈ ah_TT := ah_TT_in (tb_4 (List.mem_of_getElem? (i := 60) rfl)) rfl
theorem wl_165 : Cond.code yX11_forget cX11_forget 2 (some .int) ∈ ah_TT := ah_TT_in (tb_4 (List.mem_of_getElem? (i := 61) rfl)) rfl
theorem wl_166 : Cond.methodLink "GloveSaintLaw" 100 yX12_forget ∈ ah_TT := ah_TT_in (tb_5 (List.mem_of_getElem? (i := 229) rfl)) rfl
theorem wl_167 : Cond.instanceMethod yX12_forget ∈ ah_TT := ah_TT_in (tb_5 (List.mem_of_getElem? (i := 230) rfl)) rfl
theorem wl_168 : Cond.selects RX12 yX12_forget yX12_forget ∈ ah_TT := ah_TT_in (tb_5 (List.mem_of_getElem? (i := 231) rfl)) rfl
theorem wl_169 : Cond.code yX12_forget cX12_forget 2 (some .int) ∈ ah_TT := ah_TT_in (tb_5 (List.mem_of_getElem? (i := 232) rfl)) rfl
theorem wl_170 : Cond.methodLink "GloveSaintLaw" 101 yX11_winters ∈ ah_TT := ah_TT_in (tb_4 (List.mem_of_getElem? (i := 63) rfl)) rfl
theorem wl_171 : Cond.instanceMethod yX11_winters ∈ ah_TT := ah_TT_in (tb_4 (List.mem_of_getElem? (i := 64) rfl)) rfl
theorem wl_172 : Cond.selects RX11 yX11_winters yX11_winters ∈ ah_TT := ah_TT_in (tb_4 (List.mem_of_getElem? (i := 65) rfl)) rfl
theorem wl_173 : Cond.code yX11_winters cX11_winters 4 (some .int) ∈ ah_TT := ah_TT_in (tb_4 (List.mem_of_getElem? (i := 66) rfl)) rfl
theorem wl_174 : Cond.methodLink "GloveSaintLaw" 104 yX12_winters ∈ ah_TT := ah_TT_in (tb_5 (List.mem_of_getElem? (i := 233) rfl)) rfl
theorem wl_175 : Cond.instanceMethod yX12_winters ∈ ah_TT := ah_TT_in (tb_5 (List.mem_of_getElem? (i := 234) rfl)) rfl
theorem wl_176 : Cond.selects RX12 yX12_winters yX12_winters ∈ ah_TT := ah_TT_in (tb_5 (List.mem_of_getElem? (i := 235) rfl)) rfl
theorem wl_177 : Cond.code yX12_winters cX12_winters 9 (some .int) ∈ ah_TT := ah_TT_in (tb_5 (List.mem_of_getElem? (i := 236) rfl)) rfl
theorem wl_178 : Cond.methodLink "GloveSaintLaw" 105 yX11_image ∈ ah_TT := ah_TT_in (tb_4 (List.mem_of_getElem? (i := 86) rfl)) rfl
theorem wl_179 : Cond.instanceMethod yX11_image ∈ ah_TT := ah_TT_in (tb_4 (List.mem_of_getElem? (i := 87) rfl)) rfl
theorem wl_180 : Cond.selects RX11 yX11_image yX11_image ∈ ah_TT := ah_TT_in (tb_4 (List.mem_of_getElem? (i := 88) rfl)) rfl
theorem wl_181 : Cond.code yX11_image cX11_image 1 (some .int) ∈ ah_TT := ah_TT_in (tb_4 (List.mem_of_getElem? (i := 89) rfl)) rfl
theorem wl_182 : Cond.methodLink "GloveSaintLaw" 108 yX12_image ∈ ah_TT := ah_TT_in (tb_6 (List.mem_of_getElem? (i := 7) rfl)) rfl
theorem wl_183 : Cond.instanceMethod yX12_image ∈ ah_TT := ah_TT_in (tb_6 (List.mem_of_getElem? (i := 8) rfl)) rfl
theorem wl_184 : Cond.selects RX12 yX12_image yX12_image ∈ ah_TT := ah_TT_in (tb_6 (List.mem_of_getElem? (i := 9) rfl)) rfl
theorem wl_185 : Cond.code yX12_image cX12_image 1 (some .int) ∈ ah_TT := ah_TT_in (tb_6 (List.mem_of_getElem? (i := 10) rfl)) rfl
theorem wl_186 : Cond.methodLink "GloveSaintLaw" 109 yX11_restore ∈ ah_TT := ah_TT_in (tb_4 (List.mem_of_getElem? (i := 98) rfl)) rfl
theorem wl_187 : Cond.instanceMethod yX11_restore ∈ ah_TT := ah_TT_in (tb_4 (List.mem_of_getElem? (i := 99) rfl)) rfl
theorem wl_188 : Cond.selects RX11 yX11_restore yX11_restore ∈ ah_TT := ah_TT_in (tb_4 (List.mem_of_getElem? (i := 100) rfl)) rfl
theorem wl_189 : Cond.code yX11_restore cX11_restore 1 (some .int) ∈ ah_TT := ah_TT_in (tb_4 (List.mem_of_getElem? (i := 101) rfl)) rfl
theorem wl_190 : Cond.methodLink "GloveSaintLaw" 112 yX12_restore ∈ ah_TT := ah_TT_in (tb_6 (List.mem_of_getElem? (i := 11) rfl)) rfl
theorem wl_191 : Cond.instanceMethod yX12_restore ∈ ah_TT := ah_TT_in (tb_6 (List.mem_of_getElem? (i := 12) rfl)) rfl
theorem wl_192 : Cond.selects RX12 yX12_restore yX12_restore ∈ ah_TT := ah_TT_in (tb_6 (List.mem_of_getElem? (i := 13) rfl)) rfl
theorem wl_193 : Cond.code yX12_restore cX12_restore 1 (some .int) ∈ ah_TT := ah_TT_in (tb_6 (List.mem_of_getElem? (i := 14) rfl)) rfl
theorem wl_194 : Cond.methodLink "GloveSaintLaw" 113 yX11_count ∈ ah_TT := ah_TT_in (tb_4 (List.mem_of_getElem? (i := 106) rfl)) rfl
theorem wl_195 : Cond.instanceMethod yX11_count ∈ ah_TT := ah_TT_in (tb_4 (List.mem_of_getElem? (i := 107) rfl)) rfl
theorem wl_196 : Cond.selects RX11 yX11_count yX11_count ∈ ah_TT := ah_TT_in (tb_4 (List.mem_of_getElem? (i := 108) rfl)) rfl
theorem wl_197 : Cond.code yX11_count cX11_count 2 (some .int) ∈ ah_TT := ah_TT_in (tb_4 (List.mem_of_getElem? (i := 109) rfl)) rfl
theorem wl_198 : Cond.methodLink "GloveSaintLaw" 116 yX12_count ∈ ah_TT := ah_TT_in (tb_6 (List.mem_of_getElem? (i := 15) rfl)) rfl
theorem wl_199 : Cond.instanceMethod yX12_count ∈ ah_TT := ah_TT_in (tb_6 (List.mem_of_getElem? (i := 16) rfl)) rfl
theorem wl_200 : Cond.selects RX12 yX12_count yX12_count ∈ ah_TT := ah_TT_in (tb_6 (List.mem_of_getElem? (i := 17) rfl)) rfl
theorem wl_201 : Cond.code yX12_count cX12_count 2 (some .int) ∈ ah_TT := ah_TT_in (tb_6 (List.mem_of_getElem? (i := 18) rfl)) rfl
theorem wl_202 : Cond.methodLink "GloveSaintLaw" 117 yX11_digest ∈ ah_TT := ah_TT_in (tb_4 (List.mem_of_getElem? (i := 126) rfl)) rfl
theorem wl_203 : Cond.instanceMethod yX11_digest ∈ ah_TT := ah_TT_in (tb_4 (List.mem_of_getElem? (i := 127) rfl)) rfl
theorem wl_204 : Cond.selects RX11 yX11_digest yX11_digest ∈ ah_TT := ah_TT_in (tb_4 (List.mem_of_getElem? (i := 128) rfl)) rfl
theorem wl_205 : Cond.code yX11_digest cX11_digest 5 (some .long) ∈ ah_TT := ah_TT_in (tb_4 (List.mem_of_getElem? (i := 129) rfl)) rfl
theorem wl_206 : Cond.methodLink "GloveSaintLaw" 121 yX12_digest ∈ ah_TT := ah_TT_in (tb_6 (List.mem_of_getElem? (i := 38) rfl)) rfl
theorem wl_207 : Cond.instanceMethod yX12_digest ∈ ah_TT := ah_TT_in (tb_6 (List.mem_of_getElem? (i := 39) rfl)) rfl
theorem wl_208 : Cond.selects RX12 yX12_digest yX12_digest ∈ ah_TT := ah_TT_in (tb_6 (List.mem_of_getElem? (i := 40) rfl)) rfl
theorem wl_209 : Cond.code yX12_digest cX12_digest 3 (some .long) ∈ ah_TT := ah_TT_in (tb_6 (List.mem_of_getElem? (i := 41) rfl)) rfl
theorem wl_210 : Cond.instantiable RX0 8 ∈ ah_TT := ah_TT_in (tb_1 (List.mem_of_getElem? (i := 48) rfl)) rfl
theorem wl_211 : Cond.instantiable RX1 4 ∈ ah_TT := ah_TT_in (tb_2 (List.mem_of_getElem? (i := 189) rfl)) rfl
theorem wl_212 : Cond.instantiable RX2 9 ∈ ah_TT := ah_TT_in (tb_1 (List.mem_of_getElem? (i := 164) rfl)) rfl
theorem wl_213 : Cond.instantiable RX3 4 ∈ ah_TT := ah_TT_in (tb_2 (List.mem_of_getElem? (i := 222) rfl)) rfl
theorem wl_214 : Cond.instantiable RX4 2 ∈ ah_TT := ah_TT_in (tb_1 (List.mem_of_getElem? (i := 32) rfl)) rfl
theorem wl_215 : Cond.instantiable RX5 4 ∈ ah_TT := ah_TT_in (tb_2 (List.mem_of_getElem? (i := 211) rfl)) rfl
theorem wl_216 : Cond.instantiable RX6 12 ∈ ah_TT := ah_TT_in (tb_1 (List.mem_of_getElem? (i := 201) rfl)) rfl
theorem wl_217 : Cond.instantiable RX7 5 ∈ ah_TT := ah_TT_in (tb_1 (List.mem_of_getElem? (i := 56) rfl)) rfl
theorem wl_218 : Cond.instantiable RX8 4 ∈ ah_TT := ah_TT_in (tb_1 (List.mem_of_getElem? (i := 78) rfl)) rfl
theorem wl_219 : Cond.instantiable RX9 4 ∈ ah_TT := ah_TT_in (tb_2 (List.mem_of_getElem? (i := 200) rfl)) rfl
theorem wl_220 : Cond.instantiable RX10 4 ∈ ah_TT := ah_TT_in (tb_2 (List.mem_of_getElem? (i := 10) rfl)) rfl
theorem wl_221 : Cond.instantiable RX11 6 ∈ ah_TT := ah_TT_in (tb_1 (List.mem_of_getElem? (i := 24) rfl)) rfl
theorem wl_222 : Cond.instantiable RX12 30 ∈ ah_TT := ah_TT_in (tb_4 (List.mem_of_getElem? (i := 143) rfl)) rfl
theorem wl_223 : Cond.classLink "GloveSaintLaw" 7 RX11 ∈ ah_TT := ah_TT_in (tb_1 (List.mem_of_getElem? (i := 23) rfl)) rfl
theorem wl_224 : Cond.classLink "GloveSaintLaw" 10 RX12 ∈ ah_TT := ah_TT_in (tb_4 (List.mem_of_getElem? (i := 142) rfl)) rfl
theorem wl_225 : Cond.methodLink "GloveSaintLaw" 9 yX11_init ∈ ah_TT := ah_TT_in (tb_1 (List.mem_of_getElem? (i := 25) rfl)) rfl
theorem wl_226 : Cond.instanceMethod yX11_init ∈ ah_TT := ah_TT_in (tb_1 (List.mem_of_getElem? (i := 26) rfl)) rfl
theorem wl_227 : Cond.code yX11_init cX11_init 1 none ∈ ah_TT := ah_TT_in (tb_1 (List.mem_of_getElem? (i := 27) rfl)) rfl
theorem wl_228 : Cond.methodLink "GloveSaintLaw" 12 yX12_init ∈ ah_TT := ah_TT_in (tb_4 (List.mem_of_getElem? (i := 144) rfl)) rfl
theorem wl_229 : Cond.instanceMethod yX12_init ∈ ah_TT := ah_TT_in (tb_4 (List.mem_of_getElem? (i := 145) rfl)) rfl
theorem wl_230 : Cond.code yX12_init cX12_init 1 none ∈ ah_TT := ah_TT_in (tb_4 (List.mem_of_getElem? (i := 146) rfl)) rfl
theorem wl_231 : Cond.arrayClass .int ∈ lw_tbl := tb_1 (List.mem_of_getElem? (i := 46) rfl)
theorem wl_232 : Cond.arrayClass .boolean ∈ lw_tbl := tb_2 (List.mem_of_getElem? (i := 31) rfl)
theorem wl_233 : Cond.arrayOver (.object "GloveSaint$Single") ∈ lw_tbl := tb_1 (List.mem_of_getElem? (i := 54) rfl)
theorem wl_234 : Cond.arrayOver (.array .int) ∈ lw_tbl := tb_1 (List.mem_of_getElem? (i := 207) rfl)
theorem wl_235 : Cond.stringRef RX4 27 "sgkrm" ∈ lw_tbl := tb_2 (List.mem_of_getElem? (i := 78) rfl)
theorem wl_236 : Cond.laysStatic "java/lang/String" "COMPACT_STRINGS" "Z" ∈ lw_tbl := tb_2 (List.mem_of_getElem? (i := 92) rfl)
theorem wl_237 : Cond.initialized "java/lang/String" ∈ lw_tbl := tb_1 (List.mem_of_getElem? (i := 10) rfl)
theorem wl_238 : Cond.methodLinkNest RX0 19 yX7_init "GloveSaint" ∈ lw_tbl := tb_1 (List.mem_of_getElem? (i := 57) rfl)
theorem wl_239 : Cond.methodLinkNest RX2 27 yX7_init "GloveSaint" ∈ lw_tbl := tb_1 (List.mem_of_getElem? (i := 170) rfl)
theorem wl_240 : Cond.methodLinkNest RX11 9 yX4_init "GloveSaint" ∈ lw_tbl := tb_1 (List.mem_of_getElem? (i := 33) rfl)
theorem wl_241 : Cond.methodLinkNest RX11 25 yX2_init "GloveSaint" ∈ lw_tbl := tb_1 (List.mem_of_getElem? (i := 165) rfl)
theorem wl_242 : Cond.methodLinkNest RX11 32 yX6_init "GloveSaint" ∈ lw_tbl := tb_1 (List.mem_of_getElem? (i := 202) rfl)
theorem wl_243 : Cond.methodLinkNest RX11 39 yX10_init "GloveSaint" ∈ lw_tbl := tb_2 (List.mem_of_getElem? (i := 11) rfl)
theorem wl_244 : Cond.castable RX1 RX8 ∈ lw_tbl := tb_6 (List.mem_of_getElem? (i := 53) rfl)
theorem wl_245 : Cond.castable RX3 RX8 ∈ lw_tbl := tb_6 (List.mem_of_getElem? (i := 56) rfl)
theorem wl_246 : Cond.castable RX5 RX8 ∈ lw_tbl := tb_6 (List.mem_of_getElem? (i := 55) rfl)
theorem wl_247 : Cond.castable RX9 RX8 ∈ lw_tbl := tb_6 (List.mem_of_getElem? (i := 54) rfl)
theorem wl_248 : Cond.castable RX3 RX1 ∈ lw_tbl := tb_6 (List.mem_of_getElem? (i := 52) rfl)
