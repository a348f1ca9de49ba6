theorem dX12_init_0 : decode cX12_init 0 = .ok (.aload_n 0, 1) := by decide +kernel
theorem dX12_init_1 : decode cX12_init 1 = .ok (.invokespecial 1, 3) := by decide +kernel
theorem dX12_init_4 : decode cX12_init 4 = .ok (.aload_n 0, 1) := by decide +kernel
theorem dX12_init_5 : decode cX12_init 5 = .ok (.bipush 36, 2) := by decide +kernel
theorem dX12_init_7 : decode cX12_init 7 = .ok (.newarray .int, 2) := by decide +kernel
theorem dX12_init_9 : decode cX12_init 9 = .ok (.putfield 7, 3) := by decide +kernel
theorem dX12_init_12 : decode cX12_init 12 = .ok (.aload_n 0, 1) := by decide +kernel
theorem dX12_init_13 : decode cX12_init 13 = .ok (.bipush 14, 2) := by decide +kernel
theorem dX12_init_15 : decode cX12_init 15 = .ok (.newarray .int, 2) := by decide +kernel
theorem dX12_init_17 : decode cX12_init 17 = .ok (.putfield 13, 3) := by decide +kernel
theorem dX12_init_20 : decode cX12_init 20 = .ok (.aload_n 0, 1) := by decide +kernel
theorem dX12_init_21 : decode cX12_init 21 = .ok (.bipush 7, 2) := by decide +kernel
theorem dX12_init_23 : decode cX12_init 23 = .ok (.newarray .int, 2) := by decide +kernel
theorem dX12_init_25 : decode cX12_init 25 = .ok (.putfield 16, 3) := by decide +kernel
theorem dX12_init_28 : decode cX12_init 28 = .ok (.aload_n 0, 1) := by decide +kernel
theorem dX12_init_29 : decode cX12_init 29 = .ok (.bipush 7, 2) := by decide +kernel
theorem dX12_init_31 : decode cX12_init 31 = .ok (.newarray .int, 2) := by decide +kernel
theorem dX12_init_33 : decode cX12_init 33 = .ok (.putfield 19, 3) := by decide +kernel
theorem dX12_init_36 : decode cX12_init 36 = .ok (.aload_n 0, 1) := by decide +kernel
theorem dX12_init_37 : decode cX12_init 37 = .ok (.bipush 7, 2) := by decide +kernel
theorem dX12_init_39 : decode cX12_init 39 = .ok (.newarray .int, 2) := by decide +kernel
theorem dX12_init_41 : decode cX12_init 41 = .ok (.putfield 22, 3) := by decide +kernel
theorem dX12_init_44 : decode cX12_init 44 = .ok (.aload_n 0, 1) := by decide +kernel
theorem dX12_init_45 : decode cX12_init 45 = .ok (.bipush 7, 2) := by decide +kernel
theorem dX12_init_47 : decode cX12_init 47 = .ok (.newarray .int, 2) := by decide +kernel
theorem dX12_init_49 : decode cX12_init 49 = .ok (.putfield 25, 3) := by decide +kernel
theorem dX12_init_52 : decode cX12_init 52 = .ok (.aload_n 0, 1) := by decide +kernel
theorem dX12_init_53 : decode cX12_init 53 = .ok (.bipush 7, 2) := by decide +kernel
theorem dX12_init_55 : decode cX12_init 55 = .ok (.newarray .int, 2) := by decide +kernel
theorem dX12_init_57 : decode cX12_init 57 = .ok (.putfield 28, 3) := by decide +kernel
theorem dX12_init_60 : decode cX12_init 60 = .ok (.aload_n 0, 1) := by decide +kernel
theorem dX12_init_61 : decode cX12_init 61 = .ok (.bipush 7, 2) := by decide +kernel
theorem dX12_init_63 : decode cX12_init 63 = .ok (.newarray .int, 2) := by decide +kernel
theorem dX12_init_65 : decode cX12_init 65 = .ok (.putfield 31, 3) := by decide +kernel
theorem dX12_init_68 : decode cX12_init 68 = .ok (.aload_n 0, 1) := by decide +kernel
theorem dX12_init_69 : decode cX12_init 69 = .ok (.bipush 24, 2) := by decide +kernel
theorem dX12_init_71 : decode cX12_init 71 = .ok (.newarray .int, 2) := by decide +kernel
theorem dX12_init_73 : decode cX12_init 73 = .ok (.putfield 34, 3) := by decide +kernel
theorem dX12_init_76 : decode cX12_init 76 = .ok (.aload_n 0, 1) := by decide +kernel
theorem dX12_init_77 : decode cX12_init 77 = .ok (.bipush 20, 2) := by decide +kernel
theorem dX12_init_79 : decode cX12_init 79 = .ok (.newarray .int, 2) := by decide +kernel
theorem dX12_init_81 : decode cX12_init 81 = .ok (.putfield 37, 3) := by decide +kernel
theorem dX12_init_84 : decode cX12_init 84 = .ok (.aload_n 0, 1) := by decide +kernel
theorem dX12_init_85 : decode cX12_init 85 = .ok (.bipush 7, 2) := by decide +kernel
theorem dX12_init_87 : decode cX12_init 87 = .ok (.newarray .int, 2) := by decide +kernel
theorem dX12_init_89 : decode cX12_init 89 = .ok (.putfield 40, 3) := by decide +kernel
theorem dX12_init_92 : decode cX12_init 92 = .ok (.aload_n 0, 1) := by decide +kernel
theorem dX12_init_93 : decode cX12_init 93 = .ok (.bipush 7, 2) := by decide +kernel
theorem dX12_init_95 : decode cX12_init 95 = .ok (.newarray .int, 2) := by decide +kernel
theorem dX12_init_97 : decode cX12_init 97 = .ok (.putfield 43, 3) := by decide +kernel
theorem dX12_init_100 : decode cX12_init 100 = .ok (.aload_n 0, 1) := by decide +kernel
theorem dX12_init_101 : decode cX12_init 101 = .ok (.bipush 7, 2) := by decide +kernel
theorem dX12_init_103 : decode cX12_init 103 = .ok (.newarray .int, 2) := by decide +kernel
theorem dX12_init_105 : decode cX12_init 105 = .ok (.putfield 46, 3) := by decide +kernel
theorem dX12_init_108 : decode cX12_init 108 = .ok (.aload_n 0, 1) := by decide +kernel
theorem dX12_init_109 : decode cX12_init 109 = .ok (.bipush 24, 2) := by decide +kernel
theorem dX12_init_111 : decode cX12_init 111 = .ok (.newarray .int, 2) := by decide +kernel
theorem dX12_init_113 : decode cX12_init 113 = .ok (.putfield 49, 3) := by decide +kernel
theorem dX12_init_116 : decode cX12_init 116 = .ok (.aload_n 0, 1) := by decide +kernel
theorem dX12_init_117 : decode cX12_init 117 = .ok (.iconst (-1), 1) := by decide +kernel
theorem dX12_init_118 : decode cX12_init 118 = .ok (.putfield 52, 3) := by decide +kernel
theorem dX12_init_121 : decode cX12_init 121 = .ok (.return_, 1) := by decide +kernel
theorem dX12_in_0 : decode cX12_in 0 = .ok (.lload_n 0, 1) := by decide +kernel
theorem dX12_in_1 : decode cX12_in 1 = .ok (.lload_n 2, 1) := by decide +kernel
theorem dX12_in_2 : decode cX12_in 2 = .ok (.lcmp, 1) := by decide +kernel
theorem dX12_in_3 : decode cX12_in 3 = .ok (.ifCond .lt 14, 3) := by decide +kernel
theorem dX12_in_6 : decode cX12_in 6 = .ok (.lload_n 0, 1) := by decide +kernel
theorem dX12_in_7 : decode cX12_in 7 = .ok (.lload 4, 2) := by decide +kernel
theorem dX12_in_9 : decode cX12_in 9 = .ok (.lcmp, 1) := by decide +kernel
theorem dX12_in_10 : decode cX12_in 10 = .ok (.ifCond .gt 7, 3) := by decide +kernel
theorem dX12_in_13 : decode cX12_in 13 = .ok (.iconst 1, 1) := by decide +kernel
theorem dX12_in_14 : decode cX12_in 14 = .ok (.goto 4, 3) := by decide +kernel
theorem dX12_in_17 : decode cX12_in 17 = .ok (.iconst 0, 1) := by decide +kernel
theorem dX12_in_18 : decode cX12_in 18 = .ok (.ireturn, 1) := by decide +kernel
theorem dX12_copy_0 : decode cX12_copy 0 = .ok (.iconst 0, 1) := by decide +kernel
theorem dX12_copy_1 : decode cX12_copy 1 = .ok (.istore_n 2, 1) := by decide +kernel
theorem dX12_copy_2 : decode cX12_copy 2 = .ok (.iload_n 2, 1) := by decide +kernel
theorem dX12_copy_3 : decode cX12_copy 3 = .ok (.aload_n 0, 1) := by decide +kernel
theorem dX12_copy_4 : decode cX12_copy 4 = .ok (.arraylength, 1) := by decide +kernel
theorem dX12_copy_5 : decode cX12_copy 5 = .ok (.if_icmp .ge 15, 3) := by decide +kernel
theorem dX12_copy_8 : decode cX12_copy 8 = .ok (.aload_n 1, 1) := by decide +kernel
theorem dX12_copy_9 : decode cX12_copy 9 = .ok (.iload_n 2, 1) := by decide +kernel
theorem dX12_copy_10 : decode cX12_copy 10 = .ok (.aload_n 0, 1) := by decide +kernel
theorem dX12_copy_11 : decode cX12_copy 11 = .ok (.iload_n 2, 1) := by decide +kernel
theorem dX12_copy_12 : decode cX12_copy 12 = .ok (.iaload, 1) := by decide +kernel
theorem dX12_copy_13 : decode cX12_copy 13 = .ok (.iastore, 1) := by decide +kernel
theorem dX12_copy_14 : decode cX12_copy 14 = .ok (.iinc 2 1, 3) := by decide +kernel
theorem dX12_copy_17 : decode cX12_copy 17 = .ok (.goto (-15), 3) := by decide +kernel
theorem dX12_copy_20 : decode cX12_copy 20 = .ok (.return_, 1) := by decide +kernel
theorem dX12_far_0 : decode cX12_far 0 = .ok (.iload_n 0, 1) := by decide +kernel
theorem dX12_far_1 : decode cX12_far 1 = .ok (.iload_n 1, 1) := by decide +kernel
theorem dX12_far_2 : decode cX12_far 2 = .ok (.if_icmp .ge 9, 3) := by decide +kernel
theorem dX12_far_5 : decode cX12_far 5 = .ok (.iload_n 1, 1) := by decide +kernel
theorem dX12_far_6 : decode cX12_far 6 = .ok (.iload_n 0, 1) := by decide +kernel
theorem dX12_far_7 : decode cX12_far 7 = .ok (.isub, 1) := by decide +kernel
theorem dX12_far_8 : decode cX12_far 8 = .ok (.goto 6, 3) := by decide +kernel
theorem dX12_far_11 : decode cX12_far 11 = .ok (.iload_n 0, 1) := by decide +kernel
theorem dX12_far_12 : decode cX12_far 12 = .ok (.iload_n 1, 1) := by decide +kernel
theorem dX12_far_13 : decode cX12_far 13 = .ok (.isub, 1) := by decide +kernel
theorem dX12_far_14 : decode cX12_far 14 = .ok (.ireturn, 1) := by decide +kernel
theorem dX12_ones_0 : decode cX12_ones 0 = .ok (.iconst 0, 1) := by decide +kernel
theorem dX12_ones_1 : decode cX12_ones 1 = .ok (.istore_n 1, 1) := by decide +kernel
theorem dX12_ones_2 : decode cX12_ones 2 = .ok (.iconst 0, 1) := by decide +kernel
theorem dX12_ones_3 : decode cX12_ones 3 = .ok (.istore_n 2, 1) := by decide +kernel
theorem dX12_ones_4 : decode cX12_ones 4 = .ok (.iload_n 2, 1) := by decide +kernel
theorem dX12_ones_5 : decode cX12_ones 5 = .ok (.bipush 10, 2) := by decide +kernel
theorem dX12_ones_7 : decode cX12_ones 7 = .ok (.if_icmp .ge 17, 3) := by decide +kernel
theorem dX12_ones_10 : decode cX12_ones 10 = .ok (.iload_n 1, 1) := by decide +kernel
theorem dX12_ones_11 : decode cX12_ones 11 = .ok (.iload_n 0, 1) := by decide +kernel
theorem dX12_ones_12 : decode cX12_ones 12 = .ok (.iload_n 2, 1) := by decide +kernel
theorem dX12_ones_13 : decode cX12_ones 13 = .ok (.ishr, 1) := by decide +kernel
theorem dX12_ones_14 : decode cX12_ones 14 = .ok (.iconst 1, 1) := by decide +kernel
theorem dX12_ones_15 : decode cX12_ones 15 = .ok (.iand, 1) := by decide +kernel
theorem dX12_ones_16 : decode cX12_ones 16 = .ok (.iadd, 1) := by decide +kernel
theorem dX12_ones_17 : decode cX12_ones 17 = .ok (.istore_n 1, 1) := by decide +kernel
theorem dX12_ones_18 : decode cX12_ones 18 = .ok (.iinc 2 1, 3) := by decide +kernel
theorem dX12_ones_21 : decode cX12_ones 21 = .ok (.goto (-17), 3) := by decide +kernel
theorem dX12_ones_24 : decode cX12_ones 24 = .ok (.iload_n 1, 1) := by decide +kernel
theorem dX12_ones_25 : decode cX12_ones 25 = .ok (.ireturn, 1) := by decide +kernel
theorem dX12_common_0 : decode cX12_common 0 = .ok (.iload_n 0, 1) := by decide +kernel
theorem dX12_common_1 : decode cX12_common 1 = .ok (.istore_n 2, 1) := by decide +kernel
theorem dX12_common_2 : decode cX12_common 2 = .ok (.iload_n 1, 1) := by decide +kernel
theorem dX12_common_3 : decode cX12_common 3 = .ok (.istore_n 3, 1) := by decide +kernel
theorem dX12_common_4 : decode cX12_common 4 = .ok (.iload_n 3, 1) := by decide +kernel
theorem dX12_common_5 : decode cX12_common 5 = .ok (.ifCond .le 16, 3) := by decide +kernel
theorem dX12_common_8 : decode cX12_common 8 = .ok (.iload_n 2, 1) := by decide +kernel
theorem dX12_common_9 : decode cX12_common 9 = .ok (.iload_n 3, 1) := by decide +kernel
theorem dX12_common_10 : decode cX12_common 10 = .ok (.irem, 1) := by decide +kernel
theorem dX12_common_11 : decode cX12_common 11 = .ok (.istore 4, 2) := by decide +kernel
theorem dX12_common_13 : decode cX12_common 13 = .ok (.iload_n 3, 1) := by decide +kernel
theorem dX12_common_14 : decode cX12_common 14 = .ok (.istore_n 2, 1) := by decide +kernel
theorem dX12_common_15 : decode cX12_common 15 = .ok (.iload 4, 2) := by decide +kernel
theorem dX12_common_17 : decode cX12_common 17 = .ok (.istore_n 3, 1) := by decide +kernel
theorem dX12_common_18 : decode cX12_common 18 = .ok (.goto (-14), 3) := by decide +kernel
theorem dX12_common_21 : decode cX12_common 21 = .ok (.iload_n 2, 1) := by decide +kernel
theorem dX12_common_22 : decode cX12_common 22 = .ok (.ireturn, 1) := by decide +kernel
theorem dX12_letter_0 : decode cX12_letter 0 = .ok (.iload_n 1, 1) := by decide +kernel
theorem dX12_letter_1 : decode cX12_letter 1 = .ok (.i2l, 1) := by decide +kernel
theorem dX12_letter_2 : decode cX12_letter 2 = .ok (.lconst 1, 1) := by decide +kernel
theorem dX12_letter_3 : decode cX12_letter 3 = .ok (.ldc2_w 56, 3) := by decide +kernel
theorem dX12_letter_6 : decode cX12_letter 6 = .ok (.invokestatic 58, 3) := by decide +kernel
theorem dX12_letter_9 : decode cX12_letter 9 = .ok (.ifCond .ne 6, 3) := by decide +kernel
theorem dX12_letter_12 : decode cX12_letter 12 = .ok (.bipush (-102), 2) := by decide +kernel
theorem dX12_letter_14 : decode cX12_letter 14 = .ok (.ireturn, 1) := by decide +kernel
theorem dX12_letter_15 : decode cX12_letter 15 = .ok (.aload_n 0, 1) := by decide +kernel
theorem dX12_letter_16 : decode cX12_letter 16 = .ok (.getfield 62, 3) := by decide +kernel
theorem dX12_letter_19 : decode cX12_letter 19 = .ok (.bipush 36, 2) := by decide +kernel
theorem dX12_letter_21 : decode cX12_letter 21 = .ok (.if_icmp .ne 6, 3) := by decide +kernel
theorem dX12_letter_24 : decode cX12_letter 24 = .ok (.bipush (-104), 2) := by decide +kernel
theorem dX12_letter_26 : decode cX12_letter 26 = .ok (.ireturn, 1) := by decide +kernel
theorem dX12_letter_27 : decode cX12_letter 27 = .ok (.aload_n 0, 1) := by decide +kernel
theorem dX12_letter_28 : decode cX12_letter 28 = .ok (.getfield 7, 3) := by decide +kernel
theorem dX12_letter_31 : decode cX12_letter 31 = .ok (.aload_n 0, 1) := by decide +kernel
theorem dX12_letter_32 : decode cX12_letter 32 = .ok (.getfield 62, 3) := by decide +kernel
theorem dX12_letter_35 : decode cX12_letter 35 = .ok (.iload_n 1, 1) := by decide +kernel
theorem dX12_letter_36 : decode cX12_letter 36 = .ok (.iastore, 1) := by decide +kernel
theorem dX12_letter_37 : decode cX12_letter 37 = .ok (.aload_n 0, 1) := by decide +kernel
theorem dX12_letter_38 : decode cX12_letter 38 = .ok (.dup, 1) := by decide +kernel
theorem dX12_letter_39 : decode cX12_letter 39 = .ok (.getfield 62, 3) := by decide +kernel
theorem dX12_letter_42 : decode cX12_letter 42 = .ok (.iconst 1, 1) := by decide +kernel
theorem dX12_letter_43 : decode cX12_letter 43 = .ok (.iadd, 1) := by decide +kernel
theorem dX12_letter_44 : decode cX12_letter 44 = .ok (.putfield 62, 3) := by decide +kernel
theorem dX12_letter_47 : decode cX12_letter 47 = .ok (.aload_n 0, 1) := by decide +kernel
theorem dX12_letter_48 : decode cX12_letter 48 = .ok (.getfield 62, 3) := by decide +kernel
theorem dX12_letter_51 : decode cX12_letter 51 = .ok (.ireturn, 1) := by decide +kernel
theorem dX12_blank_0 : decode cX12_blank 0 = .ok (.aload_n 0, 1) := by decide +kernel
theorem dX12_blank_1 : decode cX12_blank 1 = .ok (.getfield 62, 3) := by decide +kernel
theorem dX12_blank_4 : decode cX12_blank 4 = .ok (.istore_n 1, 1) := by decide +kernel
theorem dX12_blank_5 : decode cX12_blank 5 = .ok (.aload_n 0, 1) := by decide +kernel
theorem dX12_blank_6 : decode cX12_blank 6 = .ok (.iconst 0, 1) := by decide +kernel
theorem dX12_blank_7 : decode cX12_blank 7 = .ok (.putfield 62, 3) := by decide +kernel
theorem dX12_blank_10 : decode cX12_blank 10 = .ok (.iload_n 1, 1) := by decide +kernel
theorem dX12_blank_11 : decode cX12_blank 11 = .ok (.ireturn, 1) := by decide +kernel
theorem dX12_kindBy_0 : decode cX12_kindBy 0 = .ok (.iload_n 0, 1) := by decide +kernel
theorem dX12_kindBy_1 : decode cX12_kindBy 1 = .ok (.tableswitch 77 103 115 #[69, 77, 77, 77, 71, 77, 75, 77, 77, 77, 77, 73, 67], 67) := by decide +kernel
theorem dX12_kindBy_68 : decode cX12_kindBy 68 = .ok (.iconst 0, 1) := by decide +kernel
theorem dX12_kindBy_69 : decode cX12_kindBy 69 = .ok (.ireturn, 1) := by decide +kernel
theorem dX12_kindBy_70 : decode cX12_kindBy 70 = .ok (.iconst 1, 1) := by decide +kernel
theorem dX12_kindBy_71 : decode cX12_kindBy 71 = .ok (.ireturn, 1) := by decide +kernel
theorem dX12_kindBy_72 : decode cX12_kindBy 72 = .ok (.iconst 2, 1) := by decide +kernel
theorem dX12_kindBy_73 : decode cX12_kindBy 73 = .ok (.ireturn, 1) := by decide +kernel
theorem dX12_kindBy_74 : decode cX12_kindBy 74 = .ok (.iconst 3, 1) := by decide +kernel
theorem dX12_kindBy_75 : decode cX12_kindBy 75 = .ok (.ireturn, 1) := by decide +kernel
theorem dX12_kindBy_76 : decode cX12_kindBy 76 = .ok (.iconst 4, 1) := by decide +kernel
theorem dX12_kindBy_77 : decode cX12_kindBy 77 = .ok (.ireturn, 1) := by decide +kernel
theorem dX12_kindBy_78 : decode cX12_kindBy 78 = .ok (.iconst (-1), 1) := by decide +kernel
theorem dX12_kindBy_79 : decode cX12_kindBy 79 = .ok (.ireturn, 1) := by decide +kernel
theorem dX12_isGood_0 : decode cX12_isGood 0 = .ok (.iload_n 0, 1) := by decide +kernel
theorem dX12_isGood_1 : decode cX12_isGood 1 = .ok (.iconst 5, 1) := by decide +kernel
theorem dX12_isGood_2 : decode cX12_isGood 2 = .ok (.irem, 1) := by decide +kernel
theorem dX12_isGood_3 : decode cX12_isGood 3 = .ok (.tableswitch 79 0 3 #[29, 43, 55, 67], 29) := by decide +kernel
theorem dX12_isGood_32 : decode cX12_isGood 32 = .ok (.iload_n 1, 1) := by decide +kernel
theorem dX12_isGood_33 : decode cX12_isGood 33 = .ok (.invokestatic 65, 3) := by decide +kernel
theorem dX12_isGood_36 : decode cX12_isGood 36 = .ok (.iconst (-1), 1) := by decide +kernel
theorem dX12_isGood_37 : decode cX12_isGood 37 = .ok (.if_icmp .eq 7, 3) := by decide +kernel
theorem dX12_isGood_40 : decode cX12_isGood 40 = .ok (.iconst 1, 1) := by decide +kernel
theorem dX12_isGood_41 : decode cX12_isGood 41 = .ok (.goto 4, 3) := by decide +kernel
theorem dX12_isGood_44 : decode cX12_isGood 44 = .ok (.iconst 0, 1) := by decide +kernel
theorem dX12_isGood_45 : decode cX12_isGood 45 = .ok (.ireturn, 1) := by decide +kernel
theorem dX12_isGood_46 : decode cX12_isGood 46 = .ok (.iload_n 1, 1) := by decide +kernel
theorem dX12_isGood_47 : decode cX12_isGood 47 = .ok (.i2l, 1) := by decide +kernel
theorem dX12_isGood_48 : decode cX12_isGood 48 = .ok (.ldc2_w 69, 3) := by decide +kernel
theorem dX12_isGood_51 : decode cX12_isGood 51 = .ok (.ldc2_w 71, 3) := by decide +kernel
theorem dX12_isGood_54 : decode cX12_isGood 54 = .ok (.invokestatic 58, 3) := by decide +kernel
theorem dX12_isGood_57 : decode cX12_isGood 57 = .ok (.ireturn, 1) := by decide +kernel
theorem dX12_isGood_58 : decode cX12_isGood 58 = .ok (.iload_n 1, 1) := by decide +kernel
theorem dX12_isGood_59 : decode cX12_isGood 59 = .ok (.i2l, 1) := by decide +kernel
theorem dX12_isGood_60 : decode cX12_isGood 60 = .ok (.ldc2_w 69, 3) := by decide +kernel
theorem dX12_isGood_63 : decode cX12_isGood 63 = .ok (.ldc2_w 73, 3) := by decide +kernel
theorem dX12_isGood_66 : decode cX12_isGood 66 = .ok (.invokestatic 58, 3) := by decide +kernel
theorem dX12_isGood_69 : decode cX12_isGood 69 = .ok (.ireturn, 1) := by decide +kernel
theorem dX12_isGood_70 : decode cX12_isGood 70 = .ok (.iload_n 1, 1) := by decide +kernel
theorem dX12_isGood_71 : decode cX12_isGood 71 = .ok (.i2l, 1) := by decide +kernel
theorem dX12_isGood_72 : decode cX12_isGood 72 = .ok (.ldc2_w 69, 3) := by decide +kernel
theorem dX12_isGood_75 : decode cX12_isGood 75 = .ok (.ldc2_w 75, 3) := by decide +kernel
theorem dX12_isGood_78 : decode cX12_isGood 78 = .ok (.invokestatic 58, 3) := by decide +kernel
theorem dX12_isGood_81 : decode cX12_isGood 81 = .ok (.ireturn, 1) := by decide +kernel
theorem dX12_isGood_82 : decode cX12_isGood 82 = .ok (.iload_n 1, 1) := by decide +kernel
theorem dX12_isGood_83 : decode cX12_isGood 83 = .ok (.bipush 44, 2) := by decide +kernel
theorem dX12_isGood_85 : decode cX12_isGood 85 = .ok (.if_icmp .ne 13, 3) := by decide +kernel
theorem dX12_isGood_88 : decode cX12_isGood 88 = .ok (.iload_n 0, 1) := by decide +kernel
theorem dX12_isGood_89 : decode cX12_isGood 89 = .ok (.bipush 34, 2) := by decide +kernel
theorem dX12_isGood_91 : decode cX12_isGood 91 = .ok (.if_icmp .ge 7, 3) := by decide +kernel
theorem dX12_isGood_94 : decode cX12_isGood 94 = .ok (.iconst 1, 1) := by decide +kernel
theorem dX12_isGood_95 : decode cX12_isGood 95 = .ok (.goto 4, 3) := by decide +kernel
theorem dX12_isGood_98 : decode cX12_isGood 98 = .ok (.iconst 0, 1) := by decide +kernel
theorem dX12_isGood_99 : decode cX12_isGood 99 = .ok (.ireturn, 1) := by decide +kernel
theorem dX12_faultOf_0 : decode cX12_faultOf 0 = .ok (.iconst 0, 1) := by decide +kernel
theorem dX12_faultOf_1 : decode cX12_faultOf 1 = .ok (.istore_n 1, 1) := by decide +kernel
theorem dX12_faultOf_2 : decode cX12_faultOf 2 = .ok (.iload_n 1, 1) := by decide +kernel
theorem dX12_faultOf_3 : decode cX12_faultOf 3 = .ok (.aload_n 0, 1) := by decide +kernel
theorem dX12_faultOf_4 : decode cX12_faultOf 4 = .ok (.getfield 62, 3) := by decide +kernel
theorem dX12_faultOf_7 : decode cX12_faultOf 7 = .ok (.if_icmp .ge 22, 3) := by decide +kernel
theorem dX12_faultOf_10 : decode cX12_faultOf 10 = .ok (.iload_n 1, 1) := by decide +kernel
theorem dX12_faultOf_11 : decode cX12_faultOf 11 = .ok (.aload_n 0, 1) := by decide +kernel
theorem dX12_faultOf_12 : decode cX12_faultOf 12 = .ok (.getfield 7, 3) := by decide +kernel
theorem dX12_faultOf_15 : decode cX12_faultOf 15 = .ok (.iload_n 1, 1) := by decide +kernel
theorem dX12_faultOf_16 : decode cX12_faultOf 16 = .ok (.iaload, 1) := by decide +kernel
theorem dX12_faultOf_17 : decode cX12_faultOf 17 = .ok (.invokestatic 77, 3) := by decide +kernel
theorem dX12_faultOf_20 : decode cX12_faultOf 20 = .ok (.ifCond .eq 9, 3) := by decide +kernel
theorem dX12_faultOf_23 : decode cX12_faultOf 23 = .ok (.iinc 1 1, 3) := by decide +kernel
theorem dX12_faultOf_26 : decode cX12_faultOf 26 = .ok (.goto (-24), 3) := by decide +kernel
theorem dX12_faultOf_29 : decode cX12_faultOf 29 = .ok (.iload_n 1, 1) := by decide +kernel
theorem dX12_faultOf_30 : decode cX12_faultOf 30 = .ok (.ireturn, 1) := by decide +kernel
theorem dX12_fault_0 : decode cX12_fault 0 = .ok (.aload_n 0, 1) := by decide +kernel
theorem dX12_fault_1 : decode cX12_fault 1 = .ok (.invokevirtual 81, 3) := by decide +kernel
theorem dX12_fault_4 : decode cX12_fault 4 = .ok (.ireturn, 1) := by decide +kernel
theorem dX12_drawer_0 : decode cX12_drawer 0 = .ok (.aload_n 0, 1) := by decide +kernel
theorem dX12_drawer_1 : decode cX12_drawer 1 = .ok (.getfield 62, 3) := by decide +kernel
theorem dX12_drawer_4 : decode cX12_drawer 4 = .ok (.bipush 9, 2) := by decide +kernel
theorem dX12_drawer_6 : decode cX12_drawer 6 = .ok (.if_icmp .lt 24, 3) := by decide +kernel
theorem dX12_drawer_9 : decode cX12_drawer 9 = .ok (.aload_n 0, 1) := by decide +kernel
theorem dX12_drawer_10 : decode cX12_drawer 10 = .ok (.getfield 62, 3) := by decide +kernel
theorem dX12_drawer_13 : decode cX12_drawer 13 = .ok (.iconst 5, 1) := by decide +kernel
theorem dX12_drawer_14 : decode cX12_drawer 14 = .ok (.irem, 1) := by decide +kernel
theorem dX12_drawer_15 : decode cX12_drawer 15 = .ok (.iconst 4, 1) := by decide +kernel
theorem dX12_drawer_16 : decode cX12_drawer 16 = .ok (.if_icmp .ne 14, 3) := by decide +kernel
theorem dX12_drawer_19 : decode cX12_drawer 19 = .ok (.aload_n 0, 1) := by decide +kernel
theorem dX12_drawer_20 : decode cX12_drawer 20 = .ok (.invokevirtual 81, 3) := by decide +kernel
theorem dX12_drawer_23 : decode cX12_drawer 23 = .ok (.aload_n 0, 1) := by decide +kernel
theorem dX12_drawer_24 : decode cX12_drawer 24 = .ok (.getfield 62, 3) := by decide +kernel
theorem dX12_drawer_27 : decode cX12_drawer 27 = .ok (.if_icmp .ge 6, 3) := by decide +kernel
theorem dX12_drawer_30 : decode cX12_drawer 30 = .ok (.bipush (-103), 2) := by decide +kernel
theorem dX12_drawer_32 : decode cX12_drawer 32 = .ok (.ireturn, 1) := by decide +kernel
theorem dX12_drawer_33 : decode cX12_drawer 33 = .ok (.aload_n 0, 1) := by decide +kernel
theorem dX12_drawer_34 : decode cX12_drawer 34 = .ok (.aload_n 0, 1) := by decide +kernel
theorem dX12_drawer_35 : decode cX12_drawer 35 = .ok (.getfield 62, 3) := by decide +kernel
theorem dX12_drawer_38 : decode cX12_drawer 38 = .ok (.iconst 1, 1) := by decide +kernel
theorem dX12_drawer_39 : decode cX12_drawer 39 = .ok (.iadd, 1) := by decide +kernel
theorem dX12_drawer_40 : decode cX12_drawer 40 = .ok (.iconst 5, 1) := by decide +kernel
theorem dX12_drawer_41 : decode cX12_drawer 41 = .ok (.idiv, 1) := by decide +kernel
theorem dX12_drawer_42 : decode cX12_drawer 42 = .ok (.putfield 85, 3) := by decide +kernel
theorem dX12_drawer_45 : decode cX12_drawer 45 = .ok (.iconst 0, 1) := by decide +kernel
theorem dX12_drawer_46 : decode cX12_drawer 46 = .ok (.istore_n 1, 1) := by decide +kernel
theorem dX12_drawer_47 : decode cX12_drawer 47 = .ok (.iload_n 1, 1) := by decide +kernel
theorem dX12_drawer_48 : decode cX12_drawer 48 = .ok (.aload_n 0, 1) := by decide +kernel
theorem dX12_drawer_49 : decode cX12_drawer 49 = .ok (.getfield 85, 3) := by decide +kernel
theorem dX12_drawer_52 : decode cX12_drawer 52 = .ok (.if_icmp .ge 96, 3) := by decide +kernel
theorem dX12_drawer_55 : decode cX12_drawer 55 = .ok (.aload_n 0, 1) := by decide +kernel
theorem dX12_drawer_56 : decode cX12_drawer 56 = .ok (.getfield 13, 3) := by decide +kernel
theorem dX12_drawer_59 : decode cX12_drawer 59 = .ok (.iconst 2, 1) := by decide +kernel
theorem dX12_drawer_60 : decode cX12_drawer 60 = .ok (.iload_n 1, 1) := by decide +kernel
theorem dX12_drawer_61 : decode cX12_drawer 61 = .ok (.imul, 1) := by decide +kernel
theorem dX12_drawer_62 : decode cX12_drawer 62 = .ok (.aload_n 0, 1) := by decide +kernel
theorem dX12_drawer_63 : decode cX12_drawer 63 = .ok (.getfield 7, 3) := by decide +kernel
theorem dX12_drawer_66 : decode cX12_drawer 66 = .ok (.iconst 5, 1) := by decide +kernel
theorem dX12_drawer_67 : decode cX12_drawer 67 = .ok (.iload_n 1, 1) := by decide +kernel
theorem dX12_drawer_68 : decode cX12_drawer 68 = .ok (.imul, 1) := by decide +kernel
theorem dX12_drawer_69 : decode cX12_drawer 69 = .ok (.iaload, 1) := by decide +kernel
theorem dX12_drawer_70 : decode cX12_drawer 70 = .ok (.invokestatic 65, 3) := by decide +kernel
theorem dX12_drawer_73 : decode cX12_drawer 73 = .ok (.iastore, 1) := by decide +kernel
theorem dX12_drawer_74 : decode cX12_drawer 74 = .ok (.aload_n 0, 1) := by decide +kernel
theorem dX12_drawer_75 : decode cX12_drawer 75 = .ok (.getfield 13, 3) := by decide +kernel
theorem dX12_drawer_78 : decode cX12_drawer 78 = .ok (.iconst 2, 1) := by decide +kernel
theorem dX12_drawer_79 : decode cX12_drawer 79 = .ok (.iload_n 1, 1) := by decide +kernel
theorem dX12_drawer_80 : decode cX12_drawer 80 = .ok (.imul, 1) := by decide +kernel
theorem dX12_drawer_81 : decode cX12_drawer 81 = .ok (.iconst 1, 1) := by decide +kernel
theorem dX12_drawer_82 : decode cX12_drawer 82 = .ok (.iadd, 1) := by decide +kernel
theorem dX12_drawer_83 : decode cX12_drawer 83 = .ok (.aload_n 0, 1) := by decide +kernel
theorem dX12_drawer_84 : decode cX12_drawer 84 = .ok (.getfield 7, 3) := by decide +kernel
theorem dX12_drawer_87 : decode cX12_drawer 87 = .ok (.iconst 5, 1) := by decide +kernel
theorem dX12_drawer_88 : decode cX12_drawer 88 = .ok (.iload_n 1, 1) := by decide +kernel
theorem dX12_drawer_89 : decode cX12_drawer 89 = .ok (.imul, 1) := by decide +kernel
theorem dX12_drawer_90 : decode cX12_drawer 90 = .ok (.iconst 1, 1) := by decide +kernel
theorem dX12_drawer_91 : decode cX12_drawer 91 = .ok (.iadd, 1) := by decide +kernel
theorem dX12_drawer_92 : decode cX12_drawer 92 = .ok (.iaload, 1) := by decide +kernel
theorem dX12_drawer_93 : decode cX12_drawer 93 = .ok (.bipush 48, 2) := by decide +kernel
theorem dX12_drawer_95 : decode cX12_drawer 95 = .ok (.isub, 1) := by decide +kernel
theorem dX12_drawer_96 : decode cX12_drawer 96 = .ok (.iastore, 1) := by decide +kernel
theorem dX12_drawer_97 : decode cX12_drawer 97 = .ok (.aload_n 0, 1) := by decide +kernel
theorem dX12_drawer_98 : decode cX12_drawer 98 = .ok (.getfield 16, 3) := by decide +kernel
theorem dX12_drawer_101 : decode cX12_drawer 101 = .ok (.iload_n 1, 1) := by decide +kernel
theorem dX12_drawer_102 : decode cX12_drawer 102 = .ok (.aload_n 0, 1) := by decide +kernel
theorem dX12_drawer_103 : decode cX12_drawer 103 = .ok (.getfield 7, 3) := by decide +kernel
theorem dX12_drawer_106 : decode cX12_drawer 106 = .ok (.iconst 5, 1) := by decide +kernel
theorem dX12_drawer_107 : decode cX12_drawer 107 = .ok (.iload_n 1, 1) := by decide +kernel
theorem dX12_drawer_108 : decode cX12_drawer 108 = .ok (.imul, 1) := by decide +kernel
theorem dX12_drawer_109 : decode cX12_drawer 109 = .ok (.iconst 2, 1) := by decide +kernel
theorem dX12_drawer_110 : decode cX12_drawer 110 = .ok (.iadd, 1) := by decide +kernel
theorem dX12_drawer_111 : decode cX12_drawer 111 = .ok (.iaload, 1) := by decide +kernel
theorem dX12_drawer_112 : decode cX12_drawer 112 = .ok (.bipush 48, 2) := by decide +kernel
theorem dX12_drawer_114 : decode cX12_drawer 114 = .ok (.isub, 1) := by decide +kernel
theorem dX12_drawer_115 : decode cX12_drawer 115 = .ok (.iastore, 1) := by decide +kernel
theorem dX12_drawer_116 : decode cX12_drawer 116 = .ok (.aload_n 0, 1) := by decide +kernel
theorem dX12_drawer_117 : decode cX12_drawer 117 = .ok (.getfield 19, 3) := by decide +kernel
theorem dX12_drawer_120 : decode cX12_drawer 120 = .ok (.iload_n 1, 1) := by decide +kernel
theorem dX12_drawer_121 : decode cX12_drawer 121 = .ok (.aload_n 0, 1) := by decide +kernel
theorem dX12_drawer_122 : decode cX12_drawer 122 = .ok (.getfield 7, 3) := by decide +kernel
theorem dX12_drawer_125 : decode cX12_drawer 125 = .ok (.iconst 5, 1) := by decide +kernel
theorem dX12_drawer_126 : decode cX12_drawer 126 = .ok (.iload_n 1, 1) := by decide +kernel
theorem dX12_drawer_127 : decode cX12_drawer 127 = .ok (.imul, 1) := by decide +kernel
theorem dX12_drawer_128 : decode cX12_drawer 128 = .ok (.iconst 3, 1) := by decide +kernel
theorem dX12_drawer_129 : decode cX12_drawer 129 = .ok (.iadd, 1) := by decide +kernel
theorem dX12_drawer_130 : decode cX12_drawer 130 = .ok (.iaload, 1) := by decide +kernel
theorem dX12_drawer_131 : decode cX12_drawer 131 = .ok (.bipush 48, 2) := by decide +kernel
theorem dX12_drawer_133 : decode cX12_drawer 133 = .ok (.isub, 1) := by decide +kernel
theorem dX12_drawer_134 : decode cX12_drawer 134 = .ok (.iastore, 1) := by decide +kernel
theorem dX12_drawer_135 : decode cX12_drawer 135 = .ok (.aload_n 0, 1) := by decide +kernel
theorem dX12_drawer_136 : decode cX12_drawer 136 = .ok (.getfield 22, 3) := by decide +kernel
theorem dX12_drawer_139 : decode cX12_drawer 139 = .ok (.iload_n 1, 1) := by decide +kernel
theorem dX12_drawer_140 : decode cX12_drawer 140 = .ok (.iconst (-1), 1) := by decide +kernel
theorem dX12_drawer_141 : decode cX12_drawer 141 = .ok (.iastore, 1) := by decide +kernel
theorem dX12_drawer_142 : decode cX12_drawer 142 = .ok (.iinc 1 1, 3) := by decide +kernel
theorem dX12_drawer_145 : decode cX12_drawer 145 = .ok (.goto (-98), 3) := by decide +kernel
theorem dX12_drawer_148 : decode cX12_drawer 148 = .ok (.aload_n 0, 1) := by decide +kernel
theorem dX12_drawer_149 : decode cX12_drawer 149 = .ok (.iconst 0, 1) := by decide +kernel
theorem dX12_drawer_150 : decode cX12_drawer 150 = .ok (.putfield 88, 3) := by decide +kernel
theorem dX12_drawer_153 : decode cX12_drawer 153 = .ok (.aload_n 0, 1) := by decide +kernel
theorem dX12_drawer_154 : decode cX12_drawer 154 = .ok (.iconst 0, 1) := by decide +kernel
theorem dX12_drawer_155 : decode cX12_drawer 155 = .ok (.putfield 91, 3) := by decide +kernel
theorem dX12_drawer_158 : decode cX12_drawer 158 = .ok (.aload_n 0, 1) := by decide +kernel
theorem dX12_drawer_159 : decode cX12_drawer 159 = .ok (.iconst 0, 1) := by decide +kernel
theorem dX12_drawer_160 : decode cX12_drawer 160 = .ok (.putfield 94, 3) := by decide +kernel
theorem dX12_drawer_163 : decode cX12_drawer 163 = .ok (.aload_n 0, 1) := by decide +kernel
theorem dX12_drawer_164 : decode cX12_drawer 164 = .ok (.iconst 0, 1) := by decide +kernel
theorem dX12_drawer_165 : decode cX12_drawer 165 = .ok (.putfield 97, 3) := by decide +kernel
theorem dX12_drawer_168 : decode cX12_drawer 168 = .ok (.aload_n 0, 1) := by decide +kernel
theorem dX12_drawer_169 : decode cX12_drawer 169 = .ok (.iconst 0, 1) := by decide +kernel
theorem dX12_drawer_170 : decode cX12_drawer 170 = .ok (.putfield 100, 3) := by decide +kernel
theorem dX12_drawer_173 : decode cX12_drawer 173 = .ok (.aload_n 0, 1) := by decide +kernel
theorem dX12_drawer_174 : decode cX12_drawer 174 = .ok (.dup, 1) := by decide +kernel
theorem dX12_drawer_175 : decode cX12_drawer 175 = .ok (.getfield 103, 3) := by decide +kernel
theorem dX12_drawer_178 : decode cX12_drawer 178 = .ok (.iconst 1, 1) := by decide +kernel
theorem dX12_drawer_179 : decode cX12_drawer 179 = .ok (.iadd, 1) := by decide +kernel
theorem dX12_drawer_180 : decode cX12_drawer 180 = .ok (.putfield 103, 3) := by decide +kernel
theorem dX12_drawer_183 : decode cX12_drawer 183 = .ok (.aload_n 0, 1) := by decide +kernel
theorem dX12_drawer_184 : decode cX12_drawer 184 = .ok (.iconst 0, 1) := by decide +kernel
theorem dX12_drawer_185 : decode cX12_drawer 185 = .ok (.putfield 62, 3) := by decide +kernel
theorem dX12_drawer_188 : decode cX12_drawer 188 = .ok (.aload_n 0, 1) := by decide +kernel
theorem dX12_drawer_189 : decode cX12_drawer 189 = .ok (.getfield 85, 3) := by decide +kernel
theorem dX12_drawer_192 : decode cX12_drawer 192 = .ok (.ireturn, 1) := by decide +kernel
theorem dX12_lacks_0 : decode cX12_lacks 0 = .ok (.aload_n 0, 1) := by decide +kernel
theorem dX12_lacks_1 : decode cX12_lacks 1 = .ok (.getfield 85, 3) := by decide +kernel
theorem dX12_lacks_4 : decode cX12_lacks 4 = .ok (.ifCond .ne 7, 3) := by decide +kernel
theorem dX12_lacks_7 : decode cX12_lacks 7 = .ok (.iconst 1, 1) := by decide +kernel
theorem dX12_lacks_8 : decode cX12_lacks 8 = .ok (.goto 4, 3) := by decide +kernel
theorem dX12_lacks_11 : decode cX12_lacks 11 = .ok (.iconst 0, 1) := by decide +kernel
theorem dX12_lacks_12 : decode cX12_lacks 12 = .ok (.ireturn, 1) := by decide +kernel
theorem dX12_isSingle_0 : decode cX12_isSingle 0 = .ok (.iload_n 1, 1) := by decide +kernel
theorem dX12_isSingle_1 : decode cX12_isSingle 1 = .ok (.i2l, 1) := by decide +kernel
theorem dX12_isSingle_2 : decode cX12_isSingle 2 = .ok (.lconst 0, 1) := by decide +kernel
theorem dX12_isSingle_3 : decode cX12_isSingle 3 = .ok (.aload_n 0, 1) := by decide +kernel
theorem dX12_isSingle_4 : decode cX12_isSingle 4 = .ok (.getfield 85, 3) := by decide +kernel
theorem dX12_isSingle_7 : decode cX12_isSingle 7 = .ok (.iconst 1, 1) := by decide +kernel
theorem dX12_isSingle_8 : decode cX12_isSingle 8 = .ok (.isub, 1) := by decide +kernel
theorem dX12_isSingle_9 : decode cX12_isSingle 9 = .ok (.i2l, 1) := by decide +kernel
theorem dX12_isSingle_10 : decode cX12_isSingle 10 = .ok (.invokestatic 58, 3) := by decide +kernel
theorem dX12_isSingle_13 : decode cX12_isSingle 13 = .ok (.ireturn, 1) := by decide +kernel
theorem dX12_areTwo_0 : decode cX12_areTwo 0 = .ok (.aload_n 0, 1) := by decide +kernel
theorem dX12_areTwo_1 : decode cX12_areTwo 1 = .ok (.iload_n 1, 1) := by decide +kernel
theorem dX12_areTwo_2 : decode cX12_areTwo 2 = .ok (.invokevirtual 106, 3) := by decide +kernel
theorem dX12_areTwo_5 : decode cX12_areTwo 5 = .ok (.ifCond .eq 20, 3) := by decide +kernel
theorem dX12_areTwo_8 : decode cX12_areTwo 8 = .ok (.aload_n 0, 1) := by decide +kernel
theorem dX12_areTwo_9 : decode cX12_areTwo 9 = .ok (.iload_n 2, 1) := by decide +kernel
theorem dX12_areTwo_10 : decode cX12_areTwo 10 = .ok (.invokevirtual 106, 3) := by decide +kernel
theorem dX12_areTwo_13 : decode cX12_areTwo 13 = .ok (.ifCond .eq 12, 3) := by decide +kernel
theorem dX12_areTwo_16 : decode cX12_areTwo 16 = .ok (.iload_n 1, 1) := by decide +kernel
theorem dX12_areTwo_17 : decode cX12_areTwo 17 = .ok (.iload_n 2, 1) := by decide +kernel
theorem dX12_areTwo_18 : decode cX12_areTwo 18 = .ok (.if_icmp .eq 7, 3) := by decide +kernel
theorem dX12_areTwo_21 : decode cX12_areTwo 21 = .ok (.iconst 1, 1) := by decide +kernel
theorem dX12_areTwo_22 : decode cX12_areTwo 22 = .ok (.goto 4, 3) := by decide +kernel
theorem dX12_areTwo_25 : decode cX12_areTwo 25 = .ok (.iconst 0, 1) := by decide +kernel
theorem dX12_areTwo_26 : decode cX12_areTwo 26 = .ok (.ireturn, 1) := by decide +kernel
theorem dX12_isGlove_0 : decode cX12_isGlove 0 = .ok (.aload_n 0, 1) := by decide +kernel
theorem dX12_isGlove_1 : decode cX12_isGlove 1 = .ok (.getfield 13, 3) := by decide +kernel
theorem dX12_isGlove_4 : decode cX12_isGlove 4 = .ok (.iconst 2, 1) := by decide +kernel
theorem dX12_isGlove_5 : decode cX12_isGlove 5 = .ok (.iload_n 1, 1) := by decide +kernel
theorem dX12_isGlove_6 : decode cX12_isGlove 6 = .ok (.imul, 1) := by decide +kernel
theorem dX12_isGlove_7 : decode cX12_isGlove 7 = .ok (.iaload, 1) := by decide +kernel
theorem dX12_isGlove_8 : decode cX12_isGlove 8 = .ok (.iconst 1, 1) := by decide +kernel
theorem dX12_isGlove_9 : decode cX12_isGlove 9 = .ok (.if_icmp .eq 15, 3) := by decide +kernel
theorem dX12_isGlove_12 : decode cX12_isGlove 12 = .ok (.aload_n 0, 1) := by decide +kernel
theorem dX12_isGlove_13 : decode cX12_isGlove 13 = .ok (.getfield 13, 3) := by decide +kernel
theorem dX12_isGlove_16 : decode cX12_isGlove 16 = .ok (.iconst 2, 1) := by decide +kernel
theorem dX12_isGlove_17 : decode cX12_isGlove 17 = .ok (.iload_n 1, 1) := by decide +kernel
theorem dX12_isGlove_18 : decode cX12_isGlove 18 = .ok (.imul, 1) := by decide +kernel
theorem dX12_isGlove_19 : decode cX12_isGlove 19 = .ok (.iaload, 1) := by decide +kernel
theorem dX12_isGlove_20 : decode cX12_isGlove 20 = .ok (.iconst 4, 1) := by decide +kernel
theorem dX12_isGlove_21 : decode cX12_isGlove 21 = .ok (.if_icmp .ne 7, 3) := by decide +kernel
theorem dX12_isGlove_24 : decode cX12_isGlove 24 = .ok (.iconst 1, 1) := by decide +kernel
theorem dX12_isGlove_25 : decode cX12_isGlove 25 = .ok (.goto 4, 3) := by decide +kernel
theorem dX12_isGlove_28 : decode cX12_isGlove 28 = .ok (.iconst 0, 1) := by decide +kernel
theorem dX12_isGlove_29 : decode cX12_isGlove 29 = .ok (.ireturn, 1) := by decide +kernel
theorem dX12_takes_0 : decode cX12_takes 0 = .ok (.aload_n 0, 1) := by decide +kernel
theorem dX12_takes_1 : decode cX12_takes 1 = .ok (.getfield 13, 3) := by decide +kernel
theorem dX12_takes_4 : decode cX12_takes 4 = .ok (.iconst 2, 1) := by decide +kernel
theorem dX12_takes_5 : decode cX12_takes 5 = .ok (.iload_n 1, 1) := by decide +kernel
theorem dX12_takes_6 : decode cX12_takes 6 = .ok (.imul, 1) := by decide +kernel
theorem dX12_takes_7 : decode cX12_takes 7 = .ok (.iconst 1, 1) := by decide +kernel
theorem dX12_takes_8 : decode cX12_takes 8 = .ok (.iadd, 1) := by decide +kernel
theorem dX12_takes_9 : decode cX12_takes 9 = .ok (.iaload, 1) := by decide +kernel
theorem dX12_takes_10 : decode cX12_takes 10 = .ok (.aload_n 0, 1) := by decide +kernel
theorem dX12_takes_11 : decode cX12_takes 11 = .ok (.getfield 13, 3) := by decide +kernel
theorem dX12_takes_14 : decode cX12_takes 14 = .ok (.iconst 2, 1) := by decide +kernel
theorem dX12_takes_15 : decode cX12_takes 15 = .ok (.iload_n 2, 1) := by decide +kernel
theorem dX12_takes_16 : decode cX12_takes 16 = .ok (.imul, 1) := by decide +kernel
theorem dX12_takes_17 : decode cX12_takes 17 = .ok (.iconst 1, 1) := by decide +kernel
theorem dX12_takes_18 : decode cX12_takes 18 = .ok (.iadd, 1) := by decide +kernel
theorem dX12_takes_19 : decode cX12_takes 19 = .ok (.iaload, 1) := by decide +kernel
theorem dX12_takes_20 : decode cX12_takes 20 = .ok (.if_icmp .eq 7, 3) := by decide +kernel
theorem dX12_takes_23 : decode cX12_takes 23 = .ok (.iconst 1, 1) := by decide +kernel
theorem dX12_takes_24 : decode cX12_takes 24 = .ok (.goto 4, 3) := by decide +kernel
theorem dX12_takes_27 : decode cX12_takes 27 = .ok (.iconst 0, 1) := by decide +kernel
theorem dX12_takes_28 : decode cX12_takes 28 = .ok (.istore_n 3, 1) := by decide +kernel
theorem dX12_takes_29 : decode cX12_takes 29 = .ok (.aload_n 0, 1) := by decide +kernel
theorem dX12_takes_30 : decode cX12_takes 30 = .ok (.getfield 13, 3) := by decide +kernel
theorem dX12_takes_33 : decode cX12_takes 33 = .ok (.iconst 2, 1) := by decide +kernel
theorem dX12_takes_34 : decode cX12_takes 34 = .ok (.iload_n 1, 1) := by decide +kernel
theorem dX12_takes_35 : decode cX12_takes 35 = .ok (.imul, 1) := by decide +kernel
theorem dX12_takes_36 : decode cX12_takes 36 = .ok (.iaload, 1) := by decide +kernel
theorem dX12_takes_37 : decode cX12_takes 37 = .ok (.tableswitch 92 1 4 #[31, 49, 67, 31], 31) := by decide +kernel
theorem dX12_takes_68 : decode cX12_takes 68 = .ok (.iload_n 3, 1) := by decide +kernel
theorem dX12_takes_69 : decode cX12_takes 69 = .ok (.ifCond .eq 15, 3) := by decide +kernel
theorem dX12_takes_72 : decode cX12_takes 72 = .ok (.aload_n 0, 1) := by decide +kernel
theorem dX12_takes_73 : decode cX12_takes 73 = .ok (.iload_n 2, 1) := by decide +kernel
theorem dX12_takes_74 : decode cX12_takes 74 = .ok (.invokevirtual 110, 3) := by decide +kernel
theorem dX12_takes_77 : decode cX12_takes 77 = .ok (.ifCond .eq 7, 3) := by decide +kernel
theorem dX12_takes_80 : decode cX12_takes 80 = .ok (.iconst 1, 1) := by decide +kernel
theorem dX12_takes_81 : decode cX12_takes 81 = .ok (.goto 4, 3) := by decide +kernel
theorem dX12_takes_84 : decode cX12_takes 84 = .ok (.iconst 0, 1) := by decide +kernel
theorem dX12_takes_85 : decode cX12_takes 85 = .ok (.ireturn, 1) := by decide +kernel
theorem dX12_takes_86 : decode cX12_takes 86 = .ok (.aload_n 0, 1) := by decide +kernel
theorem dX12_takes_87 : decode cX12_takes 87 = .ok (.getfield 13, 3) := by decide +kernel
theorem dX12_takes_90 : decode cX12_takes 90 = .ok (.iconst 2, 1) := by decide +kernel
theorem dX12_takes_91 : decode cX12_takes 91 = .ok (.iload_n 2, 1) := by decide +kernel
theorem dX12_takes_92 : decode cX12_takes 92 = .ok (.imul, 1) := by decide +kernel
theorem dX12_takes_93 : decode cX12_takes 93 = .ok (.iaload, 1) := by decide +kernel
theorem dX12_takes_94 : decode cX12_takes 94 = .ok (.iconst 2, 1) := by decide +kernel
theorem dX12_takes_95 : decode cX12_takes 95 = .ok (.if_icmp .ne 7, 3) := by decide +kernel
theorem dX12_takes_98 : decode cX12_takes 98 = .ok (.iconst 1, 1) := by decide +kernel
theorem dX12_takes_99 : decode cX12_takes 99 = .ok (.goto 4, 3) := by decide +kernel
theorem dX12_takes_102 : decode cX12_takes 102 = .ok (.iconst 0, 1) := by decide +kernel
theorem dX12_takes_103 : decode cX12_takes 103 = .ok (.ireturn, 1) := by decide +kernel
theorem dX12_takes_104 : decode cX12_takes 104 = .ok (.iload_n 3, 1) := by decide +kernel
theorem dX12_takes_105 : decode cX12_takes 105 = .ok (.ifCond .eq 22, 3) := by decide +kernel
theorem dX12_takes_108 : decode cX12_takes 108 = .ok (.aload_n 0, 1) := by decide +kernel
theorem dX12_takes_109 : decode cX12_takes 109 = .ok (.getfield 16, 3) := by decide +kernel
theorem dX12_takes_112 : decode cX12_takes 112 = .ok (.iload_n 1, 1) := by decide +kernel
theorem dX12_takes_113 : decode cX12_takes 113 = .ok (.iaload, 1) := by decide +kernel
theorem dX12_takes_114 : decode cX12_takes 114 = .ok (.aload_n 0, 1) := by decide +kernel
theorem dX12_takes_115 : decode cX12_takes 115 = .ok (.getfield 16, 3) := by decide +kernel
theorem dX12_takes_118 : decode cX12_takes 118 = .ok (.iload_n 2, 1) := by decide +kernel
theorem dX12_takes_119 : decode cX12_takes 119 = .ok (.iaload, 1) := by decide +kernel
theorem dX12_takes_120 : decode cX12_takes 120 = .ok (.if_icmp .ne 7, 3) := by decide +kernel
theorem dX12_takes_123 : decode cX12_takes 123 = .ok (.iconst 1, 1) := by decide +kernel
theorem dX12_takes_124 : decode cX12_takes 124 = .ok (.goto 4, 3) := by decide +kernel
theorem dX12_takes_127 : decode cX12_takes 127 = .ok (.iconst 0, 1) := by decide +kernel
theorem dX12_takes_128 : decode cX12_takes 128 = .ok (.ireturn, 1) := by decide +kernel
theorem dX12_takes_129 : decode cX12_takes 129 = .ok (.iload_n 3, 1) := by decide +kernel
theorem dX12_takes_130 : decode cX12_takes 130 = .ok (.ireturn, 1) := by decide +kernel
theorem dX12_mayBe_0 : decode cX12_mayBe 0 = .ok (.iload_n 1, 1) := by decide +kernel
theorem dX12_mayBe_1 : decode cX12_mayBe 1 = .ok (.iload_n 2, 1) := by decide +kernel
theorem dX12_mayBe_2 : decode cX12_mayBe 2 = .ok (.if_icmp .eq 25, 3) := by decide +kernel
theorem dX12_mayBe_5 : decode cX12_mayBe 5 = .ok (.aload_n 0, 1) := by decide +kernel
theorem dX12_mayBe_6 : decode cX12_mayBe 6 = .ok (.iload_n 1, 1) := by decide +kernel
theorem dX12_mayBe_7 : decode cX12_mayBe 7 = .ok (.iload_n 2, 1) := by decide +kernel
theorem dX12_mayBe_8 : decode cX12_mayBe 8 = .ok (.invokevirtual 113, 3) := by decide +kernel
theorem dX12_mayBe_11 : decode cX12_mayBe 11 = .ok (.ifCond .eq 16, 3) := by decide +kernel
theorem dX12_mayBe_14 : decode cX12_mayBe 14 = .ok (.aload_n 0, 1) := by decide +kernel
theorem dX12_mayBe_15 : decode cX12_mayBe 15 = .ok (.iload_n 2, 1) := by decide +kernel
theorem dX12_mayBe_16 : decode cX12_mayBe 16 = .ok (.iload_n 1, 1) := by decide +kernel
theorem dX12_mayBe_17 : decode cX12_mayBe 17 = .ok (.invokevirtual 113, 3) := by decide +kernel
theorem dX12_mayBe_20 : decode cX12_mayBe 20 = .ok (.ifCond .eq 7, 3) := by decide +kernel
theorem dX12_mayBe_23 : decode cX12_mayBe 23 = .ok (.iconst 1, 1) := by decide +kernel
theorem dX12_mayBe_24 : decode cX12_mayBe 24 = .ok (.goto 4, 3) := by decide +kernel
theorem dX12_mayBe_27 : decode cX12_mayBe 27 = .ok (.iconst 0, 1) := by decide +kernel
theorem dX12_mayBe_28 : decode cX12_mayBe 28 = .ok (.ireturn, 1) := by decide +kernel
theorem dX12_apartOf_0 : decode cX12_apartOf 0 = .ok (.aload_n 0, 1) := by decide +kernel
theorem dX12_apartOf_1 : decode cX12_apartOf 1 = .ok (.getfield 16, 3) := by decide +kernel
theorem dX12_apartOf_4 : decode cX12_apartOf 4 = .ok (.iload_n 1, 1) := by decide +kernel
theorem dX12_apartOf_5 : decode cX12_apartOf 5 = .ok (.iaload, 1) := by decide +kernel
theorem dX12_apartOf_6 : decode cX12_apartOf 6 = .ok (.aload_n 0, 1) := by decide +kernel
theorem dX12_apartOf_7 : decode cX12_apartOf 7 = .ok (.getfield 16, 3) := by decide +kernel
theorem dX12_apartOf_10 : decode cX12_apartOf 10 = .ok (.iload_n 2, 1) := by decide +kernel
theorem dX12_apartOf_11 : decode cX12_apartOf 11 = .ok (.iaload, 1) := by decide +kernel
theorem dX12_apartOf_12 : decode cX12_apartOf 12 = .ok (.invokestatic 116, 3) := by decide +kernel
theorem dX12_apartOf_15 : decode cX12_apartOf 15 = .ok (.istore_n 3, 1) := by decide +kernel
theorem dX12_apartOf_16 : decode cX12_apartOf 16 = .ok (.aload_n 0, 1) := by decide +kernel
theorem dX12_apartOf_17 : decode cX12_apartOf 17 = .ok (.getfield 13, 3) := by decide +kernel
theorem dX12_apartOf_20 : decode cX12_apartOf 20 = .ok (.iconst 2, 1) := by decide +kernel
theorem dX12_apartOf_21 : decode cX12_apartOf 21 = .ok (.iload_n 1, 1) := by decide +kernel
theorem dX12_apartOf_22 : decode cX12_apartOf 22 = .ok (.imul, 1) := by decide +kernel
theorem dX12_apartOf_23 : decode cX12_apartOf 23 = .ok (.iaload, 1) := by decide +kernel
theorem dX12_apartOf_24 : decode cX12_apartOf 24 = .ok (.iconst 4, 1) := by decide +kernel
theorem dX12_apartOf_25 : decode cX12_apartOf 25 = .ok (.if_icmp .ne 9, 3) := by decide +kernel
theorem dX12_apartOf_28 : decode cX12_apartOf 28 = .ok (.iload_n 3, 1) := by decide +kernel
theorem dX12_apartOf_29 : decode cX12_apartOf 29 = .ok (.iconst 2, 1) := by decide +kernel
theorem dX12_apartOf_30 : decode cX12_apartOf 30 = .ok (.idiv, 1) := by decide +kernel
theorem dX12_apartOf_31 : decode cX12_apartOf 31 = .ok (.goto 4, 3) := by decide +kernel
theorem dX12_apartOf_34 : decode cX12_apartOf 34 = .ok (.iload_n 3, 1) := by decide +kernel
theorem dX12_apartOf_35 : decode cX12_apartOf 35 = .ok (.ireturn, 1) := by decide +kernel
theorem dX12_likenessOf_0 : decode cX12_likenessOf 0 = .ok (.aload_n 0, 1) := by decide +kernel
theorem dX12_likenessOf_1 : decode cX12_likenessOf 1 = .ok (.iload_n 1, 1) := by decide +kernel
theorem dX12_likenessOf_2 : decode cX12_likenessOf 2 = .ok (.iload_n 2, 1) := by decide +kernel
theorem dX12_likenessOf_3 : decode cX12_likenessOf 3 = .ok (.invokevirtual 120, 3) := by decide +kernel
theorem dX12_likenessOf_6 : decode cX12_likenessOf 6 = .ok (.ifCond .eq 22, 3) := by decide +kernel
theorem dX12_likenessOf_9 : decode cX12_likenessOf 9 = .ok (.bipush 18, 2) := by decide +kernel
theorem dX12_likenessOf_11 : decode cX12_likenessOf 11 = .ok (.aload_n 0, 1) := by decide +kernel
theorem dX12_likenessOf_12 : decode cX12_likenessOf 12 = .ok (.iload_n 1, 1) := by decide +kernel
theorem dX12_likenessOf_13 : decode cX12_likenessOf 13 = .ok (.iload_n 2, 1) := by decide +kernel
theorem dX12_likenessOf_14 : decode cX12_likenessOf 14 = .ok (.invokevirtual 123, 3) := by decide +kernel
theorem dX12_likenessOf_17 : decode cX12_likenessOf 17 = .ok (.isub, 1) := by decide +kernel
theorem dX12_likenessOf_18 : decode cX12_likenessOf 18 = .ok (.aload_n 0, 1) := by decide +kernel
theorem dX12_likenessOf_19 : decode cX12_likenessOf 19 = .ok (.iload_n 2, 1) := by decide +kernel
theorem dX12_likenessOf_20 : decode cX12_likenessOf 20 = .ok (.iload_n 1, 1) := by decide +kernel
theorem dX12_likenessOf_21 : decode cX12_likenessOf 21 = .ok (.invokevirtual 123, 3) := by decide +kernel
theorem dX12_likenessOf_24 : decode cX12_likenessOf 24 = .ok (.isub, 1) := by decide +kernel
theorem dX12_likenessOf_25 : decode cX12_likenessOf 25 = .ok (.goto 4, 3) := by decide +kernel
theorem dX12_likenessOf_28 : decode cX12_likenessOf 28 = .ok (.iconst (-1), 1) := by decide +kernel
theorem dX12_likenessOf_29 : decode cX12_likenessOf 29 = .ok (.ireturn, 1) := by decide +kernel
theorem dX12_prefers_0 : decode cX12_prefers 0 = .ok (.iload_n 3, 1) := by decide +kernel
theorem dX12_prefers_1 : decode cX12_prefers 1 = .ok (.iconst (-1), 1) := by decide +kernel
theorem dX12_prefers_2 : decode cX12_prefers 2 = .ok (.if_icmp .ne 5, 3) := by decide +kernel
theorem dX12_prefers_5 : decode cX12_prefers 5 = .ok (.iconst 1, 1) := by decide +kernel
theorem dX12_prefers_6 : decode cX12_prefers 6 = .ok (.ireturn, 1) := by decide +kernel
theorem dX12_prefers_7 : decode cX12_prefers 7 = .ok (.aload_n 0, 1) := by decide +kernel
theorem dX12_prefers_8 : decode cX12_prefers 8 = .ok (.iload_n 1, 1) := by decide +kernel
theorem dX12_prefers_9 : decode cX12_prefers 9 = .ok (.iload_n 2, 1) := by decide +kernel
theorem dX12_prefers_10 : decode cX12_prefers 10 = .ok (.invokevirtual 126, 3) := by decide +kernel
theorem dX12_prefers_13 : decode cX12_prefers 13 = .ok (.aload_n 0, 1) := by decide +kernel
theorem dX12_prefers_14 : decode cX12_prefers 14 = .ok (.iload_n 1, 1) := by decide +kernel
theorem dX12_prefers_15 : decode cX12_prefers 15 = .ok (.iload_n 3, 1) := by decide +kernel
theorem dX12_prefers_16 : decode cX12_prefers 16 = .ok (.invokevirtual 126, 3) := by decide +kernel
theorem dX12_prefers_19 : decode cX12_prefers 19 = .ok (.isub, 1) := by decide +kernel
theorem dX12_prefers_20 : decode cX12_prefers 20 = .ok (.istore 4, 2) := by decide +kernel
theorem dX12_prefers_22 : decode cX12_prefers 22 = .ok (.iload 4, 2) := by decide +kernel
theorem dX12_prefers_24 : decode cX12_prefers 24 = .ok (.ifCond .gt 13, 3) := by decide +kernel
theorem dX12_prefers_27 : decode cX12_prefers 27 = .ok (.iload 4, 2) := by decide +kernel
theorem dX12_prefers_29 : decode cX12_prefers 29 = .ok (.ifCond .ne 12, 3) := by decide +kernel
theorem dX12_prefers_32 : decode cX12_prefers 32 = .ok (.iload_n 2, 1) := by decide +kernel
theorem dX12_prefers_33 : decode cX12_prefers 33 = .ok (.iload_n 3, 1) := by decide +kernel
theorem dX12_prefers_34 : decode cX12_prefers 34 = .ok (.if_icmp .ge 7, 3) := by decide +kernel
theorem dX12_prefers_37 : decode cX12_prefers 37 = .ok (.iconst 1, 1) := by decide +kernel
theorem dX12_prefers_38 : decode cX12_prefers 38 = .ok (.goto 4, 3) := by decide +kernel
theorem dX12_prefers_41 : decode cX12_prefers 41 = .ok (.iconst 0, 1) := by decide +kernel
theorem dX12_prefers_42 : decode cX12_prefers 42 = .ok (.ireturn, 1) := by decide +kernel
theorem dX12_mayBits_0 : decode cX12_mayBits 0 = .ok (.iconst 0, 1) := by decide +kernel
theorem dX12_mayBits_1 : decode cX12_mayBits 1 = .ok (.istore_n 2, 1) := by decide +kernel
theorem dX12_mayBits_2 : decode cX12_mayBits 2 = .ok (.iconst 0, 1) := by decide +kernel
theorem dX12_mayBits_3 : decode cX12_mayBits 3 = .ok (.istore_n 3, 1) := by decide +kernel
theorem dX12_mayBits_4 : decode cX12_mayBits 4 = .ok (.iload_n 3, 1) := by decide +kernel
theorem dX12_mayBits_5 : decode cX12_mayBits 5 = .ok (.aload_n 0, 1) := by decide +kernel
theorem dX12_mayBits_6 : decode cX12_mayBits 6 = .ok (.getfield 85, 3) := by decide +kernel
theorem dX12_mayBits_9 : decode cX12_mayBits 9 = .ok (.if_icmp .ge 28, 3) := by decide +kernel
theorem dX12_mayBits_12 : decode cX12_mayBits 12 = .ok (.iload_n 2, 1) := by decide +kernel
theorem dX12_mayBits_13 : decode cX12_mayBits 13 = .ok (.aload_n 0, 1) := by decide +kernel
theorem dX12_mayBits_14 : decode cX12_mayBits 14 = .ok (.iload_n 1, 1) := by decide +kernel
theorem dX12_mayBits_15 : decode cX12_mayBits 15 = .ok (.iload_n 3, 1) := by decide +kernel
theorem dX12_mayBits_16 : decode cX12_mayBits 16 = .ok (.invokevirtual 120, 3) := by decide +kernel
theorem dX12_mayBits_19 : decode cX12_mayBits 19 = .ok (.ifCond .eq 9, 3) := by decide +kernel
theorem dX12_mayBits_22 : decode cX12_mayBits 22 = .ok (.iconst 1, 1) := by decide +kernel
theorem dX12_mayBits_23 : decode cX12_mayBits 23 = .ok (.iload_n 3, 1) := by decide +kernel
theorem dX12_mayBits_24 : decode cX12_mayBits 24 = .ok (.ishl, 1) := by decide +kernel
theorem dX12_mayBits_25 : decode cX12_mayBits 25 = .ok (.goto 4, 3) := by decide +kernel
theorem dX12_mayBits_28 : decode cX12_mayBits 28 = .ok (.iconst 0, 1) := by decide +kernel
theorem dX12_mayBits_29 : decode cX12_mayBits 29 = .ok (.ior, 1) := by decide +kernel
theorem dX12_mayBits_30 : decode cX12_mayBits 30 = .ok (.istore_n 2, 1) := by decide +kernel
theorem dX12_mayBits_31 : decode cX12_mayBits 31 = .ok (.iinc 3 1, 3) := by decide +kernel
theorem dX12_mayBits_34 : decode cX12_mayBits 34 = .ok (.goto (-30), 3) := by decide +kernel
theorem dX12_mayBits_37 : decode cX12_mayBits 37 = .ok (.iload_n 2, 1) := by decide +kernel
theorem dX12_mayBits_38 : decode cX12_mayBits 38 = .ok (.ireturn, 1) := by decide +kernel
theorem dX12_preferredOf_0 : decode cX12_preferredOf 0 = .ok (.iconst (-1), 1) := by decide +kernel
theorem dX12_preferredOf_1 : decode cX12_preferredOf 1 = .ok (.istore_n 2, 1) := by decide +kernel
theorem dX12_preferredOf_2 : decode cX12_preferredOf 2 = .ok (.iconst 0, 1) := by decide +kernel
theorem dX12_preferredOf_3 : decode cX12_preferredOf 3 = .ok (.istore_n 3, 1) := by decide +kernel
theorem dX12_preferredOf_4 : decode cX12_preferredOf 4 = .ok (.iload_n 3, 1) := by decide +kernel
theorem dX12_preferredOf_5 : decode cX12_preferredOf 5 = .ok (.aload_n 0, 1) := by decide +kernel
theorem dX12_preferredOf_6 : decode cX12_preferredOf 6 = .ok (.getfield 85, 3) := by decide +kernel
theorem dX12_preferredOf_9 : decode cX12_preferredOf 9 = .ok (.if_icmp .ge 34, 3) := by decide +kernel
theorem dX12_preferredOf_12 : decode cX12_preferredOf 12 = .ok (.aload_n 0, 1) := by decide +kernel
theorem dX12_preferredOf_13 : decode cX12_preferredOf 13 = .ok (.iload_n 1, 1) := by decide +kernel
theorem dX12_preferredOf_14 : decode cX12_preferredOf 14 = .ok (.iload_n 3, 1) := by decide +kernel
theorem dX12_preferredOf_15 : decode cX12_preferredOf 15 = .ok (.invokevirtual 120, 3) := by decide +kernel
theorem dX12_preferredOf_18 : decode cX12_preferredOf 18 = .ok (.ifCond .eq 17, 3) := by decide +kernel
theorem dX12_preferredOf_21 : decode cX12_preferredOf 21 = .ok (.aload_n 0, 1) := by decide +kernel
theorem dX12_preferredOf_22 : decode cX12_preferredOf 22 = .ok (.iload_n 1, 1) := by decide +kernel
theorem dX12_preferredOf_23 : decode cX12_preferredOf 23 = .ok (.iload_n 3, 1) := by decide +kernel
theorem dX12_preferredOf_24 : decode cX12_preferredOf 24 = .ok (.iload_n 2, 1) := by decide +kernel
theorem dX12_preferredOf_25 : decode cX12_preferredOf 25 = .ok (.invokevirtual 129, 3) := by decide +kernel
theorem dX12_preferredOf_28 : decode cX12_preferredOf 28 = .ok (.ifCond .eq 7, 3) := by decide +kernel
theorem dX12_preferredOf_31 : decode cX12_preferredOf 31 = .ok (.iload_n 3, 1) := by decide +kernel
theorem dX12_preferredOf_32 : decode cX12_preferredOf 32 = .ok (.goto 4, 3) := by decide +kernel
theorem dX12_preferredOf_35 : decode cX12_preferredOf 35 = .ok (.iload_n 2, 1) := by decide +kernel
theorem dX12_preferredOf_36 : decode cX12_preferredOf 36 = .ok (.istore_n 2, 1) := by decide +kernel
theorem dX12_preferredOf_37 : decode cX12_preferredOf 37 = .ok (.iinc 3 1, 3) := by decide +kernel
theorem dX12_preferredOf_40 : decode cX12_preferredOf 40 = .ok (.goto (-36), 3) := by decide +kernel
theorem dX12_preferredOf_43 : decode cX12_preferredOf 43 = .ok (.iload_n 2, 1) := by decide +kernel
theorem dX12_preferredOf_44 : decode cX12_preferredOf 44 = .ok (.ireturn, 1) := by decide +kernel
theorem dX12_seenFrom_0 : decode cX12_seenFrom 0 = .ok (.iconst 0, 1) := by decide +kernel
theorem dX12_seenFrom_1 : decode cX12_seenFrom 1 = .ok (.istore_n 3, 1) := by decide +kernel
theorem dX12_seenFrom_2 : decode cX12_seenFrom 2 = .ok (.iconst 0, 1) := by decide +kernel
theorem dX12_seenFrom_3 : decode cX12_seenFrom 3 = .ok (.istore 4, 2) := by decide +kernel
theorem dX12_seenFrom_5 : decode cX12_seenFrom 5 = .ok (.iload 4, 2) := by decide +kernel
theorem dX12_seenFrom_7 : decode cX12_seenFrom 7 = .ok (.aload_n 0, 1) := by decide +kernel
theorem dX12_seenFrom_8 : decode cX12_seenFrom 8 = .ok (.getfield 85, 3) := by decide +kernel
theorem dX12_seenFrom_11 : decode cX12_seenFrom 11 = .ok (.if_icmp .ge 53, 3) := by decide +kernel
theorem dX12_seenFrom_14 : decode cX12_seenFrom 14 = .ok (.iload_n 3, 1) := by decide +kernel
theorem dX12_seenFrom_15 : decode cX12_seenFrom 15 = .ok (.aload_n 0, 1) := by decide +kernel
theorem dX12_seenFrom_16 : decode cX12_seenFrom 16 = .ok (.iload_n 1, 1) := by decide +kernel
theorem dX12_seenFrom_17 : decode cX12_seenFrom 17 = .ok (.iload 4, 2) := by decide +kernel
theorem dX12_seenFrom_19 : decode cX12_seenFrom 19 = .ok (.invokevirtual 120, 3) := by decide +kernel
theorem dX12_seenFrom_22 : decode cX12_seenFrom 22 = .ok (.ifCond .eq 33, 3) := by decide +kernel
theorem dX12_seenFrom_25 : decode cX12_seenFrom 25 = .ok (.aload_n 0, 1) := by decide +kernel
theorem dX12_seenFrom_26 : decode cX12_seenFrom 26 = .ok (.getfield 22, 3) := by decide +kernel
theorem dX12_seenFrom_29 : decode cX12_seenFrom 29 = .ok (.iload 4, 2) := by decide +kernel
theorem dX12_seenFrom_31 : decode cX12_seenFrom 31 = .ok (.iaload, 1) := by decide +kernel
theorem dX12_seenFrom_32 : decode cX12_seenFrom 32 = .ok (.iconst (-1), 1) := by decide +kernel
theorem dX12_seenFrom_33 : decode cX12_seenFrom 33 = .ok (.if_icmp .ne 22, 3) := by decide +kernel
theorem dX12_seenFrom_36 : decode cX12_seenFrom 36 = .ok (.aload_n 0, 1) := by decide +kernel
theorem dX12_seenFrom_37 : decode cX12_seenFrom 37 = .ok (.getfield 19, 3) := by decide +kernel
theorem dX12_seenFrom_40 : decode cX12_seenFrom 40 = .ok (.iload 4, 2) := by decide +kernel
theorem dX12_seenFrom_42 : decode cX12_seenFrom 42 = .ok (.iaload, 1) := by decide +kernel
theorem dX12_seenFrom_43 : decode cX12_seenFrom 43 = .ok (.iload_n 2, 1) := by decide +kernel
theorem dX12_seenFrom_44 : decode cX12_seenFrom 44 = .ok (.invokestatic 116, 3) := by decide +kernel
theorem dX12_seenFrom_47 : decode cX12_seenFrom 47 = .ok (.iconst 2, 1) := by decide +kernel
theorem dX12_seenFrom_48 : decode cX12_seenFrom 48 = .ok (.if_icmp .ge 7, 3) := by decide +kernel
theorem dX12_seenFrom_51 : decode cX12_seenFrom 51 = .ok (.iconst 1, 1) := by decide +kernel
theorem dX12_seenFrom_52 : decode cX12_seenFrom 52 = .ok (.goto 4, 3) := by decide +kernel
theorem dX12_seenFrom_55 : decode cX12_seenFrom 55 = .ok (.iconst 0, 1) := by decide +kernel
theorem dX12_seenFrom_56 : decode cX12_seenFrom 56 = .ok (.iadd, 1) := by decide +kernel
theorem dX12_seenFrom_57 : decode cX12_seenFrom 57 = .ok (.istore_n 3, 1) := by decide +kernel
theorem dX12_seenFrom_58 : decode cX12_seenFrom 58 = .ok (.iinc 4 1, 3) := by decide +kernel
theorem dX12_seenFrom_61 : decode cX12_seenFrom 61 = .ok (.goto (-56), 3) := by decide +kernel
theorem dX12_seenFrom_64 : decode cX12_seenFrom 64 = .ok (.iload_n 3, 1) := by decide +kernel
theorem dX12_seenFrom_65 : decode cX12_seenFrom 65 = .ok (.ireturn, 1) := by decide +kernel
theorem dX12_spikeOf_0 : decode cX12_spikeOf 0 = .ok (.iconst 0, 1) := by decide +kernel
theorem dX12_spikeOf_1 : decode cX12_spikeOf 1 = .ok (.istore_n 3, 1) := by decide +kernel
theorem dX12_spikeOf_2 : decode cX12_spikeOf 2 = .ok (.iconst 1, 1) := by decide +kernel
theorem dX12_spikeOf_3 : decode cX12_spikeOf 3 = .ok (.istore 4, 2) := by decide +kernel
theorem dX12_spikeOf_5 : decode cX12_spikeOf 5 = .ok (.iload 4, 2) := by decide +kernel
theorem dX12_spikeOf_7 : decode cX12_spikeOf 7 = .ok (.bipush 6, 2) := by decide +kernel
theorem dX12_spikeOf_9 : decode cX12_spikeOf 9 = .ok (.if_icmp .ge 32, 3) := by decide +kernel
theorem dX12_spikeOf_12 : decode cX12_spikeOf 12 = .ok (.aload_n 0, 1) := by decide +kernel
theorem dX12_spikeOf_13 : decode cX12_spikeOf 13 = .ok (.iload_n 1, 1) := by decide +kernel
theorem dX12_spikeOf_14 : decode cX12_spikeOf 14 = .ok (.iload 4, 2) := by decide +kernel
theorem dX12_spikeOf_16 : decode cX12_spikeOf 16 = .ok (.invokevirtual 133, 3) := by decide +kernel
theorem dX12_spikeOf_19 : decode cX12_spikeOf 19 = .ok (.aload_n 0, 1) := by decide +kernel
theorem dX12_spikeOf_20 : decode cX12_spikeOf 20 = .ok (.iload_n 1, 1) := by decide +kernel
theorem dX12_spikeOf_21 : decode cX12_spikeOf 21 = .ok (.iload_n 3, 1) := by decide +kernel
theorem dX12_spikeOf_22 : decode cX12_spikeOf 22 = .ok (.invokevirtual 133, 3) := by decide +kernel
theorem dX12_spikeOf_25 : decode cX12_spikeOf 25 = .ok (.if_icmp .le 8, 3) := by decide +kernel
theorem dX12_spikeOf_28 : decode cX12_spikeOf 28 = .ok (.iload 4, 2) := by decide +kernel
theorem dX12_spikeOf_30 : decode cX12_spikeOf 30 = .ok (.goto 4, 3) := by decide +kernel
theorem dX12_spikeOf_33 : decode cX12_spikeOf 33 = .ok (.iload_n 3, 1) := by decide +kernel
theorem dX12_spikeOf_34 : decode cX12_spikeOf 34 = .ok (.istore_n 3, 1) := by decide +kernel
theorem dX12_spikeOf_35 : decode cX12_spikeOf 35 = .ok (.iinc 4 1, 3) := by decide +kernel
theorem dX12_spikeOf_38 : decode cX12_spikeOf 38 = .ok (.goto (-33), 3) := by decide +kernel
theorem dX12_spikeOf_41 : decode cX12_spikeOf 41 = .ok (.iload_n 2, 1) := by decide +kernel
theorem dX12_spikeOf_42 : decode cX12_spikeOf 42 = .ok (.bipush 7, 2) := by decide +kernel
theorem dX12_spikeOf_44 : decode cX12_spikeOf 44 = .ok (.if_icmp .ne 7, 3) := by decide +kernel
theorem dX12_spikeOf_47 : decode cX12_spikeOf 47 = .ok (.iload_n 3, 1) := by decide +kernel
theorem dX12_spikeOf_48 : decode cX12_spikeOf 48 = .ok (.goto 9, 3) := by decide +kernel
theorem dX12_spikeOf_51 : decode cX12_spikeOf 51 = .ok (.aload_n 0, 1) := by decide +kernel
theorem dX12_spikeOf_52 : decode cX12_spikeOf 52 = .ok (.iload_n 1, 1) := by decide +kernel
theorem dX12_spikeOf_53 : decode cX12_spikeOf 53 = .ok (.iload_n 3, 1) := by decide +kernel
theorem dX12_spikeOf_54 : decode cX12_spikeOf 54 = .ok (.invokevirtual 133, 3) := by decide +kernel
theorem dX12_spikeOf_57 : decode cX12_spikeOf 57 = .ok (.ireturn, 1) := by decide +kernel
theorem dX12_tellSingle_0 : decode cX12_tellSingle 0 = .ok (.iload_n 2, 1) := by decide +kernel
theorem dX12_tellSingle_1 : decode cX12_tellSingle 1 = .ok (.tableswitch 122 0 10 #[59, 59, 70, 77, 84, 91, 97, 103, 103, 110, 116], 59) := by decide +kernel
theorem dX12_tellSingle_60 : decode cX12_tellSingle 60 = .ok (.aload_n 0, 1) := by decide +kernel
theorem dX12_tellSingle_61 : decode cX12_tellSingle 61 = .ok (.getfield 13, 3) := by decide +kernel
theorem dX12_tellSingle_64 : decode cX12_tellSingle 64 = .ok (.iconst 2, 1) := by decide +kernel
theorem dX12_tellSingle_65 : decode cX12_tellSingle 65 = .ok (.iload_n 1, 1) := by decide +kernel
theorem dX12_tellSingle_66 : decode cX12_tellSingle 66 = .ok (.imul, 1) := by decide +kernel
theorem dX12_tellSingle_67 : decode cX12_tellSingle 67 = .ok (.iload_n 2, 1) := by decide +kernel
theorem dX12_tellSingle_68 : decode cX12_tellSingle 68 = .ok (.iadd, 1) := by decide +kernel
theorem dX12_tellSingle_69 : decode cX12_tellSingle 69 = .ok (.iaload, 1) := by decide +kernel
theorem dX12_tellSingle_70 : decode cX12_tellSingle 70 = .ok (.ireturn, 1) := by decide +kernel
theorem dX12_tellSingle_71 : decode cX12_tellSingle 71 = .ok (.aload_n 0, 1) := by decide +kernel
theorem dX12_tellSingle_72 : decode cX12_tellSingle 72 = .ok (.getfield 16, 3) := by decide +kernel
theorem dX12_tellSingle_75 : decode cX12_tellSingle 75 = .ok (.iload_n 1, 1) := by decide +kernel
theorem dX12_tellSingle_76 : decode cX12_tellSingle 76 = .ok (.iaload, 1) := by decide +kernel
theorem dX12_tellSingle_77 : decode cX12_tellSingle 77 = .ok (.ireturn, 1) := by decide +kernel
theorem dX12_tellSingle_78 : decode cX12_tellSingle 78 = .ok (.aload_n 0, 1) := by decide +kernel
theorem dX12_tellSingle_79 : decode cX12_tellSingle 79 = .ok (.getfield 19, 3) := by decide +kernel
theorem dX12_tellSingle_82 : decode cX12_tellSingle 82 = .ok (.iload_n 1, 1) := by decide +kernel
theorem dX12_tellSingle_83 : decode cX12_tellSingle 83 = .ok (.iaload, 1) := by decide +kernel
theorem dX12_tellSingle_84 : decode cX12_tellSingle 84 = .ok (.ireturn, 1) := by decide +kernel
theorem dX12_tellSingle_85 : decode cX12_tellSingle 85 = .ok (.aload_n 0, 1) := by decide +kernel
theorem dX12_tellSingle_86 : decode cX12_tellSingle 86 = .ok (.getfield 22, 3) := by decide +kernel
theorem dX12_tellSingle_89 : decode cX12_tellSingle 89 = .ok (.iload_n 1, 1) := by decide +kernel
theorem dX12_tellSingle_90 : decode cX12_tellSingle 90 = .ok (.iaload, 1) := by decide +kernel
theorem dX12_tellSingle_91 : decode cX12_tellSingle 91 = .ok (.ireturn, 1) := by decide +kernel
theorem dX12_tellSingle_92 : decode cX12_tellSingle 92 = .ok (.aload_n 0, 1) := by decide +kernel
theorem dX12_tellSingle_93 : decode cX12_tellSingle 93 = .ok (.iload_n 1, 1) := by decide +kernel
theorem dX12_tellSingle_94 : decode cX12_tellSingle 94 = .ok (.invokevirtual 136, 3) := by decide +kernel
theorem dX12_tellSingle_97 : decode cX12_tellSingle 97 = .ok (.ireturn, 1) := by decide +kernel
theorem dX12_tellSingle_98 : decode cX12_tellSingle 98 = .ok (.aload_n 0, 1) := by decide +kernel
theorem dX12_tellSingle_99 : decode cX12_tellSingle 99 = .ok (.iload_n 1, 1) := by decide +kernel
theorem dX12_tellSingle_100 : decode cX12_tellSingle 100 = .ok (.invokevirtual 139, 3) := by decide +kernel
theorem dX12_tellSingle_103 : decode cX12_tellSingle 103 = .ok (.ireturn, 1) := by decide +kernel
theorem dX12_tellSingle_104 : decode cX12_tellSingle 104 = .ok (.aload_n 0, 1) := by decide +kernel
theorem dX12_tellSingle_105 : decode cX12_tellSingle 105 = .ok (.iload_n 1, 1) := by decide +kernel
theorem dX12_tellSingle_106 : decode cX12_tellSingle 106 = .ok (.iload_n 2, 1) := by decide +kernel
theorem dX12_tellSingle_107 : decode cX12_tellSingle 107 = .ok (.invokevirtual 142, 3) := by decide +kernel
theorem dX12_tellSingle_110 : decode cX12_tellSingle 110 = .ok (.ireturn, 1) := by decide +kernel
theorem dX12_tellSingle_111 : decode cX12_tellSingle 111 = .ok (.aload_n 0, 1) := by decide +kernel
theorem dX12_tellSingle_112 : decode cX12_tellSingle 112 = .ok (.iload_n 1, 1) := by decide +kernel
theorem dX12_tellSingle_113 : decode cX12_tellSingle 113 = .ok (.invokevirtual 145, 3) := by decide +kernel
theorem dX12_tellSingle_116 : decode cX12_tellSingle 116 = .ok (.ireturn, 1) := by decide +kernel
theorem dX12_tellSingle_117 : decode cX12_tellSingle 117 = .ok (.aload_n 0, 1) := by decide +kernel
theorem dX12_tellSingle_118 : decode cX12_tellSingle 118 = .ok (.iload_n 1, 1) := by decide +kernel
theorem dX12_tellSingle_119 : decode cX12_tellSingle 119 = .ok (.invokevirtual 148, 3) := by decide +kernel
theorem dX12_tellSingle_122 : decode cX12_tellSingle 122 = .ok (.ireturn, 1) := by decide +kernel
theorem dX12_tellSingle_123 : decode cX12_tellSingle 123 = .ok (.bipush (-102), 2) := by decide +kernel
theorem dX12_tellSingle_125 : decode cX12_tellSingle 125 = .ok (.ireturn, 1) := by decide +kernel
theorem dX12_single_0 : decode cX12_single 0 = .ok (.aload_n 0, 1) := by decide +kernel
theorem dX12_single_1 : decode cX12_single 1 = .ok (.iload_n 1, 1) := by decide +kernel
theorem dX12_single_2 : decode cX12_single 2 = .ok (.invokevirtual 106, 3) := by decide +kernel
theorem dX12_single_5 : decode cX12_single 5 = .ok (.ifCond .eq 12, 3) := by decide +kernel
theorem dX12_single_8 : decode cX12_single 8 = .ok (.aload_n 0, 1) := by decide +kernel
theorem dX12_single_9 : decode cX12_single 9 = .ok (.iload_n 1, 1) := by decide +kernel
theorem dX12_single_10 : decode cX12_single 10 = .ok (.iload_n 2, 1) := by decide +kernel
theorem dX12_single_11 : decode cX12_single 11 = .ok (.invokevirtual 151, 3) := by decide +kernel
theorem dX12_single_14 : decode cX12_single 14 = .ok (.goto 5, 3) := by decide +kernel
theorem dX12_single_17 : decode cX12_single 17 = .ok (.bipush (-101), 2) := by decide +kernel
theorem dX12_single_19 : decode cX12_single 19 = .ok (.ireturn, 1) := by decide +kernel
theorem dX12_as_0 : decode cX12_as 0 = .ok (.aload_n 0, 1) := by decide +kernel
theorem dX12_as_1 : decode cX12_as 1 = .ok (.iload_n 1, 1) := by decide +kernel
theorem dX12_as_2 : decode cX12_as 2 = .ok (.invokevirtual 106, 3) := by decide +kernel
theorem dX12_as_5 : decode cX12_as 5 = .ok (.ifCond .ne 6, 3) := by decide +kernel
theorem dX12_as_8 : decode cX12_as 8 = .ok (.bipush (-101), 2) := by decide +kernel
theorem dX12_as_10 : decode cX12_as 10 = .ok (.ireturn, 1) := by decide +kernel
theorem dX12_as_11 : decode cX12_as 11 = .ok (.iload_n 2, 1) := by decide +kernel
theorem dX12_as_12 : decode cX12_as 12 = .ok (.i2l, 1) := by decide +kernel
theorem dX12_as_13 : decode cX12_as 13 = .ok (.lconst 0, 1) := by decide +kernel
theorem dX12_as_14 : decode cX12_as 14 = .ok (.ldc2_w 154, 3) := by decide +kernel
theorem dX12_as_17 : decode cX12_as 17 = .ok (.invokestatic 58, 3) := by decide +kernel
theorem dX12_as_20 : decode cX12_as 20 = .ok (.ifCond .ne 6, 3) := by decide +kernel
theorem dX12_as_23 : decode cX12_as 23 = .ok (.bipush (-102), 2) := by decide +kernel
theorem dX12_as_25 : decode cX12_as 25 = .ok (.ireturn, 1) := by decide +kernel
theorem dX12_as_26 : decode cX12_as 26 = .ok (.iload_n 2, 1) := by decide +kernel
theorem dX12_as_27 : decode cX12_as 27 = .ok (.ifCond .eq 28, 3) := by decide +kernel
theorem dX12_as_30 : decode cX12_as 30 = .ok (.iload_n 2, 1) := by decide +kernel
theorem dX12_as_31 : decode cX12_as 31 = .ok (.aload_n 0, 1) := by decide +kernel
theorem dX12_as_32 : decode cX12_as 32 = .ok (.getfield 13, 3) := by decide +kernel
theorem dX12_as_35 : decode cX12_as 35 = .ok (.iconst 2, 1) := by decide +kernel
theorem dX12_as_36 : decode cX12_as 36 = .ok (.iload_n 1, 1) := by decide +kernel
theorem dX12_as_37 : decode cX12_as 37 = .ok (.imul, 1) := by decide +kernel
theorem dX12_as_38 : decode cX12_as 38 = .ok (.iaload, 1) := by decide +kernel
theorem dX12_as_39 : decode cX12_as 39 = .ok (.if_icmp .eq 16, 3) := by decide +kernel
theorem dX12_as_42 : decode cX12_as 42 = .ok (.iload_n 2, 1) := by decide +kernel
theorem dX12_as_43 : decode cX12_as 43 = .ok (.iconst 1, 1) := by decide +kernel
theorem dX12_as_44 : decode cX12_as 44 = .ok (.if_icmp .ne 15, 3) := by decide +kernel
theorem dX12_as_47 : decode cX12_as 47 = .ok (.aload_n 0, 1) := by decide +kernel
theorem dX12_as_48 : decode cX12_as 48 = .ok (.iload_n 1, 1) := by decide +kernel
theorem dX12_as_49 : decode cX12_as 49 = .ok (.invokevirtual 110, 3) := by decide +kernel
theorem dX12_as_52 : decode cX12_as 52 = .ok (.ifCond .eq 7, 3) := by decide +kernel
theorem dX12_as_55 : decode cX12_as 55 = .ok (.iconst 1, 1) := by decide +kernel
theorem dX12_as_56 : decode cX12_as 56 = .ok (.goto 4, 3) := by decide +kernel
theorem dX12_as_59 : decode cX12_as 59 = .ok (.iconst 0, 1) := by decide +kernel
theorem dX12_as_60 : decode cX12_as 60 = .ok (.istore_n 3, 1) := by decide +kernel
theorem dX12_as_61 : decode cX12_as 61 = .ok (.iload_n 3, 1) := by decide +kernel
theorem dX12_as_62 : decode cX12_as 62 = .ok (.ifCond .eq 7, 3) := by decide +kernel
theorem dX12_as_65 : decode cX12_as 65 = .ok (.iload_n 1, 1) := by decide +kernel
theorem dX12_as_66 : decode cX12_as 66 = .ok (.goto 4, 3) := by decide +kernel
theorem dX12_as_69 : decode cX12_as 69 = .ok (.iconst (-1), 1) := by decide +kernel
theorem dX12_as_70 : decode cX12_as 70 = .ok (.ireturn, 1) := by decide +kernel
theorem dX12_likeness_0 : decode cX12_likeness 0 = .ok (.aload_n 0, 1) := by decide +kernel
theorem dX12_likeness_1 : decode cX12_likeness 1 = .ok (.iload_n 1, 1) := by decide +kernel
theorem dX12_likeness_2 : decode cX12_likeness 2 = .ok (.iload_n 2, 1) := by decide +kernel
theorem dX12_likeness_3 : decode cX12_likeness 3 = .ok (.invokevirtual 156, 3) := by decide +kernel
theorem dX12_likeness_6 : decode cX12_likeness 6 = .ok (.ifCond .eq 12, 3) := by decide +kernel
theorem dX12_likeness_9 : decode cX12_likeness 9 = .ok (.aload_n 0, 1) := by decide +kernel
theorem dX12_likeness_10 : decode cX12_likeness 10 = .ok (.iload_n 1, 1) := by decide +kernel
theorem dX12_likeness_11 : decode cX12_likeness 11 = .ok (.iload_n 2, 1) := by decide +kernel
theorem dX12_likeness_12 : decode cX12_likeness 12 = .ok (.invokevirtual 126, 3) := by decide +kernel
theorem dX12_likeness_15 : decode cX12_likeness 15 = .ok (.goto 5, 3) := by decide +kernel
theorem dX12_likeness_18 : decode cX12_likeness 18 = .ok (.bipush (-101), 2) := by decide +kernel
theorem dX12_likeness_20 : decode cX12_likeness 20 = .ok (.ireturn, 1) := by decide +kernel
theorem dX12_apart_0 : decode cX12_apart 0 = .ok (.aload_n 0, 1) := by decide +kernel
theorem dX12_apart_1 : decode cX12_apart 1 = .ok (.iload_n 1, 1) := by decide +kernel
theorem dX12_apart_2 : decode cX12_apart 2 = .ok (.iload_n 2, 1) := by decide +kernel
theorem dX12_apart_3 : decode cX12_apart 3 = .ok (.invokevirtual 156, 3) := by decide +kernel
theorem dX12_apart_6 : decode cX12_apart 6 = .ok (.ifCond .eq 12, 3) := by decide +kernel
theorem dX12_apart_9 : decode cX12_apart 9 = .ok (.aload_n 0, 1) := by decide +kernel
theorem dX12_apart_10 : decode cX12_apart 10 = .ok (.iload_n 1, 1) := by decide +kernel
theorem dX12_apart_11 : decode cX12_apart 11 = .ok (.iload_n 2, 1) := by decide +kernel
theorem dX12_apart_12 : decode cX12_apart 12 = .ok (.invokevirtual 123, 3) := by decide +kernel
theorem dX12_apart_15 : decode cX12_apart 15 = .ok (.goto 5, 3) := by decide +kernel
theorem dX12_apart_18 : decode cX12_apart 18 = .ok (.bipush (-101), 2) := by decide +kernel
theorem dX12_apart_20 : decode cX12_apart 20 = .ok (.ireturn, 1) := by decide +kernel
theorem dX12_carry_0 : decode cX12_carry 0 = .ok (.aload_n 0, 1) := by decide +kernel
theorem dX12_carry_1 : decode cX12_carry 1 = .ok (.iload_n 1, 1) := by decide +kernel
theorem dX12_carry_2 : decode cX12_carry 2 = .ok (.invokevirtual 106, 3) := by decide +kernel
theorem dX12_carry_5 : decode cX12_carry 5 = .ok (.ifCond .eq 15, 3) := by decide +kernel
theorem dX12_carry_8 : decode cX12_carry 8 = .ok (.iload_n 2, 1) := by decide +kernel
theorem dX12_carry_9 : decode cX12_carry 9 = .ok (.i2l, 1) := by decide +kernel
theorem dX12_carry_10 : decode cX12_carry 10 = .ok (.lconst 0, 1) := by decide +kernel
theorem dX12_carry_11 : decode cX12_carry 11 = .ok (.ldc2_w 159, 3) := by decide +kernel
theorem dX12_carry_14 : decode cX12_carry 14 = .ok (.invokestatic 58, 3) := by decide +kernel
theorem dX12_carry_17 : decode cX12_carry 17 = .ok (.ifCond .ne 6, 3) := by decide +kernel
theorem dX12_carry_20 : decode cX12_carry 20 = .ok (.bipush (-101), 2) := by decide +kernel
theorem dX12_carry_22 : decode cX12_carry 22 = .ok (.ireturn, 1) := by decide +kernel
theorem dX12_carry_23 : decode cX12_carry 23 = .ok (.aload_n 0, 1) := by decide +kernel
theorem dX12_carry_24 : decode cX12_carry 24 = .ok (.getfield 22, 3) := by decide +kernel
theorem dX12_carry_27 : decode cX12_carry 27 = .ok (.iload_n 1, 1) := by decide +kernel
theorem dX12_carry_28 : decode cX12_carry 28 = .ok (.iaload, 1) := by decide +kernel
theorem dX12_carry_29 : decode cX12_carry 29 = .ok (.iconst (-1), 1) := by decide +kernel
theorem dX12_carry_30 : decode cX12_carry 30 = .ok (.if_icmp .eq 6, 3) := by decide +kernel
theorem dX12_carry_33 : decode cX12_carry 33 = .ok (.bipush (-103), 2) := by decide +kernel
theorem dX12_carry_35 : decode cX12_carry 35 = .ok (.ireturn, 1) := by decide +kernel
theorem dX12_carry_36 : decode cX12_carry 36 = .ok (.aload_n 0, 1) := by decide +kernel
theorem dX12_carry_37 : decode cX12_carry 37 = .ok (.getfield 19, 3) := by decide +kernel
theorem dX12_carry_40 : decode cX12_carry 40 = .ok (.iload_n 1, 1) := by decide +kernel
theorem dX12_carry_41 : decode cX12_carry 41 = .ok (.iaload, 1) := by decide +kernel
theorem dX12_carry_42 : decode cX12_carry 42 = .ok (.iload_n 2, 1) := by decide +kernel
theorem dX12_carry_43 : decode cX12_carry 43 = .ok (.invokestatic 116, 3) := by decide +kernel
theorem dX12_carry_46 : decode cX12_carry 46 = .ok (.istore_n 3, 1) := by decide +kernel
theorem dX12_carry_47 : decode cX12_carry 47 = .ok (.aload_n 0, 1) := by decide +kernel
theorem dX12_carry_48 : decode cX12_carry 48 = .ok (.getfield 19, 3) := by decide +kernel
theorem dX12_carry_51 : decode cX12_carry 51 = .ok (.iload_n 1, 1) := by decide +kernel
theorem dX12_carry_52 : decode cX12_carry 52 = .ok (.iload_n 2, 1) := by decide +kernel
theorem dX12_carry_53 : decode cX12_carry 53 = .ok (.iastore, 1) := by decide +kernel
theorem dX12_carry_54 : decode cX12_carry 54 = .ok (.aload_n 0, 1) := by decide +kernel
theorem dX12_carry_55 : decode cX12_carry 55 = .ok (.dup, 1) := by decide +kernel
theorem dX12_carry_56 : decode cX12_carry 56 = .ok (.getfield 88, 3) := by decide +kernel
theorem dX12_carry_59 : decode cX12_carry 59 = .ok (.iload_n 3, 1) := by decide +kernel
theorem dX12_carry_60 : decode cX12_carry 60 = .ok (.iadd, 1) := by decide +kernel
theorem dX12_carry_61 : decode cX12_carry 61 = .ok (.putfield 88, 3) := by decide +kernel
theorem dX12_carry_64 : decode cX12_carry 64 = .ok (.iload_n 3, 1) := by decide +kernel
theorem dX12_carry_65 : decode cX12_carry 65 = .ok (.ireturn, 1) := by decide +kernel
theorem dX12_bring_0 : decode cX12_bring 0 = .ok (.aload_n 0, 1) := by decide +kernel
theorem dX12_bring_1 : decode cX12_bring 1 = .ok (.iload_n 1, 1) := by decide +kernel
theorem dX12_bring_2 : decode cX12_bring 2 = .ok (.iload_n 2, 1) := by decide +kernel
theorem dX12_bring_3 : decode cX12_bring 3 = .ok (.invokevirtual 156, 3) := by decide +kernel
theorem dX12_bring_6 : decode cX12_bring 6 = .ok (.ifCond .ne 6, 3) := by decide +kernel
theorem dX12_bring_9 : decode cX12_bring 9 = .ok (.bipush (-101), 2) := by decide +kernel
theorem dX12_bring_11 : decode cX12_bring 11 = .ok (.ireturn, 1) := by decide +kernel
theorem dX12_bring_12 : decode cX12_bring 12 = .ok (.aload_n 0, 1) := by decide +kernel
theorem dX12_bring_13 : decode cX12_bring 13 = .ok (.getfield 22, 3) := by decide +kernel
theorem dX12_bring_16 : decode cX12_bring 16 = .ok (.iload_n 1, 1) := by decide +kernel
theorem dX12_bring_17 : decode cX12_bring 17 = .ok (.iaload, 1) := by decide +kernel
theorem dX12_bring_18 : decode cX12_bring 18 = .ok (.iconst (-1), 1) := by decide +kernel
theorem dX12_bring_19 : decode cX12_bring 19 = .ok (.if_icmp .ne 37, 3) := by decide +kernel
theorem dX12_bring_22 : decode cX12_bring 22 = .ok (.aload_n 0, 1) := by decide +kernel
theorem dX12_bring_23 : decode cX12_bring 23 = .ok (.getfield 22, 3) := by decide +kernel
theorem dX12_bring_26 : decode cX12_bring 26 = .ok (.iload_n 2, 1) := by decide +kernel
theorem dX12_bring_27 : decode cX12_bring 27 = .ok (.iaload, 1) := by decide +kernel
theorem dX12_bring_28 : decode cX12_bring 28 = .ok (.iconst (-1), 1) := by decide +kernel
theorem dX12_bring_29 : decode cX12_bring 29 = .ok (.if_icmp .ne 27, 3) := by decide +kernel
theorem dX12_bring_32 : decode cX12_bring 32 = .ok (.aload_n 0, 1) := by decide +kernel
theorem dX12_bring_33 : decode cX12_bring 33 = .ok (.iload_n 1, 1) := by decide +kernel
theorem dX12_bring_34 : decode cX12_bring 34 = .ok (.iload_n 2, 1) := by decide +kernel
theorem dX12_bring_35 : decode cX12_bring 35 = .ok (.invokevirtual 120, 3) := by decide +kernel
theorem dX12_bring_38 : decode cX12_bring 38 = .ok (.ifCond .eq 18, 3) := by decide +kernel
theorem dX12_bring_41 : decode cX12_bring 41 = .ok (.aload_n 0, 1) := by decide +kernel
theorem dX12_bring_42 : decode cX12_bring 42 = .ok (.getfield 19, 3) := by decide +kernel
theorem dX12_bring_45 : decode cX12_bring 45 = .ok (.iload_n 1, 1) := by decide +kernel
theorem dX12_bring_46 : decode cX12_bring 46 = .ok (.iaload, 1) := by decide +kernel
theorem dX12_bring_47 : decode cX12_bring 47 = .ok (.aload_n 0, 1) := by decide +kernel
theorem dX12_bring_48 : decode cX12_bring 48 = .ok (.getfield 19, 3) := by decide +kernel
theorem dX12_bring_51 : decode cX12_bring 51 = .ok (.iload_n 2, 1) := by decide +kernel
theorem dX12_bring_52 : decode cX12_bring 52 = .ok (.iaload, 1) := by decide +kernel
theorem dX12_bring_53 : decode cX12_bring 53 = .ok (.if_icmp .eq 6, 3) := by decide +kernel
theorem dX12_bring_56 : decode cX12_bring 56 = .ok (.bipush (-103), 2) := by decide +kernel
theorem dX12_bring_58 : decode cX12_bring 58 = .ok (.ireturn, 1) := by decide +kernel
theorem dX12_bring_59 : decode cX12_bring 59 = .ok (.aload_n 0, 1) := by decide +kernel
theorem dX12_bring_60 : decode cX12_bring 60 = .ok (.getfield 22, 3) := by decide +kernel
theorem dX12_bring_63 : decode cX12_bring 63 = .ok (.iload_n 1, 1) := by decide +kernel
theorem dX12_bring_64 : decode cX12_bring 64 = .ok (.iload_n 2, 1) := by decide +kernel
theorem dX12_bring_65 : decode cX12_bring 65 = .ok (.iastore, 1) := by decide +kernel
theorem dX12_bring_66 : decode cX12_bring 66 = .ok (.aload_n 0, 1) := by decide +kernel
theorem dX12_bring_67 : decode cX12_bring 67 = .ok (.getfield 22, 3) := by decide +kernel
theorem dX12_bring_70 : decode cX12_bring 70 = .ok (.iload_n 2, 1) := by decide +kernel
theorem dX12_bring_71 : decode cX12_bring 71 = .ok (.iload_n 1, 1) := by decide +kernel
theorem dX12_bring_72 : decode cX12_bring 72 = .ok (.iastore, 1) := by decide +kernel
theorem dX12_bring_73 : decode cX12_bring 73 = .ok (.aload_n 0, 1) := by decide +kernel
theorem dX12_bring_74 : decode cX12_bring 74 = .ok (.dup, 1) := by decide +kernel
theorem dX12_bring_75 : decode cX12_bring 75 = .ok (.getfield 91, 3) := by decide +kernel
theorem dX12_bring_78 : decode cX12_bring 78 = .ok (.iconst 1, 1) := by decide +kernel
theorem dX12_bring_79 : decode cX12_bring 79 = .ok (.iadd, 1) := by decide +kernel
theorem dX12_bring_80 : decode cX12_bring 80 = .ok (.putfield 91, 3) := by decide +kernel
theorem dX12_bring_83 : decode cX12_bring 83 = .ok (.aload_n 0, 1) := by decide +kernel
theorem dX12_bring_84 : decode cX12_bring 84 = .ok (.iload_n 1, 1) := by decide +kernel
theorem dX12_bring_85 : decode cX12_bring 85 = .ok (.iload_n 2, 1) := by decide +kernel
theorem dX12_bring_86 : decode cX12_bring 86 = .ok (.invokevirtual 126, 3) := by decide +kernel
theorem dX12_bring_89 : decode cX12_bring 89 = .ok (.ireturn, 1) := by decide +kernel
theorem dX12_part_0 : decode cX12_part 0 = .ok (.aload_n 0, 1) := by decide +kernel
theorem dX12_part_1 : decode cX12_part 1 = .ok (.iload_n 1, 1) := by decide +kernel
theorem dX12_part_2 : decode cX12_part 2 = .ok (.invokevirtual 106, 3) := by decide +kernel
theorem dX12_part_5 : decode cX12_part 5 = .ok (.ifCond .ne 6, 3) := by decide +kernel
theorem dX12_part_8 : decode cX12_part 8 = .ok (.bipush (-101), 2) := by decide +kernel
theorem dX12_part_10 : decode cX12_part 10 = .ok (.ireturn, 1) := by decide +kernel
theorem dX12_part_11 : decode cX12_part 11 = .ok (.aload_n 0, 1) := by decide +kernel
theorem dX12_part_12 : decode cX12_part 12 = .ok (.getfield 22, 3) := by decide +kernel
theorem dX12_part_15 : decode cX12_part 15 = .ok (.iload_n 1, 1) := by decide +kernel
theorem dX12_part_16 : decode cX12_part 16 = .ok (.iaload, 1) := by decide +kernel
theorem dX12_part_17 : decode cX12_part 17 = .ok (.istore_n 2, 1) := by decide +kernel
theorem dX12_part_18 : decode cX12_part 18 = .ok (.iload_n 2, 1) := by decide +kernel
theorem dX12_part_19 : decode cX12_part 19 = .ok (.iconst (-1), 1) := by decide +kernel
theorem dX12_part_20 : decode cX12_part 20 = .ok (.if_icmp .ne 6, 3) := by decide +kernel
theorem dX12_part_23 : decode cX12_part 23 = .ok (.bipush (-103), 2) := by decide +kernel
theorem dX12_part_25 : decode cX12_part 25 = .ok (.ireturn, 1) := by decide +kernel
theorem dX12_part_26 : decode cX12_part 26 = .ok (.aload_n 0, 1) := by decide +kernel
theorem dX12_part_27 : decode cX12_part 27 = .ok (.getfield 22, 3) := by decide +kernel
theorem dX12_part_30 : decode cX12_part 30 = .ok (.iload_n 1, 1) := by decide +kernel
theorem dX12_part_31 : decode cX12_part 31 = .ok (.iconst (-1), 1) := by decide +kernel
theorem dX12_part_32 : decode cX12_part 32 = .ok (.iastore, 1) := by decide +kernel
theorem dX12_part_33 : decode cX12_part 33 = .ok (.aload_n 0, 1) := by decide +kernel
theorem dX12_part_34 : decode cX12_part 34 = .ok (.getfield 22, 3) := by decide +kernel
theorem dX12_part_37 : decode cX12_part 37 = .ok (.iload_n 2, 1) := by decide +kernel
theorem dX12_part_38 : decode cX12_part 38 = .ok (.iconst (-1), 1) := by decide +kernel
theorem dX12_part_39 : decode cX12_part 39 = .ok (.iastore, 1) := by decide +kernel
theorem dX12_part_40 : decode cX12_part 40 = .ok (.aload_n 0, 1) := by decide +kernel
theorem dX12_part_41 : decode cX12_part 41 = .ok (.dup, 1) := by decide +kernel
theorem dX12_part_42 : decode cX12_part 42 = .ok (.getfield 94, 3) := by decide +kernel
theorem dX12_part_45 : decode cX12_part 45 = .ok (.iconst 1, 1) := by decide +kernel
theorem dX12_part_46 : decode cX12_part 46 = .ok (.iadd, 1) := by decide +kernel
theorem dX12_part_47 : decode cX12_part 47 = .ok (.putfield 94, 3) := by decide +kernel
theorem dX12_part_50 : decode cX12_part 50 = .ok (.iload_n 2, 1) := by decide +kernel
theorem dX12_part_51 : decode cX12_part 51 = .ok (.ireturn, 1) := by decide +kernel
theorem dX12_shrink_0 : decode cX12_shrink 0 = .ok (.aload_n 0, 1) := by decide +kernel
theorem dX12_shrink_1 : decode cX12_shrink 1 = .ok (.iload_n 1, 1) := by decide +kernel
theorem dX12_shrink_2 : decode cX12_shrink 2 = .ok (.invokevirtual 106, 3) := by decide +kernel
theorem dX12_shrink_5 : decode cX12_shrink 5 = .ok (.ifCond .ne 6, 3) := by decide +kernel
theorem dX12_shrink_8 : decode cX12_shrink 8 = .ok (.bipush (-101), 2) := by decide +kernel
theorem dX12_shrink_10 : decode cX12_shrink 10 = .ok (.ireturn, 1) := by decide +kernel
theorem dX12_shrink_11 : decode cX12_shrink 11 = .ok (.iload_n 2, 1) := by decide +kernel
theorem dX12_shrink_12 : decode cX12_shrink 12 = .ok (.i2l, 1) := by decide +kernel
theorem dX12_shrink_13 : decode cX12_shrink 13 = .ok (.lconst 0, 1) := by decide +kernel
theorem dX12_shrink_14 : decode cX12_shrink 14 = .ok (.ldc2_w 161, 3) := by decide +kernel
theorem dX12_shrink_17 : decode cX12_shrink 17 = .ok (.invokestatic 58, 3) := by decide +kernel
theorem dX12_shrink_20 : decode cX12_shrink 20 = .ok (.ifCond .ne 6, 3) := by decide +kernel
theorem dX12_shrink_23 : decode cX12_shrink 23 = .ok (.bipush (-102), 2) := by decide +kernel
theorem dX12_shrink_25 : decode cX12_shrink 25 = .ok (.ireturn, 1) := by decide +kernel
theorem dX12_shrink_26 : decode cX12_shrink 26 = .ok (.aload_n 0, 1) := by decide +kernel
theorem dX12_shrink_27 : decode cX12_shrink 27 = .ok (.getfield 22, 3) := by decide +kernel
theorem dX12_shrink_30 : decode cX12_shrink 30 = .ok (.iload_n 1, 1) := by decide +kernel
theorem dX12_shrink_31 : decode cX12_shrink 31 = .ok (.iaload, 1) := by decide +kernel
theorem dX12_shrink_32 : decode cX12_shrink 32 = .ok (.iconst (-1), 1) := by decide +kernel
theorem dX12_shrink_33 : decode cX12_shrink 33 = .ok (.if_icmp .eq 6, 3) := by decide +kernel
theorem dX12_shrink_36 : decode cX12_shrink 36 = .ok (.bipush (-103), 2) := by decide +kernel
theorem dX12_shrink_38 : decode cX12_shrink 38 = .ok (.ireturn, 1) := by decide +kernel
theorem dX12_shrink_39 : decode cX12_shrink 39 = .ok (.aload_n 0, 1) := by decide +kernel
theorem dX12_shrink_40 : decode cX12_shrink 40 = .ok (.getfield 16, 3) := by decide +kernel
theorem dX12_shrink_43 : decode cX12_shrink 43 = .ok (.iload_n 1, 1) := by decide +kernel
theorem dX12_shrink_44 : decode cX12_shrink 44 = .ok (.iaload, 1) := by decide +kernel
theorem dX12_shrink_45 : decode cX12_shrink 45 = .ok (.istore_n 3, 1) := by decide +kernel
theorem dX12_shrink_46 : decode cX12_shrink 46 = .ok (.aload_n 0, 1) := by decide +kernel
theorem dX12_shrink_47 : decode cX12_shrink 47 = .ok (.getfield 16, 3) := by decide +kernel
theorem dX12_shrink_50 : decode cX12_shrink 50 = .ok (.iload_n 1, 1) := by decide +kernel
theorem dX12_shrink_51 : decode cX12_shrink 51 = .ok (.iload_n 2, 1) := by decide +kernel
theorem dX12_shrink_52 : decode cX12_shrink 52 = .ok (.iastore, 1) := by decide +kernel
theorem dX12_shrink_53 : decode cX12_shrink 53 = .ok (.iload_n 3, 1) := by decide +kernel
theorem dX12_shrink_54 : decode cX12_shrink 54 = .ok (.ireturn, 1) := by decide +kernel
theorem dX12_pairsOf_0 : decode cX12_pairsOf 0 = .ok (.iconst 0, 1) := by decide +kernel
theorem dX12_pairsOf_1 : decode cX12_pairsOf 1 = .ok (.istore_n 2, 1) := by decide +kernel
theorem dX12_pairsOf_2 : decode cX12_pairsOf 2 = .ok (.iconst 0, 1) := by decide +kernel
theorem dX12_pairsOf_3 : decode cX12_pairsOf 3 = .ok (.istore_n 3, 1) := by decide +kernel
theorem dX12_pairsOf_4 : decode cX12_pairsOf 4 = .ok (.iload_n 3, 1) := by decide +kernel
theorem dX12_pairsOf_5 : decode cX12_pairsOf 5 = .ok (.aload_n 0, 1) := by decide +kernel
theorem dX12_pairsOf_6 : decode cX12_pairsOf 6 = .ok (.getfield 85, 3) := by decide +kernel
theorem dX12_pairsOf_9 : decode cX12_pairsOf 9 = .ok (.if_icmp .ge 24, 3) := by decide +kernel
theorem dX12_pairsOf_12 : decode cX12_pairsOf 12 = .ok (.iload_n 2, 1) := by decide +kernel
theorem dX12_pairsOf_13 : decode cX12_pairsOf 13 = .ok (.aload_n 1, 1) := by decide +kernel
theorem dX12_pairsOf_14 : decode cX12_pairsOf 14 = .ok (.iload_n 3, 1) := by decide +kernel
theorem dX12_pairsOf_15 : decode cX12_pairsOf 15 = .ok (.iaload, 1) := by decide +kernel
theorem dX12_pairsOf_16 : decode cX12_pairsOf 16 = .ok (.iload_n 3, 1) := by decide +kernel
theorem dX12_pairsOf_17 : decode cX12_pairsOf 17 = .ok (.if_icmp .le 7, 3) := by decide +kernel
theorem dX12_pairsOf_20 : decode cX12_pairsOf 20 = .ok (.iconst 1, 1) := by decide +kernel
theorem dX12_pairsOf_21 : decode cX12_pairsOf 21 = .ok (.goto 4, 3) := by decide +kernel
theorem dX12_pairsOf_24 : decode cX12_pairsOf 24 = .ok (.iconst 0, 1) := by decide +kernel
theorem dX12_pairsOf_25 : decode cX12_pairsOf 25 = .ok (.iadd, 1) := by decide +kernel
theorem dX12_pairsOf_26 : decode cX12_pairsOf 26 = .ok (.istore_n 2, 1) := by decide +kernel
theorem dX12_pairsOf_27 : decode cX12_pairsOf 27 = .ok (.iinc 3 1, 3) := by decide +kernel
theorem dX12_pairsOf_30 : decode cX12_pairsOf 30 = .ok (.goto (-26), 3) := by decide +kernel
theorem dX12_pairsOf_33 : decode cX12_pairsOf 33 = .ok (.iload_n 2, 1) := by decide +kernel
theorem dX12_pairsOf_34 : decode cX12_pairsOf 34 = .ok (.ireturn, 1) := by decide +kernel
theorem dX12_may_0 : decode cX12_may 0 = .ok (.aload_n 0, 1) := by decide +kernel
theorem dX12_may_1 : decode cX12_may 1 = .ok (.invokevirtual 163, 3) := by decide +kernel
theorem dX12_may_4 : decode cX12_may 4 = .ok (.ifCond .eq 6, 3) := by decide +kernel
theorem dX12_may_7 : decode cX12_may 7 = .ok (.bipush (-103), 2) := by decide +kernel
theorem dX12_may_9 : decode cX12_may 9 = .ok (.ireturn, 1) := by decide +kernel
theorem dX12_may_10 : decode cX12_may 10 = .ok (.aload_n 0, 1) := by decide +kernel
theorem dX12_may_11 : decode cX12_may 11 = .ok (.getfield 22, 3) := by decide +kernel
theorem dX12_may_14 : decode cX12_may 14 = .ok (.aload_n 0, 1) := by decide +kernel
theorem dX12_may_15 : decode cX12_may 15 = .ok (.getfield 25, 3) := by decide +kernel
theorem dX12_may_18 : decode cX12_may 18 = .ok (.invokestatic 167, 3) := by decide +kernel
theorem dX12_may_21 : decode cX12_may 21 = .ok (.iconst 0, 1) := by decide +kernel
theorem dX12_may_22 : decode cX12_may 22 = .ok (.istore_n 1, 1) := by decide +kernel
theorem dX12_may_23 : decode cX12_may 23 = .ok (.iload_n 1, 1) := by decide +kernel
theorem dX12_may_24 : decode cX12_may 24 = .ok (.aload_n 0, 1) := by decide +kernel
theorem dX12_may_25 : decode cX12_may 25 = .ok (.getfield 85, 3) := by decide +kernel
theorem dX12_may_28 : decode cX12_may 28 = .ok (.if_icmp .ge 16, 3) := by decide +kernel
theorem dX12_may_31 : decode cX12_may 31 = .ok (.aload_n 0, 1) := by decide +kernel
theorem dX12_may_32 : decode cX12_may 32 = .ok (.getfield 22, 3) := by decide +kernel
theorem dX12_may_35 : decode cX12_may 35 = .ok (.iload_n 1, 1) := by decide +kernel
theorem dX12_may_36 : decode cX12_may 36 = .ok (.iconst (-1), 1) := by decide +kernel
theorem dX12_may_37 : decode cX12_may 37 = .ok (.iastore, 1) := by decide +kernel
theorem dX12_may_38 : decode cX12_may 38 = .ok (.iinc 1 1, 3) := by decide +kernel
theorem dX12_may_41 : decode cX12_may 41 = .ok (.goto (-18), 3) := by decide +kernel
theorem dX12_may_44 : decode cX12_may 44 = .ok (.iconst 0, 1) := by decide +kernel
theorem dX12_may_45 : decode cX12_may 45 = .ok (.istore_n 1, 1) := by decide +kernel
theorem dX12_may_46 : decode cX12_may 46 = .ok (.iload_n 1, 1) := by decide +kernel
theorem dX12_may_47 : decode cX12_may 47 = .ok (.aload_n 0, 1) := by decide +kernel
theorem dX12_may_48 : decode cX12_may 48 = .ok (.getfield 85, 3) := by decide +kernel
theorem dX12_may_51 : decode cX12_may 51 = .ok (.if_icmp .ge 98, 3) := by decide +kernel
theorem dX12_may_54 : decode cX12_may 54 = .ok (.iconst 0, 1) := by decide +kernel
theorem dX12_may_55 : decode cX12_may 55 = .ok (.istore_n 2, 1) := by decide +kernel
theorem dX12_may_56 : decode cX12_may 56 = .ok (.iload_n 2, 1) := by decide +kernel
theorem dX12_may_57 : decode cX12_may 57 = .ok (.aload_n 0, 1) := by decide +kernel
theorem dX12_may_58 : decode cX12_may 58 = .ok (.getfield 85, 3) := by decide +kernel
theorem dX12_may_61 : decode cX12_may 61 = .ok (.if_icmp .ge 82, 3) := by decide +kernel
theorem dX12_may_64 : decode cX12_may 64 = .ok (.aload_n 0, 1) := by decide +kernel
theorem dX12_may_65 : decode cX12_may 65 = .ok (.getfield 25, 3) := by decide +kernel
theorem dX12_may_68 : decode cX12_may 68 = .ok (.iload_n 1, 1) := by decide +kernel
theorem dX12_may_69 : decode cX12_may 69 = .ok (.iaload, 1) := by decide +kernel
theorem dX12_may_70 : decode cX12_may 70 = .ok (.iconst (-1), 1) := by decide +kernel
theorem dX12_may_71 : decode cX12_may 71 = .ok (.if_icmp .eq 72, 3) := by decide +kernel
theorem dX12_may_74 : decode cX12_may 74 = .ok (.aload_n 0, 1) := by decide +kernel
theorem dX12_may_75 : decode cX12_may 75 = .ok (.getfield 22, 3) := by decide +kernel
theorem dX12_may_78 : decode cX12_may 78 = .ok (.iload_n 1, 1) := by decide +kernel
theorem dX12_may_79 : decode cX12_may 79 = .ok (.iaload, 1) := by decide +kernel
theorem dX12_may_80 : decode cX12_may 80 = .ok (.iconst (-1), 1) := by decide +kernel
theorem dX12_may_81 : decode cX12_may 81 = .ok (.if_icmp .ne 62, 3) := by decide +kernel
theorem dX12_may_84 : decode cX12_may 84 = .ok (.aload_n 0, 1) := by decide +kernel
theorem dX12_may_85 : decode cX12_may 85 = .ok (.getfield 25, 3) := by decide +kernel
theorem dX12_may_88 : decode cX12_may 88 = .ok (.iload_n 2, 1) := by decide +kernel
theorem dX12_may_89 : decode cX12_may 89 = .ok (.iaload, 1) := by decide +kernel
theorem dX12_may_90 : decode cX12_may 90 = .ok (.iconst (-1), 1) := by decide +kernel
theorem dX12_may_91 : decode cX12_may 91 = .ok (.if_icmp .eq 46, 3) := by decide +kernel
theorem dX12_may_94 : decode cX12_may 94 = .ok (.aload_n 0, 1) := by decide +kernel
theorem dX12_may_95 : decode cX12_may 95 = .ok (.getfield 22, 3) := by decide +kernel
theorem dX12_may_98 : decode cX12_may 98 = .ok (.iload_n 2, 1) := by decide +kernel
theorem dX12_may_99 : decode cX12_may 99 = .ok (.iaload, 1) := by decide +kernel
theorem dX12_may_100 : decode cX12_may 100 = .ok (.iconst (-1), 1) := by decide +kernel
theorem dX12_may_101 : decode cX12_may 101 = .ok (.if_icmp .ne 36, 3) := by decide +kernel
theorem dX12_may_104 : decode cX12_may 104 = .ok (.aload_n 0, 1) := by decide +kernel
theorem dX12_may_105 : decode cX12_may 105 = .ok (.getfield 25, 3) := by decide +kernel
theorem dX12_may_108 : decode cX12_may 108 = .ok (.iload_n 1, 1) := by decide +kernel
theorem dX12_may_109 : decode cX12_may 109 = .ok (.iaload, 1) := by decide +kernel
theorem dX12_may_110 : decode cX12_may 110 = .ok (.iload_n 2, 1) := by decide +kernel
theorem dX12_may_111 : decode cX12_may 111 = .ok (.if_icmp .eq 26, 3) := by decide +kernel
theorem dX12_may_114 : decode cX12_may 114 = .ok (.aload_n 0, 1) := by decide +kernel
theorem dX12_may_115 : decode cX12_may 115 = .ok (.iload_n 1, 1) := by decide +kernel
theorem dX12_may_116 : decode cX12_may 116 = .ok (.iload_n 2, 1) := by decide +kernel
theorem dX12_may_117 : decode cX12_may 117 = .ok (.invokevirtual 120, 3) := by decide +kernel
theorem dX12_may_120 : decode cX12_may 120 = .ok (.ifCond .eq 17, 3) := by decide +kernel
theorem dX12_may_123 : decode cX12_may 123 = .ok (.aload_n 0, 1) := by decide +kernel
theorem dX12_may_124 : decode cX12_may 124 = .ok (.getfield 22, 3) := by decide +kernel
theorem dX12_may_127 : decode cX12_may 127 = .ok (.iload_n 1, 1) := by decide +kernel
theorem dX12_may_128 : decode cX12_may 128 = .ok (.iload_n 2, 1) := by decide +kernel
theorem dX12_may_129 : decode cX12_may 129 = .ok (.iastore, 1) := by decide +kernel
theorem dX12_may_130 : decode cX12_may 130 = .ok (.aload_n 0, 1) := by decide +kernel
theorem dX12_may_131 : decode cX12_may 131 = .ok (.getfield 22, 3) := by decide +kernel
theorem dX12_may_134 : decode cX12_may 134 = .ok (.iload_n 2, 1) := by decide +kernel
theorem dX12_may_135 : decode cX12_may 135 = .ok (.iload_n 1, 1) := by decide +kernel
theorem dX12_may_136 : decode cX12_may 136 = .ok (.iastore, 1) := by decide +kernel
theorem dX12_may_137 : decode cX12_may 137 = .ok (.iinc 2 1, 3) := by decide +kernel
theorem dX12_may_140 : decode cX12_may 140 = .ok (.goto (-84), 3) := by decide +kernel
theorem dX12_may_143 : decode cX12_may 143 = .ok (.iinc 1 1, 3) := by decide +kernel
theorem dX12_may_146 : decode cX12_may 146 = .ok (.goto (-100), 3) := by decide +kernel
theorem dX12_may_149 : decode cX12_may 149 = .ok (.aload_n 0, 1) := by decide +kernel
theorem dX12_may_150 : decode cX12_may 150 = .ok (.dup, 1) := by decide +kernel
theorem dX12_may_151 : decode cX12_may 151 = .ok (.getfield 97, 3) := by decide +kernel
theorem dX12_may_154 : decode cX12_may 154 = .ok (.iconst 1, 1) := by decide +kernel
theorem dX12_may_155 : decode cX12_may 155 = .ok (.iadd, 1) := by decide +kernel
theorem dX12_may_156 : decode cX12_may 156 = .ok (.putfield 97, 3) := by decide +kernel
theorem dX12_may_159 : decode cX12_may 159 = .ok (.aload_n 0, 1) := by decide +kernel
theorem dX12_may_160 : decode cX12_may 160 = .ok (.aload_n 0, 1) := by decide +kernel
theorem dX12_may_161 : decode cX12_may 161 = .ok (.getfield 22, 3) := by decide +kernel
theorem dX12_may_164 : decode cX12_may 164 = .ok (.invokevirtual 171, 3) := by decide +kernel
theorem dX12_may_167 : decode cX12_may 167 = .ok (.ireturn, 1) := by decide +kernel
theorem dX12_firstRow_0 : decode cX12_firstRow 0 = .ok (.iconst 0, 1) := by decide +kernel
theorem dX12_firstRow_1 : decode cX12_firstRow 1 = .ok (.istore_n 1, 1) := by decide +kernel
theorem dX12_firstRow_2 : decode cX12_firstRow 2 = .ok (.iload_n 1, 1) := by decide +kernel
theorem dX12_firstRow_3 : decode cX12_firstRow 3 = .ok (.bipush 7, 2) := by decide +kernel
theorem dX12_firstRow_5 : decode cX12_firstRow 5 = .ok (.if_icmp .ge 23, 3) := by decide +kernel
theorem dX12_firstRow_8 : decode cX12_firstRow 8 = .ok (.aload_n 0, 1) := by decide +kernel
theorem dX12_firstRow_9 : decode cX12_firstRow 9 = .ok (.getfield 28, 3) := by decide +kernel
theorem dX12_firstRow_12 : decode cX12_firstRow 12 = .ok (.iload_n 1, 1) := by decide +kernel
theorem dX12_firstRow_13 : decode cX12_firstRow 13 = .ok (.iconst (-1), 1) := by decide +kernel
theorem dX12_firstRow_14 : decode cX12_firstRow 14 = .ok (.iastore, 1) := by decide +kernel
theorem dX12_firstRow_15 : decode cX12_firstRow 15 = .ok (.aload_n 0, 1) := by decide +kernel
theorem dX12_firstRow_16 : decode cX12_firstRow 16 = .ok (.getfield 31, 3) := by decide +kernel
theorem dX12_firstRow_19 : decode cX12_firstRow 19 = .ok (.iload_n 1, 1) := by decide +kernel
theorem dX12_firstRow_20 : decode cX12_firstRow 20 = .ok (.iconst (-1), 1) := by decide +kernel
theorem dX12_firstRow_21 : decode cX12_firstRow 21 = .ok (.iastore, 1) := by decide +kernel
theorem dX12_firstRow_22 : decode cX12_firstRow 22 = .ok (.iinc 1 1, 3) := by decide +kernel
theorem dX12_firstRow_25 : decode cX12_firstRow 25 = .ok (.goto (-23), 3) := by decide +kernel
theorem dX12_firstRow_28 : decode cX12_firstRow 28 = .ok (.return_, 1) := by decide +kernel
theorem dX12_nextRow_0 : decode cX12_nextRow 0 = .ok (.aload_n 0, 1) := by decide +kernel
theorem dX12_nextRow_1 : decode cX12_nextRow 1 = .ok (.getfield 85, 3) := by decide +kernel
theorem dX12_nextRow_4 : decode cX12_nextRow 4 = .ok (.iconst 1, 1) := by decide +kernel
theorem dX12_nextRow_5 : decode cX12_nextRow 5 = .ok (.isub, 1) := by decide +kernel
theorem dX12_nextRow_6 : decode cX12_nextRow 6 = .ok (.istore_n 1, 1) := by decide +kernel
theorem dX12_nextRow_7 : decode cX12_nextRow 7 = .ok (.iload_n 1, 1) := by decide +kernel
theorem dX12_nextRow_8 : decode cX12_nextRow 8 = .ok (.ifCond .lt 127, 3) := by decide +kernel
theorem dX12_nextRow_11 : decode cX12_nextRow 11 = .ok (.aload_n 0, 1) := by decide +kernel
theorem dX12_nextRow_12 : decode cX12_nextRow 12 = .ok (.getfield 28, 3) := by decide +kernel
theorem dX12_nextRow_15 : decode cX12_nextRow 15 = .ok (.iload_n 1, 1) := by decide +kernel
theorem dX12_nextRow_16 : decode cX12_nextRow 16 = .ok (.iaload, 1) := by decide +kernel
theorem dX12_nextRow_17 : decode cX12_nextRow 17 = .ok (.istore_n 2, 1) := by decide +kernel
theorem dX12_nextRow_18 : decode cX12_nextRow 18 = .ok (.iload_n 2, 1) := by decide +kernel
theorem dX12_nextRow_19 : decode cX12_nextRow 19 = .ok (.iconst (-1), 1) := by decide +kernel
theorem dX12_nextRow_20 : decode cX12_nextRow 20 = .ok (.if_icmp .eq 8, 3) := by decide +kernel
theorem dX12_nextRow_23 : decode cX12_nextRow 23 = .ok (.iload_n 2, 1) := by decide +kernel
theorem dX12_nextRow_24 : decode cX12_nextRow 24 = .ok (.iload_n 1, 1) := by decide +kernel
theorem dX12_nextRow_25 : decode cX12_nextRow 25 = .ok (.if_icmp .le 104, 3) := by decide +kernel
theorem dX12_nextRow_28 : decode cX12_nextRow 28 = .ok (.iload_n 2, 1) := by decide +kernel
theorem dX12_nextRow_29 : decode cX12_nextRow 29 = .ok (.iconst (-1), 1) := by decide +kernel
theorem dX12_nextRow_30 : decode cX12_nextRow 30 = .ok (.if_icmp .eq 17, 3) := by decide +kernel
theorem dX12_nextRow_33 : decode cX12_nextRow 33 = .ok (.aload_n 0, 1) := by decide +kernel
theorem dX12_nextRow_34 : decode cX12_nextRow 34 = .ok (.getfield 28, 3) := by decide +kernel
theorem dX12_nextRow_37 : decode cX12_nextRow 37 = .ok (.iload_n 2, 1) := by decide +kernel
theorem dX12_nextRow_38 : decode cX12_nextRow 38 = .ok (.iconst (-1), 1) := by decide +kernel
theorem dX12_nextRow_39 : decode cX12_nextRow 39 = .ok (.iastore, 1) := by decide +kernel
theorem dX12_nextRow_40 : decode cX12_nextRow 40 = .ok (.aload_n 0, 1) := by decide +kernel
theorem dX12_nextRow_41 : decode cX12_nextRow 41 = .ok (.getfield 28, 3) := by decide +kernel
theorem dX12_nextRow_44 : decode cX12_nextRow 44 = .ok (.iload_n 1, 1) := by decide +kernel
theorem dX12_nextRow_45 : decode cX12_nextRow 45 = .ok (.iconst (-1), 1) := by decide +kernel
theorem dX12_nextRow_46 : decode cX12_nextRow 46 = .ok (.iastore, 1) := by decide +kernel
theorem dX12_nextRow_47 : decode cX12_nextRow 47 = .ok (.iload_n 2, 1) := by decide +kernel
theorem dX12_nextRow_48 : decode cX12_nextRow 48 = .ok (.iconst (-1), 1) := by decide +kernel
theorem dX12_nextRow_49 : decode cX12_nextRow 49 = .ok (.if_icmp .ne 7, 3) := by decide +kernel
theorem dX12_nextRow_52 : decode cX12_nextRow 52 = .ok (.iload_n 1, 1) := by decide +kernel
theorem dX12_nextRow_53 : decode cX12_nextRow 53 = .ok (.goto 4, 3) := by decide +kernel
theorem dX12_nextRow_56 : decode cX12_nextRow 56 = .ok (.iload_n 2, 1) := by decide +kernel
theorem dX12_nextRow_57 : decode cX12_nextRow 57 = .ok (.iconst 1, 1) := by decide +kernel
theorem dX12_nextRow_58 : decode cX12_nextRow 58 = .ok (.iadd, 1) := by decide +kernel
theorem dX12_nextRow_59 : decode cX12_nextRow 59 = .ok (.istore_n 3, 1) := by decide +kernel
theorem dX12_nextRow_60 : decode cX12_nextRow 60 = .ok (.iload_n 3, 1) := by decide +kernel
theorem dX12_nextRow_61 : decode cX12_nextRow 61 = .ok (.aload_n 0, 1) := by decide +kernel
theorem dX12_nextRow_62 : decode cX12_nextRow 62 = .ok (.getfield 85, 3) := by decide +kernel
theorem dX12_nextRow_65 : decode cX12_nextRow 65 = .ok (.if_icmp .ge 64, 3) := by decide +kernel
theorem dX12_nextRow_68 : decode cX12_nextRow 68 = .ok (.aload_n 0, 1) := by decide +kernel
theorem dX12_nextRow_69 : decode cX12_nextRow 69 = .ok (.getfield 28, 3) := by decide +kernel
theorem dX12_nextRow_72 : decode cX12_nextRow 72 = .ok (.iload_n 3, 1) := by decide +kernel
theorem dX12_nextRow_73 : decode cX12_nextRow 73 = .ok (.iaload, 1) := by decide +kernel
theorem dX12_nextRow_74 : decode cX12_nextRow 74 = .ok (.iconst (-1), 1) := by decide +kernel
theorem dX12_nextRow_75 : decode cX12_nextRow 75 = .ok (.if_icmp .ne 48, 3) := by decide +kernel
theorem dX12_nextRow_78 : decode cX12_nextRow 78 = .ok (.aload_n 0, 1) := by decide +kernel
theorem dX12_nextRow_79 : decode cX12_nextRow 79 = .ok (.getfield 22, 3) := by decide +kernel
theorem dX12_nextRow_82 : decode cX12_nextRow 82 = .ok (.iload_n 1, 1) := by decide +kernel
theorem dX12_nextRow_83 : decode cX12_nextRow 83 = .ok (.iaload, 1) := by decide +kernel
theorem dX12_nextRow_84 : decode cX12_nextRow 84 = .ok (.iconst (-1), 1) := by decide +kernel
theorem dX12_nextRow_85 : decode cX12_nextRow 85 = .ok (.if_icmp .ne 38, 3) := by decide +kernel
theorem dX12_nextRow_88 : decode cX12_nextRow 88 = .ok (.aload_n 0, 1) := by decide +kernel
theorem dX12_nextRow_89 : decode cX12_nextRow 89 = .ok (.getfield 22, 3) := by decide +kernel
theorem dX12_nextRow_92 : decode cX12_nextRow 92 = .ok (.iload_n 3, 1) := by decide +kernel
theorem dX12_nextRow_93 : decode cX12_nextRow 93 = .ok (.iaload, 1) := by decide +kernel
theorem dX12_nextRow_94 : decode cX12_nextRow 94 = .ok (.iconst (-1), 1) := by decide +kernel
theorem dX12_nextRow_95 : decode cX12_nextRow 95 = .ok (.if_icmp .ne 28, 3) := by decide +kernel
theorem dX12_nextRow_98 : decode cX12_nextRow 98 = .ok (.aload_n 0, 1) := by decide +kernel
theorem dX12_nextRow_99 : decode cX12_nextRow 99 = .ok (.iload_n 1, 1) := by decide +kernel
theorem dX12_nextRow_100 : decode cX12_nextRow 100 = .ok (.iload_n 3, 1) := by decide +kernel
theorem dX12_nextRow_101 : decode cX12_nextRow 101 = .ok (.invokevirtual 120, 3) := by decide +kernel
theorem dX12_nextRow_104 : decode cX12_nextRow 104 = .ok (.ifCond .eq 19, 3) := by decide +kernel
theorem dX12_nextRow_107 : decode cX12_nextRow 107 = .ok (.aload_n 0, 1) := by decide +kernel
theorem dX12_nextRow_108 : decode cX12_nextRow 108 = .ok (.getfield 28, 3) := by decide +kernel
theorem dX12_nextRow_111 : decode cX12_nextRow 111 = .ok (.iload_n 1, 1) := by decide +kernel
theorem dX12_nextRow_112 : decode cX12_nextRow 112 = .ok (.iload_n 3, 1) := by decide +kernel
theorem dX12_nextRow_113 : decode cX12_nextRow 113 = .ok (.iastore, 1) := by decide +kernel
theorem dX12_nextRow_114 : decode cX12_nextRow 114 = .ok (.aload_n 0, 1) := by decide +kernel
theorem dX12_nextRow_115 : decode cX12_nextRow 115 = .ok (.getfield 28, 3) := by decide +kernel
theorem dX12_nextRow_118 : decode cX12_nextRow 118 = .ok (.iload_n 3, 1) := by decide +kernel
theorem dX12_nextRow_119 : decode cX12_nextRow 119 = .ok (.iload_n 1, 1) := by decide +kernel
theorem dX12_nextRow_120 : decode cX12_nextRow 120 = .ok (.iastore, 1) := by decide +kernel
theorem dX12_nextRow_121 : decode cX12_nextRow 121 = .ok (.iconst 1, 1) := by decide +kernel
theorem dX12_nextRow_122 : decode cX12_nextRow 122 = .ok (.ireturn, 1) := by decide +kernel
theorem dX12_nextRow_123 : decode cX12_nextRow 123 = .ok (.iinc 3 1, 3) := by decide +kernel
theorem dX12_nextRow_126 : decode cX12_nextRow 126 = .ok (.goto (-66), 3) := by decide +kernel
theorem dX12_nextRow_129 : decode cX12_nextRow 129 = .ok (.iinc 1 (-1), 3) := by decide +kernel
theorem dX12_nextRow_132 : decode cX12_nextRow 132 = .ok (.goto (-125), 3) := by decide +kernel
theorem dX12_nextRow_135 : decode cX12_nextRow 135 = .ok (.iconst 0, 1) := by decide +kernel
theorem dX12_nextRow_136 : decode cX12_nextRow 136 = .ok (.ireturn, 1) := by decide +kernel
theorem dX12_likenessRow_0 : decode cX12_likenessRow 0 = .ok (.iconst 0, 1) := by decide +kernel
theorem dX12_likenessRow_1 : decode cX12_likenessRow 1 = .ok (.istore_n 1, 1) := by decide +kernel
theorem dX12_likenessRow_2 : decode cX12_likenessRow 2 = .ok (.iconst 0, 1) := by decide +kernel
theorem dX12_likenessRow_3 : decode cX12_likenessRow 3 = .ok (.istore_n 2, 1) := by decide +kernel
theorem dX12_likenessRow_4 : decode cX12_likenessRow 4 = .ok (.iload_n 2, 1) := by decide +kernel
theorem dX12_likenessRow_5 : decode cX12_likenessRow 5 = .ok (.aload_n 0, 1) := by decide +kernel
theorem dX12_likenessRow_6 : decode cX12_likenessRow 6 = .ok (.getfield 85, 3) := by decide +kernel
theorem dX12_likenessRow_9 : decode cX12_likenessRow 9 = .ok (.if_icmp .ge 37, 3) := by decide +kernel
theorem dX12_likenessRow_12 : decode cX12_likenessRow 12 = .ok (.iload_n 1, 1) := by decide +kernel
theorem dX12_likenessRow_13 : decode cX12_likenessRow 13 = .ok (.aload_n 0, 1) := by decide +kernel
theorem dX12_likenessRow_14 : decode cX12_likenessRow 14 = .ok (.getfield 28, 3) := by decide +kernel
theorem dX12_likenessRow_17 : decode cX12_likenessRow 17 = .ok (.iload_n 2, 1) := by decide +kernel
theorem dX12_likenessRow_18 : decode cX12_likenessRow 18 = .ok (.iaload, 1) := by decide +kernel
theorem dX12_likenessRow_19 : decode cX12_likenessRow 19 = .ok (.iload_n 2, 1) := by decide +kernel
theorem dX12_likenessRow_20 : decode cX12_likenessRow 20 = .ok (.if_icmp .le 17, 3) := by decide +kernel
theorem dX12_likenessRow_23 : decode cX12_likenessRow 23 = .ok (.aload_n 0, 1) := by decide +kernel
theorem dX12_likenessRow_24 : decode cX12_likenessRow 24 = .ok (.iload_n 2, 1) := by decide +kernel
theorem dX12_likenessRow_25 : decode cX12_likenessRow 25 = .ok (.aload_n 0, 1) := by decide +kernel
theorem dX12_likenessRow_26 : decode cX12_likenessRow 26 = .ok (.getfield 28, 3) := by decide +kernel
theorem dX12_likenessRow_29 : decode cX12_likenessRow 29 = .ok (.iload_n 2, 1) := by decide +kernel
theorem dX12_likenessRow_30 : decode cX12_likenessRow 30 = .ok (.iaload, 1) := by decide +kernel
theorem dX12_likenessRow_31 : decode cX12_likenessRow 31 = .ok (.invokevirtual 126, 3) := by decide +kernel
theorem dX12_likenessRow_34 : decode cX12_likenessRow 34 = .ok (.goto 4, 3) := by decide +kernel
theorem dX12_likenessRow_37 : decode cX12_likenessRow 37 = .ok (.iconst 0, 1) := by decide +kernel
theorem dX12_likenessRow_38 : decode cX12_likenessRow 38 = .ok (.iadd, 1) := by decide +kernel
theorem dX12_likenessRow_39 : decode cX12_likenessRow 39 = .ok (.istore_n 1, 1) := by decide +kernel
theorem dX12_likenessRow_40 : decode cX12_likenessRow 40 = .ok (.iinc 2 1, 3) := by decide +kernel
theorem dX12_likenessRow_43 : decode cX12_likenessRow 43 = .ok (.goto (-39), 3) := by decide +kernel
theorem dX12_likenessRow_46 : decode cX12_likenessRow 46 = .ok (.iload_n 1, 1) := by decide +kernel
theorem dX12_likenessRow_47 : decode cX12_likenessRow 47 = .ok (.ireturn, 1) := by decide +kernel
theorem dX12_milesRow_0 : decode cX12_milesRow 0 = .ok (.iconst 0, 1) := by decide +kernel
theorem dX12_milesRow_1 : decode cX12_milesRow 1 = .ok (.istore_n 1, 1) := by decide +kernel
theorem dX12_milesRow_2 : decode cX12_milesRow 2 = .ok (.iconst 0, 1) := by decide +kernel
theorem dX12_milesRow_3 : decode cX12_milesRow 3 = .ok (.istore_n 2, 1) := by decide +kernel
theorem dX12_milesRow_4 : decode cX12_milesRow 4 = .ok (.iload_n 2, 1) := by decide +kernel
theorem dX12_milesRow_5 : decode cX12_milesRow 5 = .ok (.aload_n 0, 1) := by decide +kernel
theorem dX12_milesRow_6 : decode cX12_milesRow 6 = .ok (.getfield 85, 3) := by decide +kernel
theorem dX12_milesRow_9 : decode cX12_milesRow 9 = .ok (.if_icmp .ge 46, 3) := by decide +kernel
theorem dX12_milesRow_12 : decode cX12_milesRow 12 = .ok (.iload_n 1, 1) := by decide +kernel
theorem dX12_milesRow_13 : decode cX12_milesRow 13 = .ok (.aload_n 0, 1) := by decide +kernel
theorem dX12_milesRow_14 : decode cX12_milesRow 14 = .ok (.getfield 28, 3) := by decide +kernel
theorem dX12_milesRow_17 : decode cX12_milesRow 17 = .ok (.iload_n 2, 1) := by decide +kernel
theorem dX12_milesRow_18 : decode cX12_milesRow 18 = .ok (.iaload, 1) := by decide +kernel
theorem dX12_milesRow_19 : decode cX12_milesRow 19 = .ok (.iload_n 2, 1) := by decide +kernel
theorem dX12_milesRow_20 : decode cX12_milesRow 20 = .ok (.if_icmp .le 26, 3) := by decide +kernel
theorem dX12_milesRow_23 : decode cX12_milesRow 23 = .ok (.aload_n 0, 1) := by decide +kernel
theorem dX12_milesRow_24 : decode cX12_milesRow 24 = .ok (.getfield 19, 3) := by decide +kernel
theorem dX12_milesRow_27 : decode cX12_milesRow 27 = .ok (.iload_n 2, 1) := by decide +kernel
theorem dX12_milesRow_28 : decode cX12_milesRow 28 = .ok (.iaload, 1) := by decide +kernel
theorem dX12_milesRow_29 : decode cX12_milesRow 29 = .ok (.aload_n 0, 1) := by decide +kernel
theorem dX12_milesRow_30 : decode cX12_milesRow 30 = .ok (.getfield 19, 3) := by decide +kernel
theorem dX12_milesRow_33 : decode cX12_milesRow 33 = .ok (.aload_n 0, 1) := by decide +kernel
theorem dX12_milesRow_34 : decode cX12_milesRow 34 = .ok (.getfield 28, 3) := by decide +kernel
theorem dX12_milesRow_37 : decode cX12_milesRow 37 = .ok (.iload_n 2, 1) := by decide +kernel
theorem dX12_milesRow_38 : decode cX12_milesRow 38 = .ok (.iaload, 1) := by decide +kernel
theorem dX12_milesRow_39 : decode cX12_milesRow 39 = .ok (.iaload, 1) := by decide +kernel
theorem dX12_milesRow_40 : decode cX12_milesRow 40 = .ok (.invokestatic 116, 3) := by decide +kernel
theorem dX12_milesRow_43 : decode cX12_milesRow 43 = .ok (.goto 4, 3) := by decide +kernel
theorem dX12_milesRow_46 : decode cX12_milesRow 46 = .ok (.iconst 0, 1) := by decide +kernel
theorem dX12_milesRow_47 : decode cX12_milesRow 47 = .ok (.iadd, 1) := by decide +kernel
theorem dX12_milesRow_48 : decode cX12_milesRow 48 = .ok (.istore_n 1, 1) := by decide +kernel
theorem dX12_milesRow_49 : decode cX12_milesRow 49 = .ok (.iinc 2 1, 3) := by decide +kernel
theorem dX12_milesRow_52 : decode cX12_milesRow 52 = .ok (.goto (-48), 3) := by decide +kernel
theorem dX12_milesRow_55 : decode cX12_milesRow 55 = .ok (.iload_n 1, 1) := by decide +kernel
theorem dX12_milesRow_56 : decode cX12_milesRow 56 = .ok (.ireturn, 1) := by decide +kernel
theorem dX12_mostOf_0 : decode cX12_mostOf 0 = .ok (.aload_n 0, 1) := by decide +kernel
theorem dX12_mostOf_1 : decode cX12_mostOf 1 = .ok (.invokevirtual 175, 3) := by decide +kernel
theorem dX12_mostOf_4 : decode cX12_mostOf 4 = .ok (.iconst 0, 1) := by decide +kernel
theorem dX12_mostOf_5 : decode cX12_mostOf 5 = .ok (.istore_n 2, 1) := by decide +kernel
theorem dX12_mostOf_6 : decode cX12_mostOf 6 = .ok (.iconst 0, 1) := by decide +kernel
theorem dX12_mostOf_7 : decode cX12_mostOf 7 = .ok (.istore_n 3, 1) := by decide +kernel
theorem dX12_mostOf_8 : decode cX12_mostOf 8 = .ok (.aload_n 0, 1) := by decide +kernel
theorem dX12_mostOf_9 : decode cX12_mostOf 9 = .ok (.invokevirtual 178, 3) := by decide +kernel
theorem dX12_mostOf_12 : decode cX12_mostOf 12 = .ok (.ifCond .eq 57, 3) := by decide +kernel
theorem dX12_mostOf_15 : decode cX12_mostOf 15 = .ok (.aload_n 0, 1) := by decide +kernel
theorem dX12_mostOf_16 : decode cX12_mostOf 16 = .ok (.aload_n 0, 1) := by decide +kernel
theorem dX12_mostOf_17 : decode cX12_mostOf 17 = .ok (.getfield 28, 3) := by decide +kernel
theorem dX12_mostOf_20 : decode cX12_mostOf 20 = .ok (.invokevirtual 171, 3) := by decide +kernel
theorem dX12_mostOf_23 : decode cX12_mostOf 23 = .ok (.istore 4, 2) := by decide +kernel
theorem dX12_mostOf_25 : decode cX12_mostOf 25 = .ok (.aload_n 0, 1) := by decide +kernel
theorem dX12_mostOf_26 : decode cX12_mostOf 26 = .ok (.invokevirtual 181, 3) := by decide +kernel
theorem dX12_mostOf_29 : decode cX12_mostOf 29 = .ok (.istore 5, 2) := by decide +kernel
theorem dX12_mostOf_31 : decode cX12_mostOf 31 = .ok (.iload 4, 2) := by decide +kernel
theorem dX12_mostOf_33 : decode cX12_mostOf 33 = .ok (.iload_n 2, 1) := by decide +kernel
theorem dX12_mostOf_34 : decode cX12_mostOf 34 = .ok (.if_icmp .gt 15, 3) := by decide +kernel
theorem dX12_mostOf_37 : decode cX12_mostOf 37 = .ok (.iload 4, 2) := by decide +kernel
theorem dX12_mostOf_39 : decode cX12_mostOf 39 = .ok (.iload_n 2, 1) := by decide +kernel
theorem dX12_mostOf_40 : decode cX12_mostOf 40 = .ok (.if_icmp .ne 26, 3) := by decide +kernel
theorem dX12_mostOf_43 : decode cX12_mostOf 43 = .ok (.iload 5, 2) := by decide +kernel
theorem dX12_mostOf_45 : decode cX12_mostOf 45 = .ok (.iload_n 3, 1) := by decide +kernel
theorem dX12_mostOf_46 : decode cX12_mostOf 46 = .ok (.if_icmp .le 20, 3) := by decide +kernel
theorem dX12_mostOf_49 : decode cX12_mostOf 49 = .ok (.iload 4, 2) := by decide +kernel
theorem dX12_mostOf_51 : decode cX12_mostOf 51 = .ok (.istore_n 2, 1) := by decide +kernel
theorem dX12_mostOf_52 : decode cX12_mostOf 52 = .ok (.iload 5, 2) := by decide +kernel
theorem dX12_mostOf_54 : decode cX12_mostOf 54 = .ok (.istore_n 3, 1) := by decide +kernel
theorem dX12_mostOf_55 : decode cX12_mostOf 55 = .ok (.aload_n 0, 1) := by decide +kernel
theorem dX12_mostOf_56 : decode cX12_mostOf 56 = .ok (.getfield 28, 3) := by decide +kernel
theorem dX12_mostOf_59 : decode cX12_mostOf 59 = .ok (.aload_n 0, 1) := by decide +kernel
theorem dX12_mostOf_60 : decode cX12_mostOf 60 = .ok (.getfield 31, 3) := by decide +kernel
theorem dX12_mostOf_63 : decode cX12_mostOf 63 = .ok (.invokestatic 167, 3) := by decide +kernel
theorem dX12_mostOf_66 : decode cX12_mostOf 66 = .ok (.goto (-58), 3) := by decide +kernel
theorem dX12_mostOf_69 : decode cX12_mostOf 69 = .ok (.iload_n 1, 1) := by decide +kernel
theorem dX12_mostOf_70 : decode cX12_mostOf 70 = .ok (.ifCond .ne 7, 3) := by decide +kernel
theorem dX12_mostOf_73 : decode cX12_mostOf 73 = .ok (.iload_n 2, 1) := by decide +kernel
theorem dX12_mostOf_74 : decode cX12_mostOf 74 = .ok (.goto 21, 3) := by decide +kernel
theorem dX12_mostOf_77 : decode cX12_mostOf 77 = .ok (.iload_n 1, 1) := by decide +kernel
theorem dX12_mostOf_78 : decode cX12_mostOf 78 = .ok (.iconst 1, 1) := by decide +kernel
theorem dX12_mostOf_79 : decode cX12_mostOf 79 = .ok (.if_icmp .ne 7, 3) := by decide +kernel
theorem dX12_mostOf_82 : decode cX12_mostOf 82 = .ok (.iload_n 3, 1) := by decide +kernel
theorem dX12_mostOf_83 : decode cX12_mostOf 83 = .ok (.goto 12, 3) := by decide +kernel
theorem dX12_mostOf_86 : decode cX12_mostOf 86 = .ok (.aload_n 0, 1) := by decide +kernel
theorem dX12_mostOf_87 : decode cX12_mostOf 87 = .ok (.getfield 31, 3) := by decide +kernel
theorem dX12_mostOf_90 : decode cX12_mostOf 90 = .ok (.iload_n 1, 1) := by decide +kernel
theorem dX12_mostOf_91 : decode cX12_mostOf 91 = .ok (.bipush 10, 2) := by decide +kernel
theorem dX12_mostOf_93 : decode cX12_mostOf 93 = .ok (.isub, 1) := by decide +kernel
theorem dX12_mostOf_94 : decode cX12_mostOf 94 = .ok (.iaload, 1) := by decide +kernel
theorem dX12_mostOf_95 : decode cX12_mostOf 95 = .ok (.ireturn, 1) := by decide +kernel
theorem dX12_isRowWhat_0 : decode cX12_isRowWhat 0 = .ok (.iload_n 0, 1) := by decide +kernel
theorem dX12_isRowWhat_1 : decode cX12_isRowWhat 1 = .ok (.i2l, 1) := by decide +kernel
theorem dX12_isRowWhat_2 : decode cX12_isRowWhat 2 = .ok (.lconst 0, 1) := by decide +kernel
theorem dX12_isRowWhat_3 : decode cX12_isRowWhat 3 = .ok (.lconst 1, 1) := by decide +kernel
theorem dX12_isRowWhat_4 : decode cX12_isRowWhat 4 = .ok (.invokestatic 58, 3) := by decide +kernel
theorem dX12_isRowWhat_7 : decode cX12_isRowWhat 7 = .ok (.ifCond .ne 17, 3) := by decide +kernel
theorem dX12_isRowWhat_10 : decode cX12_isRowWhat 10 = .ok (.iload_n 0, 1) := by decide +kernel
theorem dX12_isRowWhat_11 : decode cX12_isRowWhat 11 = .ok (.i2l, 1) := by decide +kernel
theorem dX12_isRowWhat_12 : decode cX12_isRowWhat 12 = .ok (.ldc2_w 184, 3) := by decide +kernel
theorem dX12_isRowWhat_15 : decode cX12_isRowWhat 15 = .ok (.ldc2_w 186, 3) := by decide +kernel
theorem dX12_isRowWhat_18 : decode cX12_isRowWhat 18 = .ok (.invokestatic 58, 3) := by decide +kernel
theorem dX12_isRowWhat_21 : decode cX12_isRowWhat 21 = .ok (.ifCond .eq 7, 3) := by decide +kernel
theorem dX12_isRowWhat_24 : decode cX12_isRowWhat 24 = .ok (.iconst 1, 1) := by decide +kernel
theorem dX12_isRowWhat_25 : decode cX12_isRowWhat 25 = .ok (.goto 4, 3) := by decide +kernel
theorem dX12_isRowWhat_28 : decode cX12_isRowWhat 28 = .ok (.iconst 0, 1) := by decide +kernel
theorem dX12_isRowWhat_29 : decode cX12_isRowWhat 29 = .ok (.ireturn, 1) := by decide +kernel
theorem dX12_most_0 : decode cX12_most 0 = .ok (.iload_n 1, 1) := by decide +kernel
theorem dX12_most_1 : decode cX12_most 1 = .ok (.invokestatic 188, 3) := by decide +kernel
theorem dX12_most_4 : decode cX12_most 4 = .ok (.ifCond .ne 6, 3) := by decide +kernel
theorem dX12_most_7 : decode cX12_most 7 = .ok (.bipush (-102), 2) := by decide +kernel
theorem dX12_most_9 : decode cX12_most 9 = .ok (.ireturn, 1) := by decide +kernel
theorem dX12_most_10 : decode cX12_most 10 = .ok (.aload_n 0, 1) := by decide +kernel
theorem dX12_most_11 : decode cX12_most 11 = .ok (.invokevirtual 163, 3) := by decide +kernel
theorem dX12_most_14 : decode cX12_most 14 = .ok (.ifCond .eq 8, 3) := by decide +kernel
theorem dX12_most_17 : decode cX12_most 17 = .ok (.bipush (-103), 2) := by decide +kernel
theorem dX12_most_19 : decode cX12_most 19 = .ok (.goto 8, 3) := by decide +kernel
theorem dX12_most_22 : decode cX12_most 22 = .ok (.aload_n 0, 1) := by decide +kernel
theorem dX12_most_23 : decode cX12_most 23 = .ok (.iload_n 1, 1) := by decide +kernel
theorem dX12_most_24 : decode cX12_most 24 = .ok (.invokevirtual 191, 3) := by decide +kernel
theorem dX12_most_27 : decode cX12_most 27 = .ok (.ireturn, 1) := by decide +kernel
theorem dX12_bestOf_0 : decode cX12_bestOf 0 = .ok (.aload_n 0, 1) := by decide +kernel
theorem dX12_bestOf_1 : decode cX12_bestOf 1 = .ok (.invokevirtual 175, 3) := by decide +kernel
theorem dX12_bestOf_4 : decode cX12_bestOf 4 = .ok (.iconst 0, 1) := by decide +kernel
theorem dX12_bestOf_5 : decode cX12_bestOf 5 = .ok (.istore_n 3, 1) := by decide +kernel
theorem dX12_bestOf_6 : decode cX12_bestOf 6 = .ok (.iconst 0, 1) := by decide +kernel
theorem dX12_bestOf_7 : decode cX12_bestOf 7 = .ok (.istore 4, 2) := by decide +kernel
theorem dX12_bestOf_9 : decode cX12_bestOf 9 = .ok (.aload_n 0, 1) := by decide +kernel
theorem dX12_bestOf_10 : decode cX12_bestOf 10 = .ok (.invokevirtual 178, 3) := by decide +kernel
theorem dX12_bestOf_13 : decode cX12_bestOf 13 = .ok (.ifCond .eq 61, 3) := by decide +kernel
theorem dX12_bestOf_16 : decode cX12_bestOf 16 = .ok (.aload_n 0, 1) := by decide +kernel
theorem dX12_bestOf_17 : decode cX12_bestOf 17 = .ok (.invokevirtual 181, 3) := by decide +kernel
theorem dX12_bestOf_20 : decode cX12_bestOf 20 = .ok (.istore 5, 2) := by decide +kernel
theorem dX12_bestOf_22 : decode cX12_bestOf 22 = .ok (.aload_n 0, 1) := by decide +kernel
theorem dX12_bestOf_23 : decode cX12_bestOf 23 = .ok (.invokevirtual 194, 3) := by decide +kernel
theorem dX12_bestOf_26 : decode cX12_bestOf 26 = .ok (.istore 6, 2) := by decide +kernel
theorem dX12_bestOf_28 : decode cX12_bestOf 28 = .ok (.iload 6, 2) := by decide +kernel
theorem dX12_bestOf_30 : decode cX12_bestOf 30 = .ok (.iload_n 1, 1) := by decide +kernel
theorem dX12_bestOf_31 : decode cX12_bestOf 31 = .ok (.if_icmp .gt 40, 3) := by decide +kernel
theorem dX12_bestOf_34 : decode cX12_bestOf 34 = .ok (.iload 5, 2) := by decide +kernel
theorem dX12_bestOf_36 : decode cX12_bestOf 36 = .ok (.iload_n 3, 1) := by decide +kernel
theorem dX12_bestOf_37 : decode cX12_bestOf 37 = .ok (.if_icmp .gt 16, 3) := by decide +kernel
theorem dX12_bestOf_40 : decode cX12_bestOf 40 = .ok (.iload 5, 2) := by decide +kernel
theorem dX12_bestOf_42 : decode cX12_bestOf 42 = .ok (.iload_n 3, 1) := by decide +kernel
theorem dX12_bestOf_43 : decode cX12_bestOf 43 = .ok (.if_icmp .ne 28, 3) := by decide +kernel
theorem dX12_bestOf_46 : decode cX12_bestOf 46 = .ok (.iload 6, 2) := by decide +kernel
theorem dX12_bestOf_48 : decode cX12_bestOf 48 = .ok (.iload 4, 2) := by decide +kernel
theorem dX12_bestOf_50 : decode cX12_bestOf 50 = .ok (.if_icmp .ge 21, 3) := by decide +kernel
theorem dX12_bestOf_53 : decode cX12_bestOf 53 = .ok (.iload 5, 2) := by decide +kernel
theorem dX12_bestOf_55 : decode cX12_bestOf 55 = .ok (.istore_n 3, 1) := by decide +kernel
theorem dX12_bestOf_56 : decode cX12_bestOf 56 = .ok (.iload 6, 2) := by decide +kernel
theorem dX12_bestOf_58 : decode cX12_bestOf 58 = .ok (.istore 4, 2) := by decide +kernel
theorem dX12_bestOf_60 : decode cX12_bestOf 60 = .ok (.aload_n 0, 1) := by decide +kernel
theorem dX12_bestOf_61 : decode cX12_bestOf 61 = .ok (.getfield 28, 3) := by decide +kernel
theorem dX12_bestOf_64 : decode cX12_bestOf 64 = .ok (.aload_n 0, 1) := by decide +kernel
theorem dX12_bestOf_65 : decode cX12_bestOf 65 = .ok (.getfield 31, 3) := by decide +kernel
theorem dX12_bestOf_68 : decode cX12_bestOf 68 = .ok (.invokestatic 167, 3) := by decide +kernel
theorem dX12_bestOf_71 : decode cX12_bestOf 71 = .ok (.goto (-62), 3) := by decide +kernel
theorem dX12_bestOf_74 : decode cX12_bestOf 74 = .ok (.iload_n 2, 1) := by decide +kernel
theorem dX12_bestOf_75 : decode cX12_bestOf 75 = .ok (.ifCond .ne 7, 3) := by decide +kernel
theorem dX12_bestOf_78 : decode cX12_bestOf 78 = .ok (.iload_n 3, 1) := by decide +kernel
theorem dX12_bestOf_79 : decode cX12_bestOf 79 = .ok (.goto 22, 3) := by decide +kernel
theorem dX12_bestOf_82 : decode cX12_bestOf 82 = .ok (.iload_n 2, 1) := by decide +kernel
theorem dX12_bestOf_83 : decode cX12_bestOf 83 = .ok (.iconst 1, 1) := by decide +kernel
theorem dX12_bestOf_84 : decode cX12_bestOf 84 = .ok (.if_icmp .ne 8, 3) := by decide +kernel
theorem dX12_bestOf_87 : decode cX12_bestOf 87 = .ok (.iload 4, 2) := by decide +kernel
theorem dX12_bestOf_89 : decode cX12_bestOf 89 = .ok (.goto 12, 3) := by decide +kernel
theorem dX12_bestOf_92 : decode cX12_bestOf 92 = .ok (.aload_n 0, 1) := by decide +kernel
theorem dX12_bestOf_93 : decode cX12_bestOf 93 = .ok (.getfield 31, 3) := by decide +kernel
theorem dX12_bestOf_96 : decode cX12_bestOf 96 = .ok (.iload_n 2, 1) := by decide +kernel
theorem dX12_bestOf_97 : decode cX12_bestOf 97 = .ok (.bipush 10, 2) := by decide +kernel
theorem dX12_bestOf_99 : decode cX12_bestOf 99 = .ok (.isub, 1) := by decide +kernel
theorem dX12_bestOf_100 : decode cX12_bestOf 100 = .ok (.iaload, 1) := by decide +kernel
theorem dX12_bestOf_101 : decode cX12_bestOf 101 = .ok (.ireturn, 1) := by decide +kernel
theorem dX12_best_0 : decode cX12_best 0 = .ok (.iload_n 1, 1) := by decide +kernel
theorem dX12_best_1 : decode cX12_best 1 = .ok (.i2l, 1) := by decide +kernel
theorem dX12_best_2 : decode cX12_best 2 = .ok (.lconst 0, 1) := by decide +kernel
theorem dX12_best_3 : decode cX12_best 3 = .ok (.ldc2_w 197, 3) := by decide +kernel
theorem dX12_best_6 : decode cX12_best 6 = .ok (.invokestatic 58, 3) := by decide +kernel
theorem dX12_best_9 : decode cX12_best 9 = .ok (.ifCond .eq 10, 3) := by decide +kernel
theorem dX12_best_12 : decode cX12_best 12 = .ok (.iload_n 2, 1) := by decide +kernel
theorem dX12_best_13 : decode cX12_best 13 = .ok (.invokestatic 188, 3) := by decide +kernel
theorem dX12_best_16 : decode cX12_best 16 = .ok (.ifCond .ne 6, 3) := by decide +kernel
theorem dX12_best_19 : decode cX12_best 19 = .ok (.bipush (-102), 2) := by decide +kernel
theorem dX12_best_21 : decode cX12_best 21 = .ok (.ireturn, 1) := by decide +kernel
theorem dX12_best_22 : decode cX12_best 22 = .ok (.aload_n 0, 1) := by decide +kernel
theorem dX12_best_23 : decode cX12_best 23 = .ok (.invokevirtual 163, 3) := by decide +kernel
theorem dX12_best_26 : decode cX12_best 26 = .ok (.ifCond .eq 8, 3) := by decide +kernel
theorem dX12_best_29 : decode cX12_best 29 = .ok (.bipush (-103), 2) := by decide +kernel
theorem dX12_best_31 : decode cX12_best 31 = .ok (.goto 9, 3) := by decide +kernel
theorem dX12_best_34 : decode cX12_best 34 = .ok (.aload_n 0, 1) := by decide +kernel
theorem dX12_best_35 : decode cX12_best 35 = .ok (.iload_n 1, 1) := by decide +kernel
theorem dX12_best_36 : decode cX12_best 36 = .ok (.iload_n 2, 1) := by decide +kernel
theorem dX12_best_37 : decode cX12_best 37 = .ok (.invokevirtual 199, 3) := by decide +kernel
theorem dX12_best_40 : decode cX12_best 40 = .ok (.ireturn, 1) := by decide +kernel
theorem dX12_isStable_0 : decode cX12_isStable 0 = .ok (.iconst 1, 1) := by decide +kernel
theorem dX12_isStable_1 : decode cX12_isStable 1 = .ok (.istore_n 1, 1) := by decide +kernel
theorem dX12_isStable_2 : decode cX12_isStable 2 = .ok (.iconst 0, 1) := by decide +kernel
theorem dX12_isStable_3 : decode cX12_isStable 3 = .ok (.istore_n 2, 1) := by decide +kernel
theorem dX12_isStable_4 : decode cX12_isStable 4 = .ok (.iload_n 2, 1) := by decide +kernel
theorem dX12_isStable_5 : decode cX12_isStable 5 = .ok (.aload_n 0, 1) := by decide +kernel
theorem dX12_isStable_6 : decode cX12_isStable 6 = .ok (.getfield 85, 3) := by decide +kernel
theorem dX12_isStable_9 : decode cX12_isStable 9 = .ok (.if_icmp .ge 130, 3) := by decide +kernel
theorem dX12_isStable_12 : decode cX12_isStable 12 = .ok (.iload_n 2, 1) := by decide +kernel
theorem dX12_isStable_13 : decode cX12_isStable 13 = .ok (.iconst 1, 1) := by decide +kernel
theorem dX12_isStable_14 : decode cX12_isStable 14 = .ok (.iadd, 1) := by decide +kernel
theorem dX12_isStable_15 : decode cX12_isStable 15 = .ok (.istore_n 3, 1) := by decide +kernel
theorem dX12_isStable_16 : decode cX12_isStable 16 = .ok (.iload_n 3, 1) := by decide +kernel
theorem dX12_isStable_17 : decode cX12_isStable 17 = .ok (.aload_n 0, 1) := by decide +kernel
theorem dX12_isStable_18 : decode cX12_isStable 18 = .ok (.getfield 85, 3) := by decide +kernel
theorem dX12_isStable_21 : decode cX12_isStable 21 = .ok (.if_icmp .ge 112, 3) := by decide +kernel
theorem dX12_isStable_24 : decode cX12_isStable 24 = .ok (.aload_n 0, 1) := by decide +kernel
theorem dX12_isStable_25 : decode cX12_isStable 25 = .ok (.getfield 22, 3) := by decide +kernel
theorem dX12_isStable_28 : decode cX12_isStable 28 = .ok (.iload_n 2, 1) := by decide +kernel
theorem dX12_isStable_29 : decode cX12_isStable 29 = .ok (.iaload, 1) := by decide +kernel
theorem dX12_isStable_30 : decode cX12_isStable 30 = .ok (.iconst (-1), 1) := by decide +kernel
theorem dX12_isStable_31 : decode cX12_isStable 31 = .ok (.if_icmp .ne 17, 3) := by decide +kernel
theorem dX12_isStable_34 : decode cX12_isStable 34 = .ok (.aload_n 0, 1) := by decide +kernel
theorem dX12_isStable_35 : decode cX12_isStable 35 = .ok (.getfield 22, 3) := by decide +kernel
theorem dX12_isStable_38 : decode cX12_isStable 38 = .ok (.iload_n 3, 1) := by decide +kernel
theorem dX12_isStable_39 : decode cX12_isStable 39 = .ok (.iaload, 1) := by decide +kernel
theorem dX12_isStable_40 : decode cX12_isStable 40 = .ok (.iconst (-1), 1) := by decide +kernel
theorem dX12_isStable_41 : decode cX12_isStable 41 = .ok (.if_icmp .ne 7, 3) := by decide +kernel
theorem dX12_isStable_44 : decode cX12_isStable 44 = .ok (.iconst 1, 1) := by decide +kernel
theorem dX12_isStable_45 : decode cX12_isStable 45 = .ok (.goto 4, 3) := by decide +kernel
theorem dX12_isStable_48 : decode cX12_isStable 48 = .ok (.iconst 0, 1) := by decide +kernel
theorem dX12_isStable_49 : decode cX12_isStable 49 = .ok (.istore 4, 2) := by decide +kernel
theorem dX12_isStable_51 : decode cX12_isStable 51 = .ok (.iload 4, 2) := by decide +kernel
theorem dX12_isStable_53 : decode cX12_isStable 53 = .ok (.ifCond .eq 56, 3) := by decide +kernel
theorem dX12_isStable_56 : decode cX12_isStable 56 = .ok (.aload_n 0, 1) := by decide +kernel
theorem dX12_isStable_57 : decode cX12_isStable 57 = .ok (.iload_n 2, 1) := by decide +kernel
theorem dX12_isStable_58 : decode cX12_isStable 58 = .ok (.iload_n 3, 1) := by decide +kernel
theorem dX12_isStable_59 : decode cX12_isStable 59 = .ok (.invokevirtual 120, 3) := by decide +kernel
theorem dX12_isStable_62 : decode cX12_isStable 62 = .ok (.ifCond .eq 47, 3) := by decide +kernel
theorem dX12_isStable_65 : decode cX12_isStable 65 = .ok (.aload_n 0, 1) := by decide +kernel
theorem dX12_isStable_66 : decode cX12_isStable 66 = .ok (.getfield 28, 3) := by decide +kernel
theorem dX12_isStable_69 : decode cX12_isStable 69 = .ok (.iload_n 2, 1) := by decide +kernel
theorem dX12_isStable_70 : decode cX12_isStable 70 = .ok (.iaload, 1) := by decide +kernel
theorem dX12_isStable_71 : decode cX12_isStable 71 = .ok (.iload_n 3, 1) := by decide +kernel
theorem dX12_isStable_72 : decode cX12_isStable 72 = .ok (.if_icmp .eq 37, 3) := by decide +kernel
theorem dX12_isStable_75 : decode cX12_isStable 75 = .ok (.aload_n 0, 1) := by decide +kernel
theorem dX12_isStable_76 : decode cX12_isStable 76 = .ok (.iload_n 2, 1) := by decide +kernel
theorem dX12_isStable_77 : decode cX12_isStable 77 = .ok (.iload_n 3, 1) := by decide +kernel
theorem dX12_isStable_78 : decode cX12_isStable 78 = .ok (.aload_n 0, 1) := by decide +kernel
theorem dX12_isStable_79 : decode cX12_isStable 79 = .ok (.getfield 28, 3) := by decide +kernel
theorem dX12_isStable_82 : decode cX12_isStable 82 = .ok (.iload_n 2, 1) := by decide +kernel
theorem dX12_isStable_83 : decode cX12_isStable 83 = .ok (.iaload, 1) := by decide +kernel
theorem dX12_isStable_84 : decode cX12_isStable 84 = .ok (.invokevirtual 129, 3) := by decide +kernel
theorem dX12_isStable_87 : decode cX12_isStable 87 = .ok (.ifCond .eq 22, 3) := by decide +kernel
theorem dX12_isStable_90 : decode cX12_isStable 90 = .ok (.aload_n 0, 1) := by decide +kernel
theorem dX12_isStable_91 : decode cX12_isStable 91 = .ok (.iload_n 3, 1) := by decide +kernel
theorem dX12_isStable_92 : decode cX12_isStable 92 = .ok (.iload_n 2, 1) := by decide +kernel
theorem dX12_isStable_93 : decode cX12_isStable 93 = .ok (.aload_n 0, 1) := by decide +kernel
theorem dX12_isStable_94 : decode cX12_isStable 94 = .ok (.getfield 28, 3) := by decide +kernel
theorem dX12_isStable_97 : decode cX12_isStable 97 = .ok (.iload_n 3, 1) := by decide +kernel
theorem dX12_isStable_98 : decode cX12_isStable 98 = .ok (.iaload, 1) := by decide +kernel
theorem dX12_isStable_99 : decode cX12_isStable 99 = .ok (.invokevirtual 129, 3) := by decide +kernel
theorem dX12_isStable_102 : decode cX12_isStable 102 = .ok (.ifCond .eq 7, 3) := by decide +kernel
theorem dX12_isStable_105 : decode cX12_isStable 105 = .ok (.iconst 1, 1) := by decide +kernel
theorem dX12_isStable_106 : decode cX12_isStable 106 = .ok (.goto 4, 3) := by decide +kernel
theorem dX12_isStable_109 : decode cX12_isStable 109 = .ok (.iconst 0, 1) := by decide +kernel
theorem dX12_isStable_110 : decode cX12_isStable 110 = .ok (.istore 5, 2) := by decide +kernel
theorem dX12_isStable_112 : decode cX12_isStable 112 = .ok (.iload_n 1, 1) := by decide +kernel
theorem dX12_isStable_113 : decode cX12_isStable 113 = .ok (.ifCond .eq 12, 3) := by decide +kernel
theorem dX12_isStable_116 : decode cX12_isStable 116 = .ok (.iload 5, 2) := by decide +kernel
theorem dX12_isStable_118 : decode cX12_isStable 118 = .ok (.ifCond .ne 7, 3) := by decide +kernel
theorem dX12_isStable_121 : decode cX12_isStable 121 = .ok (.iconst 1, 1) := by decide +kernel
theorem dX12_isStable_122 : decode cX12_isStable 122 = .ok (.goto 4, 3) := by decide +kernel
theorem dX12_isStable_125 : decode cX12_isStable 125 = .ok (.iconst 0, 1) := by decide +kernel
theorem dX12_isStable_126 : decode cX12_isStable 126 = .ok (.istore_n 1, 1) := by decide +kernel
theorem dX12_isStable_127 : decode cX12_isStable 127 = .ok (.iinc 3 1, 3) := by decide +kernel
theorem dX12_isStable_130 : decode cX12_isStable 130 = .ok (.goto (-114), 3) := by decide +kernel
theorem dX12_isStable_133 : decode cX12_isStable 133 = .ok (.iinc 2 1, 3) := by decide +kernel
theorem dX12_isStable_136 : decode cX12_isStable 136 = .ok (.goto (-132), 3) := by decide +kernel
theorem dX12_isStable_139 : decode cX12_isStable 139 = .ok (.iload_n 1, 1) := by decide +kernel
theorem dX12_isStable_140 : decode cX12_isStable 140 = .ok (.ireturn, 1) := by decide +kernel
theorem dX12_stableOf_0 : decode cX12_stableOf 0 = .ok (.aload_n 0, 1) := by decide +kernel
theorem dX12_stableOf_1 : decode cX12_stableOf 1 = .ok (.invokevirtual 175, 3) := by decide +kernel
theorem dX12_stableOf_4 : decode cX12_stableOf 4 = .ok (.iconst 0, 1) := by decide +kernel
theorem dX12_stableOf_5 : decode cX12_stableOf 5 = .ok (.istore_n 2, 1) := by decide +kernel
theorem dX12_stableOf_6 : decode cX12_stableOf 6 = .ok (.iconst (-1), 1) := by decide +kernel
theorem dX12_stableOf_7 : decode cX12_stableOf 7 = .ok (.istore_n 3, 1) := by decide +kernel
theorem dX12_stableOf_8 : decode cX12_stableOf 8 = .ok (.iconst 1, 1) := by decide +kernel
theorem dX12_stableOf_9 : decode cX12_stableOf 9 = .ok (.istore 4, 2) := by decide +kernel
theorem dX12_stableOf_11 : decode cX12_stableOf 11 = .ok (.iload 4, 2) := by decide +kernel
theorem dX12_stableOf_13 : decode cX12_stableOf 13 = .ok (.ifCond .eq 61, 3) := by decide +kernel
theorem dX12_stableOf_16 : decode cX12_stableOf 16 = .ok (.aload_n 0, 1) := by decide +kernel
theorem dX12_stableOf_17 : decode cX12_stableOf 17 = .ok (.invokevirtual 202, 3) := by decide +kernel
theorem dX12_stableOf_20 : decode cX12_stableOf 20 = .ok (.istore 5, 2) := by decide +kernel
theorem dX12_stableOf_22 : decode cX12_stableOf 22 = .ok (.iload_n 2, 1) := by decide +kernel
theorem dX12_stableOf_23 : decode cX12_stableOf 23 = .ok (.iload 5, 2) := by decide +kernel
theorem dX12_stableOf_25 : decode cX12_stableOf 25 = .ok (.ifCond .eq 7, 3) := by decide +kernel
theorem dX12_stableOf_28 : decode cX12_stableOf 28 = .ok (.iconst 1, 1) := by decide +kernel
theorem dX12_stableOf_29 : decode cX12_stableOf 29 = .ok (.goto 4, 3) := by decide +kernel
theorem dX12_stableOf_32 : decode cX12_stableOf 32 = .ok (.iconst 0, 1) := by decide +kernel
theorem dX12_stableOf_33 : decode cX12_stableOf 33 = .ok (.iadd, 1) := by decide +kernel
theorem dX12_stableOf_34 : decode cX12_stableOf 34 = .ok (.istore_n 2, 1) := by decide +kernel
theorem dX12_stableOf_35 : decode cX12_stableOf 35 = .ok (.iload 5, 2) := by decide +kernel
theorem dX12_stableOf_37 : decode cX12_stableOf 37 = .ok (.ifCond .eq 28, 3) := by decide +kernel
theorem dX12_stableOf_40 : decode cX12_stableOf 40 = .ok (.iload_n 2, 1) := by decide +kernel
theorem dX12_stableOf_41 : decode cX12_stableOf 41 = .ok (.iconst 1, 1) := by decide +kernel
theorem dX12_stableOf_42 : decode cX12_stableOf 42 = .ok (.if_icmp .ne 23, 3) := by decide +kernel
theorem dX12_stableOf_45 : decode cX12_stableOf 45 = .ok (.aload_n 0, 1) := by decide +kernel
theorem dX12_stableOf_46 : decode cX12_stableOf 46 = .ok (.getfield 28, 3) := by decide +kernel
theorem dX12_stableOf_49 : decode cX12_stableOf 49 = .ok (.aload_n 0, 1) := by decide +kernel
theorem dX12_stableOf_50 : decode cX12_stableOf 50 = .ok (.getfield 31, 3) := by decide +kernel
theorem dX12_stableOf_53 : decode cX12_stableOf 53 = .ok (.invokestatic 167, 3) := by decide +kernel
theorem dX12_stableOf_56 : decode cX12_stableOf 56 = .ok (.aload_n 0, 1) := by decide +kernel
theorem dX12_stableOf_57 : decode cX12_stableOf 57 = .ok (.aload_n 0, 1) := by decide +kernel
theorem dX12_stableOf_58 : decode cX12_stableOf 58 = .ok (.getfield 28, 3) := by decide +kernel
theorem dX12_stableOf_61 : decode cX12_stableOf 61 = .ok (.invokevirtual 171, 3) := by decide +kernel
theorem dX12_stableOf_64 : decode cX12_stableOf 64 = .ok (.istore_n 3, 1) := by decide +kernel
theorem dX12_stableOf_65 : decode cX12_stableOf 65 = .ok (.aload_n 0, 1) := by decide +kernel
theorem dX12_stableOf_66 : decode cX12_stableOf 66 = .ok (.invokevirtual 178, 3) := by decide +kernel
theorem dX12_stableOf_69 : decode cX12_stableOf 69 = .ok (.istore 4, 2) := by decide +kernel
theorem dX12_stableOf_71 : decode cX12_stableOf 71 = .ok (.goto (-60), 3) := by decide +kernel
theorem dX12_stableOf_74 : decode cX12_stableOf 74 = .ok (.iload_n 1, 1) := by decide +kernel
theorem dX12_stableOf_75 : decode cX12_stableOf 75 = .ok (.ifCond .ne 7, 3) := by decide +kernel
theorem dX12_stableOf_78 : decode cX12_stableOf 78 = .ok (.iload_n 2, 1) := by decide +kernel
theorem dX12_stableOf_79 : decode cX12_stableOf 79 = .ok (.goto 21, 3) := by decide +kernel
theorem dX12_stableOf_82 : decode cX12_stableOf 82 = .ok (.iload_n 1, 1) := by decide +kernel
theorem dX12_stableOf_83 : decode cX12_stableOf 83 = .ok (.iconst 1, 1) := by decide +kernel
theorem dX12_stableOf_84 : decode cX12_stableOf 84 = .ok (.if_icmp .ne 7, 3) := by decide +kernel
theorem dX12_stableOf_87 : decode cX12_stableOf 87 = .ok (.iload_n 3, 1) := by decide +kernel
theorem dX12_stableOf_88 : decode cX12_stableOf 88 = .ok (.goto 12, 3) := by decide +kernel
theorem dX12_stableOf_91 : decode cX12_stableOf 91 = .ok (.aload_n 0, 1) := by decide +kernel
theorem dX12_stableOf_92 : decode cX12_stableOf 92 = .ok (.getfield 31, 3) := by decide +kernel
theorem dX12_stableOf_95 : decode cX12_stableOf 95 = .ok (.iload_n 1, 1) := by decide +kernel
theorem dX12_stableOf_96 : decode cX12_stableOf 96 = .ok (.bipush 10, 2) := by decide +kernel
theorem dX12_stableOf_98 : decode cX12_stableOf 98 = .ok (.isub, 1) := by decide +kernel
theorem dX12_stableOf_99 : decode cX12_stableOf 99 = .ok (.iaload, 1) := by decide +kernel
theorem dX12_stableOf_100 : decode cX12_stableOf 100 = .ok (.ireturn, 1) := by decide +kernel
theorem dX12_stable_0 : decode cX12_stable 0 = .ok (.iload_n 1, 1) := by decide +kernel
theorem dX12_stable_1 : decode cX12_stable 1 = .ok (.invokestatic 188, 3) := by decide +kernel
theorem dX12_stable_4 : decode cX12_stable 4 = .ok (.ifCond .ne 6, 3) := by decide +kernel
theorem dX12_stable_7 : decode cX12_stable 7 = .ok (.bipush (-102), 2) := by decide +kernel
theorem dX12_stable_9 : decode cX12_stable 9 = .ok (.ireturn, 1) := by decide +kernel
theorem dX12_stable_10 : decode cX12_stable 10 = .ok (.aload_n 0, 1) := by decide +kernel
theorem dX12_stable_11 : decode cX12_stable 11 = .ok (.invokevirtual 163, 3) := by decide +kernel
theorem dX12_stable_14 : decode cX12_stable 14 = .ok (.ifCond .eq 8, 3) := by decide +kernel
theorem dX12_stable_17 : decode cX12_stable 17 = .ok (.bipush (-103), 2) := by decide +kernel
theorem dX12_stable_19 : decode cX12_stable 19 = .ok (.goto 8, 3) := by decide +kernel
theorem dX12_stable_22 : decode cX12_stable 22 = .ok (.aload_n 0, 1) := by decide +kernel
theorem dX12_stable_23 : decode cX12_stable 23 = .ok (.iload_n 1, 1) := by decide +kernel
theorem dX12_stable_24 : decode cX12_stable 24 = .ok (.invokevirtual 205, 3) := by decide +kernel
theorem dX12_stable_27 : decode cX12_stable 27 = .ok (.ireturn, 1) := by decide +kernel
theorem dX12_happy_0 : decode cX12_happy 0 = .ok (.aload_n 0, 1) := by decide +kernel
theorem dX12_happy_1 : decode cX12_happy 1 = .ok (.iload_n 1, 1) := by decide +kernel
theorem dX12_happy_2 : decode cX12_happy 2 = .ok (.invokevirtual 106, 3) := by decide +kernel
theorem dX12_happy_5 : decode cX12_happy 5 = .ok (.ifCond .ne 6, 3) := by decide +kernel
theorem dX12_happy_8 : decode cX12_happy 8 = .ok (.bipush (-101), 2) := by decide +kernel
theorem dX12_happy_10 : decode cX12_happy 10 = .ok (.ireturn, 1) := by decide +kernel
theorem dX12_happy_11 : decode cX12_happy 11 = .ok (.aload_n 0, 1) := by decide +kernel
theorem dX12_happy_12 : decode cX12_happy 12 = .ok (.getfield 22, 3) := by decide +kernel
theorem dX12_happy_15 : decode cX12_happy 15 = .ok (.iload_n 1, 1) := by decide +kernel
theorem dX12_happy_16 : decode cX12_happy 16 = .ok (.iaload, 1) := by decide +kernel
theorem dX12_happy_17 : decode cX12_happy 17 = .ok (.istore_n 2, 1) := by decide +kernel
theorem dX12_happy_18 : decode cX12_happy 18 = .ok (.iload_n 2, 1) := by decide +kernel
theorem dX12_happy_19 : decode cX12_happy 19 = .ok (.iconst (-1), 1) := by decide +kernel
theorem dX12_happy_20 : decode cX12_happy 20 = .ok (.if_icmp .ne 6, 3) := by decide +kernel
theorem dX12_happy_23 : decode cX12_happy 23 = .ok (.bipush (-103), 2) := by decide +kernel
theorem dX12_happy_25 : decode cX12_happy 25 = .ok (.ireturn, 1) := by decide +kernel
theorem dX12_happy_26 : decode cX12_happy 26 = .ok (.aload_n 0, 1) := by decide +kernel
theorem dX12_happy_27 : decode cX12_happy 27 = .ok (.iload_n 1, 1) := by decide +kernel
theorem dX12_happy_28 : decode cX12_happy 28 = .ok (.invokevirtual 139, 3) := by decide +kernel
theorem dX12_happy_31 : decode cX12_happy 31 = .ok (.iload_n 2, 1) := by decide +kernel
theorem dX12_happy_32 : decode cX12_happy 32 = .ok (.if_icmp .ne 16, 3) := by decide +kernel
theorem dX12_happy_35 : decode cX12_happy 35 = .ok (.aload_n 0, 1) := by decide +kernel
theorem dX12_happy_36 : decode cX12_happy 36 = .ok (.iload_n 2, 1) := by decide +kernel
theorem dX12_happy_37 : decode cX12_happy 37 = .ok (.invokevirtual 139, 3) := by decide +kernel
theorem dX12_happy_40 : decode cX12_happy 40 = .ok (.iload_n 1, 1) := by decide +kernel
theorem dX12_happy_41 : decode cX12_happy 41 = .ok (.if_icmp .ne 7, 3) := by decide +kernel
theorem dX12_happy_44 : decode cX12_happy 44 = .ok (.iconst 1, 1) := by decide +kernel
theorem dX12_happy_45 : decode cX12_happy 45 = .ok (.goto 4, 3) := by decide +kernel
theorem dX12_happy_48 : decode cX12_happy 48 = .ok (.iconst 0, 1) := by decide +kernel
theorem dX12_happy_49 : decode cX12_happy 49 = .ok (.ireturn, 1) := by decide +kernel
theorem dX12_roundOf_0 : decode cX12_roundOf 0 = .ok (.iload_n 1, 1) := by decide +kernel
theorem dX12_roundOf_1 : decode cX12_roundOf 1 = .ok (.istore_n 2, 1) := by decide +kernel
theorem dX12_roundOf_2 : decode cX12_roundOf 2 = .ok (.iload_n 1, 1) := by decide +kernel
theorem dX12_roundOf_3 : decode cX12_roundOf 3 = .ok (.istore_n 3, 1) := by decide +kernel
theorem dX12_roundOf_4 : decode cX12_roundOf 4 = .ok (.iconst 0, 1) := by decide +kernel
theorem dX12_roundOf_5 : decode cX12_roundOf 5 = .ok (.istore 4, 2) := by decide +kernel
theorem dX12_roundOf_7 : decode cX12_roundOf 7 = .ok (.iload 4, 2) := by decide +kernel
theorem dX12_roundOf_9 : decode cX12_roundOf 9 = .ok (.aload_n 0, 1) := by decide +kernel
theorem dX12_roundOf_10 : decode cX12_roundOf 10 = .ok (.getfield 85, 3) := by decide +kernel
theorem dX12_roundOf_13 : decode cX12_roundOf 13 = .ok (.if_icmp .ge 83, 3) := by decide +kernel
theorem dX12_roundOf_16 : decode cX12_roundOf 16 = .ok (.aload_n 0, 1) := by decide +kernel
theorem dX12_roundOf_17 : decode cX12_roundOf 17 = .ok (.getfield 22, 3) := by decide +kernel
theorem dX12_roundOf_20 : decode cX12_roundOf 20 = .ok (.iload 4, 2) := by decide +kernel
theorem dX12_roundOf_22 : decode cX12_roundOf 22 = .ok (.iaload, 1) := by decide +kernel
theorem dX12_roundOf_23 : decode cX12_roundOf 23 = .ok (.iconst (-1), 1) := by decide +kernel
theorem dX12_roundOf_24 : decode cX12_roundOf 24 = .ok (.if_icmp .ne 7, 3) := by decide +kernel
theorem dX12_roundOf_27 : decode cX12_roundOf 27 = .ok (.iconst 1, 1) := by decide +kernel
theorem dX12_roundOf_28 : decode cX12_roundOf 28 = .ok (.goto 4, 3) := by decide +kernel
theorem dX12_roundOf_31 : decode cX12_roundOf 31 = .ok (.iconst 0, 1) := by decide +kernel
theorem dX12_roundOf_32 : decode cX12_roundOf 32 = .ok (.istore 5, 2) := by decide +kernel
theorem dX12_roundOf_34 : decode cX12_roundOf 34 = .ok (.iload 5, 2) := by decide +kernel
theorem dX12_roundOf_36 : decode cX12_roundOf 36 = .ok (.ifCond .eq 24, 3) := by decide +kernel
theorem dX12_roundOf_39 : decode cX12_roundOf 39 = .ok (.aload_n 0, 1) := by decide +kernel
theorem dX12_roundOf_40 : decode cX12_roundOf 40 = .ok (.getfield 19, 3) := by decide +kernel
theorem dX12_roundOf_43 : decode cX12_roundOf 43 = .ok (.iload 4, 2) := by decide +kernel
theorem dX12_roundOf_45 : decode cX12_roundOf 45 = .ok (.iaload, 1) := by decide +kernel
theorem dX12_roundOf_46 : decode cX12_roundOf 46 = .ok (.iload_n 2, 1) := by decide +kernel
theorem dX12_roundOf_47 : decode cX12_roundOf 47 = .ok (.if_icmp .ge 13, 3) := by decide +kernel
theorem dX12_roundOf_50 : decode cX12_roundOf 50 = .ok (.aload_n 0, 1) := by decide +kernel
theorem dX12_roundOf_51 : decode cX12_roundOf 51 = .ok (.getfield 19, 3) := by decide +kernel
theorem dX12_roundOf_54 : decode cX12_roundOf 54 = .ok (.iload 4, 2) := by decide +kernel
theorem dX12_roundOf_56 : decode cX12_roundOf 56 = .ok (.iaload, 1) := by decide +kernel
theorem dX12_roundOf_57 : decode cX12_roundOf 57 = .ok (.goto 4, 3) := by decide +kernel
theorem dX12_roundOf_60 : decode cX12_roundOf 60 = .ok (.iload_n 2, 1) := by decide +kernel
theorem dX12_roundOf_61 : decode cX12_roundOf 61 = .ok (.istore_n 2, 1) := by decide +kernel
theorem dX12_roundOf_62 : decode cX12_roundOf 62 = .ok (.iload 5, 2) := by decide +kernel
theorem dX12_roundOf_64 : decode cX12_roundOf 64 = .ok (.ifCond .eq 24, 3) := by decide +kernel
theorem dX12_roundOf_67 : decode cX12_roundOf 67 = .ok (.aload_n 0, 1) := by decide +kernel
theorem dX12_roundOf_68 : decode cX12_roundOf 68 = .ok (.getfield 19, 3) := by decide +kernel
theorem dX12_roundOf_71 : decode cX12_roundOf 71 = .ok (.iload 4, 2) := by decide +kernel
theorem dX12_roundOf_73 : decode cX12_roundOf 73 = .ok (.iaload, 1) := by decide +kernel
theorem dX12_roundOf_74 : decode cX12_roundOf 74 = .ok (.iload_n 3, 1) := by decide +kernel
theorem dX12_roundOf_75 : decode cX12_roundOf 75 = .ok (.if_icmp .le 13, 3) := by decide +kernel
theorem dX12_roundOf_78 : decode cX12_roundOf 78 = .ok (.aload_n 0, 1) := by decide +kernel
theorem dX12_roundOf_79 : decode cX12_roundOf 79 = .ok (.getfield 19, 3) := by decide +kernel
theorem dX12_roundOf_82 : decode cX12_roundOf 82 = .ok (.iload 4, 2) := by decide +kernel
theorem dX12_roundOf_84 : decode cX12_roundOf 84 = .ok (.iaload, 1) := by decide +kernel
theorem dX12_roundOf_85 : decode cX12_roundOf 85 = .ok (.goto 4, 3) := by decide +kernel
theorem dX12_roundOf_88 : decode cX12_roundOf 88 = .ok (.iload_n 3, 1) := by decide +kernel
theorem dX12_roundOf_89 : decode cX12_roundOf 89 = .ok (.istore_n 3, 1) := by decide +kernel
theorem dX12_roundOf_90 : decode cX12_roundOf 90 = .ok (.iinc 4 1, 3) := by decide +kernel
theorem dX12_roundOf_93 : decode cX12_roundOf 93 = .ok (.goto (-86), 3) := by decide +kernel
theorem dX12_roundOf_96 : decode cX12_roundOf 96 = .ok (.iload_n 1, 1) := by decide +kernel
theorem dX12_roundOf_97 : decode cX12_roundOf 97 = .ok (.iload_n 2, 1) := by decide +kernel
theorem dX12_roundOf_98 : decode cX12_roundOf 98 = .ok (.isub, 1) := by decide +kernel
theorem dX12_roundOf_99 : decode cX12_roundOf 99 = .ok (.iload_n 3, 1) := by decide +kernel
theorem dX12_roundOf_100 : decode cX12_roundOf 100 = .ok (.iload_n 1, 1) := by decide +kernel
theorem dX12_roundOf_101 : decode cX12_roundOf 101 = .ok (.isub, 1) := by decide +kernel
theorem dX12_roundOf_102 : decode cX12_roundOf 102 = .ok (.if_icmp .ge 9, 3) := by decide +kernel
theorem dX12_roundOf_105 : decode cX12_roundOf 105 = .ok (.iload_n 1, 1) := by decide +kernel
theorem dX12_roundOf_106 : decode cX12_roundOf 106 = .ok (.iload_n 2, 1) := by decide +kernel
theorem dX12_roundOf_107 : decode cX12_roundOf 107 = .ok (.isub, 1) := by decide +kernel
theorem dX12_roundOf_108 : decode cX12_roundOf 108 = .ok (.goto 6, 3) := by decide +kernel
theorem dX12_roundOf_111 : decode cX12_roundOf 111 = .ok (.iload_n 3, 1) := by decide +kernel
theorem dX12_roundOf_112 : decode cX12_roundOf 112 = .ok (.iload_n 1, 1) := by decide +kernel
theorem dX12_roundOf_113 : decode cX12_roundOf 113 = .ok (.isub, 1) := by decide +kernel
theorem dX12_roundOf_114 : decode cX12_roundOf 114 = .ok (.istore 4, 2) := by decide +kernel
theorem dX12_roundOf_116 : decode cX12_roundOf 116 = .ok (.iload_n 3, 1) := by decide +kernel
theorem dX12_roundOf_117 : decode cX12_roundOf 117 = .ok (.iload_n 2, 1) := by decide +kernel
theorem dX12_roundOf_118 : decode cX12_roundOf 118 = .ok (.isub, 1) := by decide +kernel
theorem dX12_roundOf_119 : decode cX12_roundOf 119 = .ok (.iload 4, 2) := by decide +kernel
theorem dX12_roundOf_121 : decode cX12_roundOf 121 = .ok (.iadd, 1) := by decide +kernel
theorem dX12_roundOf_122 : decode cX12_roundOf 122 = .ok (.ireturn, 1) := by decide +kernel
theorem dX12_round_0 : decode cX12_round 0 = .ok (.aload_n 0, 1) := by decide +kernel
theorem dX12_round_1 : decode cX12_round 1 = .ok (.invokevirtual 163, 3) := by decide +kernel
theorem dX12_round_4 : decode cX12_round 4 = .ok (.ifCond .ne 23, 3) := by decide +kernel
theorem dX12_round_7 : decode cX12_round 7 = .ok (.iload_n 1, 1) := by decide +kernel
theorem dX12_round_8 : decode cX12_round 8 = .ok (.i2l, 1) := by decide +kernel
theorem dX12_round_9 : decode cX12_round 9 = .ok (.lconst 0, 1) := by decide +kernel
theorem dX12_round_10 : decode cX12_round 10 = .ok (.ldc2_w 159, 3) := by decide +kernel
theorem dX12_round_13 : decode cX12_round 13 = .ok (.invokestatic 58, 3) := by decide +kernel
theorem dX12_round_16 : decode cX12_round 16 = .ok (.ifCond .eq 11, 3) := by decide +kernel
theorem dX12_round_19 : decode cX12_round 19 = .ok (.aload_n 0, 1) := by decide +kernel
theorem dX12_round_20 : decode cX12_round 20 = .ok (.iload_n 1, 1) := by decide +kernel
theorem dX12_round_21 : decode cX12_round 21 = .ok (.invokevirtual 208, 3) := by decide +kernel
theorem dX12_round_24 : decode cX12_round 24 = .ok (.goto 5, 3) := by decide +kernel
theorem dX12_round_27 : decode cX12_round 27 = .ok (.bipush (-101), 2) := by decide +kernel
theorem dX12_round_29 : decode cX12_round 29 = .ok (.ireturn, 1) := by decide +kernel
theorem dX12_oddsOf_0 : decode cX12_oddsOf 0 = .ok (.iconst 0, 1) := by decide +kernel
theorem dX12_oddsOf_1 : decode cX12_oddsOf 1 = .ok (.istore_n 2, 1) := by decide +kernel
theorem dX12_oddsOf_2 : decode cX12_oddsOf 2 = .ok (.iconst 0, 1) := by decide +kernel
theorem dX12_oddsOf_3 : decode cX12_oddsOf 3 = .ok (.istore_n 3, 1) := by decide +kernel
theorem dX12_oddsOf_4 : decode cX12_oddsOf 4 = .ok (.iconst 0, 1) := by decide +kernel
theorem dX12_oddsOf_5 : decode cX12_oddsOf 5 = .ok (.istore 4, 2) := by decide +kernel
theorem dX12_oddsOf_7 : decode cX12_oddsOf 7 = .ok (.iload 4, 2) := by decide +kernel
theorem dX12_oddsOf_9 : decode cX12_oddsOf 9 = .ok (.aload_n 0, 1) := by decide +kernel
theorem dX12_oddsOf_10 : decode cX12_oddsOf 10 = .ok (.getfield 85, 3) := by decide +kernel
theorem dX12_oddsOf_13 : decode cX12_oddsOf 13 = .ok (.if_icmp .ge 96, 3) := by decide +kernel
theorem dX12_oddsOf_16 : decode cX12_oddsOf 16 = .ok (.iload 4, 2) := by decide +kernel
theorem dX12_oddsOf_18 : decode cX12_oddsOf 18 = .ok (.iconst 1, 1) := by decide +kernel
theorem dX12_oddsOf_19 : decode cX12_oddsOf 19 = .ok (.iadd, 1) := by decide +kernel
theorem dX12_oddsOf_20 : decode cX12_oddsOf 20 = .ok (.istore 5, 2) := by decide +kernel
theorem dX12_oddsOf_22 : decode cX12_oddsOf 22 = .ok (.iload 5, 2) := by decide +kernel
theorem dX12_oddsOf_24 : decode cX12_oddsOf 24 = .ok (.aload_n 0, 1) := by decide +kernel
theorem dX12_oddsOf_25 : decode cX12_oddsOf 25 = .ok (.getfield 85, 3) := by decide +kernel
theorem dX12_oddsOf_28 : decode cX12_oddsOf 28 = .ok (.if_icmp .ge 75, 3) := by decide +kernel
theorem dX12_oddsOf_31 : decode cX12_oddsOf 31 = .ok (.aload_n 0, 1) := by decide +kernel
theorem dX12_oddsOf_32 : decode cX12_oddsOf 32 = .ok (.getfield 22, 3) := by decide +kernel
theorem dX12_oddsOf_35 : decode cX12_oddsOf 35 = .ok (.iload 4, 2) := by decide +kernel
theorem dX12_oddsOf_37 : decode cX12_oddsOf 37 = .ok (.iaload, 1) := by decide +kernel
theorem dX12_oddsOf_38 : decode cX12_oddsOf 38 = .ok (.iconst (-1), 1) := by decide +kernel
theorem dX12_oddsOf_39 : decode cX12_oddsOf 39 = .ok (.if_icmp .ne 18, 3) := by decide +kernel
theorem dX12_oddsOf_42 : decode cX12_oddsOf 42 = .ok (.aload_n 0, 1) := by decide +kernel
theorem dX12_oddsOf_43 : decode cX12_oddsOf 43 = .ok (.getfield 22, 3) := by decide +kernel
theorem dX12_oddsOf_46 : decode cX12_oddsOf 46 = .ok (.iload 5, 2) := by decide +kernel
theorem dX12_oddsOf_48 : decode cX12_oddsOf 48 = .ok (.iaload, 1) := by decide +kernel
theorem dX12_oddsOf_49 : decode cX12_oddsOf 49 = .ok (.iconst (-1), 1) := by decide +kernel
theorem dX12_oddsOf_50 : decode cX12_oddsOf 50 = .ok (.if_icmp .ne 7, 3) := by decide +kernel
theorem dX12_oddsOf_53 : decode cX12_oddsOf 53 = .ok (.iconst 1, 1) := by decide +kernel
theorem dX12_oddsOf_54 : decode cX12_oddsOf 54 = .ok (.goto 4, 3) := by decide +kernel
theorem dX12_oddsOf_57 : decode cX12_oddsOf 57 = .ok (.iconst 0, 1) := by decide +kernel
theorem dX12_oddsOf_58 : decode cX12_oddsOf 58 = .ok (.istore 6, 2) := by decide +kernel
theorem dX12_oddsOf_60 : decode cX12_oddsOf 60 = .ok (.iload_n 3, 1) := by decide +kernel
theorem dX12_oddsOf_61 : decode cX12_oddsOf 61 = .ok (.iload 6, 2) := by decide +kernel
theorem dX12_oddsOf_63 : decode cX12_oddsOf 63 = .ok (.ifCond .eq 7, 3) := by decide +kernel
theorem dX12_oddsOf_66 : decode cX12_oddsOf 66 = .ok (.iconst 1, 1) := by decide +kernel
theorem dX12_oddsOf_67 : decode cX12_oddsOf 67 = .ok (.goto 4, 3) := by decide +kernel
theorem dX12_oddsOf_70 : decode cX12_oddsOf 70 = .ok (.iconst 0, 1) := by decide +kernel
theorem dX12_oddsOf_71 : decode cX12_oddsOf 71 = .ok (.iadd, 1) := by decide +kernel
theorem dX12_oddsOf_72 : decode cX12_oddsOf 72 = .ok (.istore_n 3, 1) := by decide +kernel
theorem dX12_oddsOf_73 : decode cX12_oddsOf 73 = .ok (.iload_n 2, 1) := by decide +kernel
theorem dX12_oddsOf_74 : decode cX12_oddsOf 74 = .ok (.iload 6, 2) := by decide +kernel
theorem dX12_oddsOf_76 : decode cX12_oddsOf 76 = .ok (.ifCond .eq 18, 3) := by decide +kernel
theorem dX12_oddsOf_79 : decode cX12_oddsOf 79 = .ok (.aload_n 0, 1) := by decide +kernel
theorem dX12_oddsOf_80 : decode cX12_oddsOf 80 = .ok (.iload 4, 2) := by decide +kernel
theorem dX12_oddsOf_82 : decode cX12_oddsOf 82 = .ok (.iload 5, 2) := by decide +kernel
theorem dX12_oddsOf_84 : decode cX12_oddsOf 84 = .ok (.invokevirtual 120, 3) := by decide +kernel
theorem dX12_oddsOf_87 : decode cX12_oddsOf 87 = .ok (.ifCond .eq 7, 3) := by decide +kernel
theorem dX12_oddsOf_90 : decode cX12_oddsOf 90 = .ok (.iconst 1, 1) := by decide +kernel
theorem dX12_oddsOf_91 : decode cX12_oddsOf 91 = .ok (.goto 4, 3) := by decide +kernel
theorem dX12_oddsOf_94 : decode cX12_oddsOf 94 = .ok (.iconst 0, 1) := by decide +kernel
theorem dX12_oddsOf_95 : decode cX12_oddsOf 95 = .ok (.iadd, 1) := by decide +kernel
theorem dX12_oddsOf_96 : decode cX12_oddsOf 96 = .ok (.istore_n 2, 1) := by decide +kernel
theorem dX12_oddsOf_97 : decode cX12_oddsOf 97 = .ok (.iinc 5 1, 3) := by decide +kernel
theorem dX12_oddsOf_100 : decode cX12_oddsOf 100 = .ok (.goto (-78), 3) := by decide +kernel
theorem dX12_oddsOf_103 : decode cX12_oddsOf 103 = .ok (.iinc 4 1, 3) := by decide +kernel
theorem dX12_oddsOf_106 : decode cX12_oddsOf 106 = .ok (.goto (-99), 3) := by decide +kernel
theorem dX12_oddsOf_109 : decode cX12_oddsOf 109 = .ok (.iload_n 3, 1) := by decide +kernel
theorem dX12_oddsOf_110 : decode cX12_oddsOf 110 = .ok (.ifCond .ne 7, 3) := by decide +kernel
theorem dX12_oddsOf_113 : decode cX12_oddsOf 113 = .ok (.iconst 1, 1) := by decide +kernel
theorem dX12_oddsOf_114 : decode cX12_oddsOf 114 = .ok (.goto 4, 3) := by decide +kernel
theorem dX12_oddsOf_117 : decode cX12_oddsOf 117 = .ok (.iload_n 3, 1) := by decide +kernel
theorem dX12_oddsOf_118 : decode cX12_oddsOf 118 = .ok (.istore 4, 2) := by decide +kernel
theorem dX12_oddsOf_120 : decode cX12_oddsOf 120 = .ok (.iload 4, 2) := by decide +kernel
theorem dX12_oddsOf_122 : decode cX12_oddsOf 122 = .ok (.iload_n 2, 1) := by decide +kernel
theorem dX12_oddsOf_123 : decode cX12_oddsOf 123 = .ok (.invokestatic 211, 3) := by decide +kernel
theorem dX12_oddsOf_126 : decode cX12_oddsOf 126 = .ok (.istore 5, 2) := by decide +kernel
theorem dX12_oddsOf_128 : decode cX12_oddsOf 128 = .ok (.iload_n 1, 1) := by decide +kernel
theorem dX12_oddsOf_129 : decode cX12_oddsOf 129 = .ok (.ifCond .ne 10, 3) := by decide +kernel
theorem dX12_oddsOf_132 : decode cX12_oddsOf 132 = .ok (.iload_n 2, 1) := by decide +kernel
theorem dX12_oddsOf_133 : decode cX12_oddsOf 133 = .ok (.iload 5, 2) := by decide +kernel
theorem dX12_oddsOf_135 : decode cX12_oddsOf 135 = .ok (.idiv, 1) := by decide +kernel
theorem dX12_oddsOf_136 : decode cX12_oddsOf 136 = .ok (.goto 8, 3) := by decide +kernel
theorem dX12_oddsOf_139 : decode cX12_oddsOf 139 = .ok (.iload 4, 2) := by decide +kernel
theorem dX12_oddsOf_141 : decode cX12_oddsOf 141 = .ok (.iload 5, 2) := by decide +kernel
theorem dX12_oddsOf_143 : decode cX12_oddsOf 143 = .ok (.idiv, 1) := by decide +kernel
theorem dX12_oddsOf_144 : decode cX12_oddsOf 144 = .ok (.ireturn, 1) := by decide +kernel
theorem dX12_odds_0 : decode cX12_odds 0 = .ok (.iload_n 1, 1) := by decide +kernel
theorem dX12_odds_1 : decode cX12_odds 1 = .ok (.i2l, 1) := by decide +kernel
theorem dX12_odds_2 : decode cX12_odds 2 = .ok (.lconst 0, 1) := by decide +kernel
theorem dX12_odds_3 : decode cX12_odds 3 = .ok (.lconst 1, 1) := by decide +kernel
theorem dX12_odds_4 : decode cX12_odds 4 = .ok (.invokestatic 58, 3) := by decide +kernel
theorem dX12_odds_7 : decode cX12_odds 7 = .ok (.ifCond .ne 6, 3) := by decide +kernel
theorem dX12_odds_10 : decode cX12_odds 10 = .ok (.bipush (-102), 2) := by decide +kernel
theorem dX12_odds_12 : decode cX12_odds 12 = .ok (.ireturn, 1) := by decide +kernel
theorem dX12_odds_13 : decode cX12_odds 13 = .ok (.aload_n 0, 1) := by decide +kernel
theorem dX12_odds_14 : decode cX12_odds 14 = .ok (.invokevirtual 163, 3) := by decide +kernel
theorem dX12_odds_17 : decode cX12_odds 17 = .ok (.ifCond .eq 8, 3) := by decide +kernel
theorem dX12_odds_20 : decode cX12_odds 20 = .ok (.bipush (-103), 2) := by decide +kernel
theorem dX12_odds_22 : decode cX12_odds 22 = .ok (.goto 8, 3) := by decide +kernel
theorem dX12_odds_25 : decode cX12_odds 25 = .ok (.aload_n 0, 1) := by decide +kernel
theorem dX12_odds_26 : decode cX12_odds 26 = .ok (.iload_n 1, 1) := by decide +kernel
theorem dX12_odds_27 : decode cX12_odds 27 = .ok (.invokevirtual 214, 3) := by decide +kernel
theorem dX12_odds_30 : decode cX12_odds 30 = .ok (.ireturn, 1) := by decide +kernel
theorem dX12_see_0 : decode cX12_see 0 = .ok (.aload_n 0, 1) := by decide +kernel
theorem dX12_see_1 : decode cX12_see 1 = .ok (.iload_n 1, 1) := by decide +kernel
theorem dX12_see_2 : decode cX12_see 2 = .ok (.iload_n 2, 1) := by decide +kernel
theorem dX12_see_3 : decode cX12_see 3 = .ok (.invokevirtual 156, 3) := by decide +kernel
theorem dX12_see_6 : decode cX12_see 6 = .ok (.ifCond .ne 6, 3) := by decide +kernel
theorem dX12_see_9 : decode cX12_see 9 = .ok (.bipush (-101), 2) := by decide +kernel
theorem dX12_see_11 : decode cX12_see 11 = .ok (.ireturn, 1) := by decide +kernel
theorem dX12_see_12 : decode cX12_see 12 = .ok (.iload_n 3, 1) := by decide +kernel
theorem dX12_see_13 : decode cX12_see 13 = .ok (.i2l, 1) := by decide +kernel
theorem dX12_see_14 : decode cX12_see 14 = .ok (.ldc2_w 217, 3) := by decide +kernel
theorem dX12_see_17 : decode cX12_see 17 = .ok (.ldc2_w 219, 3) := by decide +kernel
theorem dX12_see_20 : decode cX12_see 20 = .ok (.invokestatic 58, 3) := by decide +kernel
theorem dX12_see_23 : decode cX12_see 23 = .ok (.ifCond .ne 6, 3) := by decide +kernel
theorem dX12_see_26 : decode cX12_see 26 = .ok (.bipush (-102), 2) := by decide +kernel
theorem dX12_see_28 : decode cX12_see 28 = .ok (.ireturn, 1) := by decide +kernel
theorem dX12_see_29 : decode cX12_see 29 = .ok (.aload_n 0, 1) := by decide +kernel
theorem dX12_see_30 : decode cX12_see 30 = .ok (.getfield 100, 3) := by decide +kernel
theorem dX12_see_33 : decode cX12_see 33 = .ok (.bipush 8, 2) := by decide +kernel
theorem dX12_see_35 : decode cX12_see 35 = .ok (.if_icmp .ne 6, 3) := by decide +kernel
theorem dX12_see_38 : decode cX12_see 38 = .ok (.bipush (-104), 2) := by decide +kernel
theorem dX12_see_40 : decode cX12_see 40 = .ok (.ireturn, 1) := by decide +kernel
theorem dX12_see_41 : decode cX12_see 41 = .ok (.aload_n 0, 1) := by decide +kernel
theorem dX12_see_42 : decode cX12_see 42 = .ok (.getfield 34, 3) := by decide +kernel
theorem dX12_see_45 : decode cX12_see 45 = .ok (.iconst 3, 1) := by decide +kernel
theorem dX12_see_46 : decode cX12_see 46 = .ok (.aload_n 0, 1) := by decide +kernel
theorem dX12_see_47 : decode cX12_see 47 = .ok (.getfield 100, 3) := by decide +kernel
theorem dX12_see_50 : decode cX12_see 50 = .ok (.imul, 1) := by decide +kernel
theorem dX12_see_51 : decode cX12_see 51 = .ok (.iload_n 1, 1) := by decide +kernel
theorem dX12_see_52 : decode cX12_see 52 = .ok (.iastore, 1) := by decide +kernel
theorem dX12_see_53 : decode cX12_see 53 = .ok (.aload_n 0, 1) := by decide +kernel
theorem dX12_see_54 : decode cX12_see 54 = .ok (.getfield 34, 3) := by decide +kernel
theorem dX12_see_57 : decode cX12_see 57 = .ok (.iconst 3, 1) := by decide +kernel
theorem dX12_see_58 : decode cX12_see 58 = .ok (.aload_n 0, 1) := by decide +kernel
theorem dX12_see_59 : decode cX12_see 59 = .ok (.getfield 100, 3) := by decide +kernel
theorem dX12_see_62 : decode cX12_see 62 = .ok (.imul, 1) := by decide +kernel
theorem dX12_see_63 : decode cX12_see 63 = .ok (.iconst 1, 1) := by decide +kernel
theorem dX12_see_64 : decode cX12_see 64 = .ok (.iadd, 1) := by decide +kernel
theorem dX12_see_65 : decode cX12_see 65 = .ok (.iload_n 2, 1) := by decide +kernel
theorem dX12_see_66 : decode cX12_see 66 = .ok (.iastore, 1) := by decide +kernel
theorem dX12_see_67 : decode cX12_see 67 = .ok (.aload_n 0, 1) := by decide +kernel
theorem dX12_see_68 : decode cX12_see 68 = .ok (.getfield 34, 3) := by decide +kernel
theorem dX12_see_71 : decode cX12_see 71 = .ok (.iconst 3, 1) := by decide +kernel
theorem dX12_see_72 : decode cX12_see 72 = .ok (.aload_n 0, 1) := by decide +kernel
theorem dX12_see_73 : decode cX12_see 73 = .ok (.getfield 100, 3) := by decide +kernel
theorem dX12_see_76 : decode cX12_see 76 = .ok (.imul, 1) := by decide +kernel
theorem dX12_see_77 : decode cX12_see 77 = .ok (.iconst 2, 1) := by decide +kernel
theorem dX12_see_78 : decode cX12_see 78 = .ok (.iadd, 1) := by decide +kernel
theorem dX12_see_79 : decode cX12_see 79 = .ok (.iload_n 3, 1) := by decide +kernel
theorem dX12_see_80 : decode cX12_see 80 = .ok (.iastore, 1) := by decide +kernel
theorem dX12_see_81 : decode cX12_see 81 = .ok (.aload_n 0, 1) := by decide +kernel
theorem dX12_see_82 : decode cX12_see 82 = .ok (.dup, 1) := by decide +kernel
theorem dX12_see_83 : decode cX12_see 83 = .ok (.getfield 100, 3) := by decide +kernel
theorem dX12_see_86 : decode cX12_see 86 = .ok (.iconst 1, 1) := by decide +kernel
theorem dX12_see_87 : decode cX12_see 87 = .ok (.iadd, 1) := by decide +kernel
theorem dX12_see_88 : decode cX12_see 88 = .ok (.putfield 100, 3) := by decide +kernel
theorem dX12_see_91 : decode cX12_see 91 = .ok (.aload_n 0, 1) := by decide +kernel
theorem dX12_see_92 : decode cX12_see 92 = .ok (.getfield 100, 3) := by decide +kernel
theorem dX12_see_95 : decode cX12_see 95 = .ok (.ireturn, 1) := by decide +kernel
theorem dX12_forget_0 : decode cX12_forget 0 = .ok (.aload_n 0, 1) := by decide +kernel
theorem dX12_forget_1 : decode cX12_forget 1 = .ok (.getfield 100, 3) := by decide +kernel
theorem dX12_forget_4 : decode cX12_forget 4 = .ok (.istore_n 1, 1) := by decide +kernel
theorem dX12_forget_5 : decode cX12_forget 5 = .ok (.aload_n 0, 1) := by decide +kernel
theorem dX12_forget_6 : decode cX12_forget 6 = .ok (.iconst 0, 1) := by decide +kernel
theorem dX12_forget_7 : decode cX12_forget 7 = .ok (.putfield 100, 3) := by decide +kernel
theorem dX12_forget_10 : decode cX12_forget 10 = .ok (.iload_n 1, 1) := by decide +kernel
theorem dX12_forget_11 : decode cX12_forget 11 = .ok (.ireturn, 1) := by decide +kernel
theorem dX12_likenessAs_0 : decode cX12_likenessAs 0 = .ok (.aload_n 0, 1) := by decide +kernel
theorem dX12_likenessAs_1 : decode cX12_likenessAs 1 = .ok (.getfield 16, 3) := by decide +kernel
theorem dX12_likenessAs_4 : decode cX12_likenessAs 4 = .ok (.iload_n 1, 1) := by decide +kernel
theorem dX12_likenessAs_5 : decode cX12_likenessAs 5 = .ok (.iaload, 1) := by decide +kernel
theorem dX12_likenessAs_6 : decode cX12_likenessAs 6 = .ok (.istore 4, 2) := by decide +kernel
theorem dX12_likenessAs_8 : decode cX12_likenessAs 8 = .ok (.aload_n 0, 1) := by decide +kernel
theorem dX12_likenessAs_9 : decode cX12_likenessAs 9 = .ok (.getfield 16, 3) := by decide +kernel
theorem dX12_likenessAs_12 : decode cX12_likenessAs 12 = .ok (.iload_n 1, 1) := by decide +kernel
theorem dX12_likenessAs_13 : decode cX12_likenessAs 13 = .ok (.iload_n 2, 1) := by decide +kernel
theorem dX12_likenessAs_14 : decode cX12_likenessAs 14 = .ok (.iastore, 1) := by decide +kernel
theorem dX12_likenessAs_15 : decode cX12_likenessAs 15 = .ok (.aload_n 0, 1) := by decide +kernel
theorem dX12_likenessAs_16 : decode cX12_likenessAs 16 = .ok (.iload_n 1, 1) := by decide +kernel
theorem dX12_likenessAs_17 : decode cX12_likenessAs 17 = .ok (.iload_n 3, 1) := by decide +kernel
theorem dX12_likenessAs_18 : decode cX12_likenessAs 18 = .ok (.invokevirtual 126, 3) := by decide +kernel
theorem dX12_likenessAs_21 : decode cX12_likenessAs 21 = .ok (.istore 5, 2) := by decide +kernel
theorem dX12_likenessAs_23 : decode cX12_likenessAs 23 = .ok (.aload_n 0, 1) := by decide +kernel
theorem dX12_likenessAs_24 : decode cX12_likenessAs 24 = .ok (.getfield 16, 3) := by decide +kernel
theorem dX12_likenessAs_27 : decode cX12_likenessAs 27 = .ok (.iload_n 1, 1) := by decide +kernel
theorem dX12_likenessAs_28 : decode cX12_likenessAs 28 = .ok (.iload 4, 2) := by decide +kernel
theorem dX12_likenessAs_30 : decode cX12_likenessAs 30 = .ok (.iastore, 1) := by decide +kernel
theorem dX12_likenessAs_31 : decode cX12_likenessAs 31 = .ok (.iload 5, 2) := by decide +kernel
theorem dX12_likenessAs_33 : decode cX12_likenessAs 33 = .ok (.ireturn, 1) := by decide +kernel
theorem dX12_sizesOf_0 : decode cX12_sizesOf 0 = .ok (.iconst 0, 1) := by decide +kernel
theorem dX12_sizesOf_1 : decode cX12_sizesOf 1 = .ok (.istore_n 2, 1) := by decide +kernel
theorem dX12_sizesOf_2 : decode cX12_sizesOf 2 = .ok (.iconst 0, 1) := by decide +kernel
theorem dX12_sizesOf_3 : decode cX12_sizesOf 3 = .ok (.istore_n 3, 1) := by decide +kernel
theorem dX12_sizesOf_4 : decode cX12_sizesOf 4 = .ok (.iload_n 3, 1) := by decide +kernel
theorem dX12_sizesOf_5 : decode cX12_sizesOf 5 = .ok (.bipush 10, 2) := by decide +kernel
theorem dX12_sizesOf_7 : decode cX12_sizesOf 7 = .ok (.if_icmp .ge 97, 3) := by decide +kernel
theorem dX12_sizesOf_10 : decode cX12_sizesOf 10 = .ok (.iconst 1, 1) := by decide +kernel
theorem dX12_sizesOf_11 : decode cX12_sizesOf 11 = .ok (.istore 4, 2) := by decide +kernel
theorem dX12_sizesOf_13 : decode cX12_sizesOf 13 = .ok (.iconst 0, 1) := by decide +kernel
theorem dX12_sizesOf_14 : decode cX12_sizesOf 14 = .ok (.istore 5, 2) := by decide +kernel
theorem dX12_sizesOf_16 : decode cX12_sizesOf 16 = .ok (.iload 5, 2) := by decide +kernel
theorem dX12_sizesOf_18 : decode cX12_sizesOf 18 = .ok (.iconst 3, 1) := by decide +kernel
theorem dX12_sizesOf_19 : decode cX12_sizesOf 19 = .ok (.aload_n 0, 1) := by decide +kernel
theorem dX12_sizesOf_20 : decode cX12_sizesOf 20 = .ok (.getfield 100, 3) := by decide +kernel
theorem dX12_sizesOf_23 : decode cX12_sizesOf 23 = .ok (.imul, 1) := by decide +kernel
theorem dX12_sizesOf_24 : decode cX12_sizesOf 24 = .ok (.if_icmp .ge 59, 3) := by decide +kernel
theorem dX12_sizesOf_27 : decode cX12_sizesOf 27 = .ok (.aload_n 0, 1) := by decide +kernel
theorem dX12_sizesOf_28 : decode cX12_sizesOf 28 = .ok (.getfield 34, 3) := by decide +kernel
theorem dX12_sizesOf_31 : decode cX12_sizesOf 31 = .ok (.iload 5, 2) := by decide +kernel
theorem dX12_sizesOf_33 : decode cX12_sizesOf 33 = .ok (.iaload, 1) := by decide +kernel
theorem dX12_sizesOf_34 : decode cX12_sizesOf 34 = .ok (.iload_n 1, 1) := by decide +kernel
theorem dX12_sizesOf_35 : decode cX12_sizesOf 35 = .ok (.if_icmp .ne 42, 3) := by decide +kernel
theorem dX12_sizesOf_38 : decode cX12_sizesOf 38 = .ok (.iload 4, 2) := by decide +kernel
theorem dX12_sizesOf_40 : decode cX12_sizesOf 40 = .ok (.ifCond .eq 34, 3) := by decide +kernel
theorem dX12_sizesOf_43 : decode cX12_sizesOf 43 = .ok (.aload_n 0, 1) := by decide +kernel
theorem dX12_sizesOf_44 : decode cX12_sizesOf 44 = .ok (.iload_n 1, 1) := by decide +kernel
theorem dX12_sizesOf_45 : decode cX12_sizesOf 45 = .ok (.iload_n 3, 1) := by decide +kernel
theorem dX12_sizesOf_46 : decode cX12_sizesOf 46 = .ok (.aload_n 0, 1) := by decide +kernel
theorem dX12_sizesOf_47 : decode cX12_sizesOf 47 = .ok (.getfield 34, 3) := by decide +kernel
theorem dX12_sizesOf_50 : decode cX12_sizesOf 50 = .ok (.iload 5, 2) := by decide +kernel
theorem dX12_sizesOf_52 : decode cX12_sizesOf 52 = .ok (.iconst 1, 1) := by decide +kernel
theorem dX12_sizesOf_53 : decode cX12_sizesOf 53 = .ok (.iadd, 1) := by decide +kernel
theorem dX12_sizesOf_54 : decode cX12_sizesOf 54 = .ok (.iaload, 1) := by decide +kernel
theorem dX12_sizesOf_55 : decode cX12_sizesOf 55 = .ok (.invokevirtual 221, 3) := by decide +kernel
theorem dX12_sizesOf_58 : decode cX12_sizesOf 58 = .ok (.aload_n 0, 1) := by decide +kernel
theorem dX12_sizesOf_59 : decode cX12_sizesOf 59 = .ok (.getfield 34, 3) := by decide +kernel
theorem dX12_sizesOf_62 : decode cX12_sizesOf 62 = .ok (.iload 5, 2) := by decide +kernel
theorem dX12_sizesOf_64 : decode cX12_sizesOf 64 = .ok (.iconst 2, 1) := by decide +kernel
theorem dX12_sizesOf_65 : decode cX12_sizesOf 65 = .ok (.iadd, 1) := by decide +kernel
theorem dX12_sizesOf_66 : decode cX12_sizesOf 66 = .ok (.iaload, 1) := by decide +kernel
theorem dX12_sizesOf_67 : decode cX12_sizesOf 67 = .ok (.if_icmp .ne 7, 3) := by decide +kernel
theorem dX12_sizesOf_70 : decode cX12_sizesOf 70 = .ok (.iconst 1, 1) := by decide +kernel
theorem dX12_sizesOf_71 : decode cX12_sizesOf 71 = .ok (.goto 4, 3) := by decide +kernel
theorem dX12_sizesOf_74 : decode cX12_sizesOf 74 = .ok (.iconst 0, 1) := by decide +kernel
theorem dX12_sizesOf_75 : decode cX12_sizesOf 75 = .ok (.istore 4, 2) := by decide +kernel
theorem dX12_sizesOf_77 : decode cX12_sizesOf 77 = .ok (.iinc 5 3, 3) := by decide +kernel
theorem dX12_sizesOf_80 : decode cX12_sizesOf 80 = .ok (.goto (-64), 3) := by decide +kernel
theorem dX12_sizesOf_83 : decode cX12_sizesOf 83 = .ok (.iload_n 2, 1) := by decide +kernel
theorem dX12_sizesOf_84 : decode cX12_sizesOf 84 = .ok (.iload 4, 2) := by decide +kernel
theorem dX12_sizesOf_86 : decode cX12_sizesOf 86 = .ok (.ifCond .eq 9, 3) := by decide +kernel
theorem dX12_sizesOf_89 : decode cX12_sizesOf 89 = .ok (.iconst 1, 1) := by decide +kernel
theorem dX12_sizesOf_90 : decode cX12_sizesOf 90 = .ok (.iload_n 3, 1) := by decide +kernel
theorem dX12_sizesOf_91 : decode cX12_sizesOf 91 = .ok (.ishl, 1) := by decide +kernel
theorem dX12_sizesOf_92 : decode cX12_sizesOf 92 = .ok (.goto 4, 3) := by decide +kernel
theorem dX12_sizesOf_95 : decode cX12_sizesOf 95 = .ok (.iconst 0, 1) := by decide +kernel
theorem dX12_sizesOf_96 : decode cX12_sizesOf 96 = .ok (.ior, 1) := by decide +kernel
theorem dX12_sizesOf_97 : decode cX12_sizesOf 97 = .ok (.istore_n 2, 1) := by decide +kernel
theorem dX12_sizesOf_98 : decode cX12_sizesOf 98 = .ok (.iinc 3 1, 3) := by decide +kernel
theorem dX12_sizesOf_101 : decode cX12_sizesOf 101 = .ok (.goto (-97), 3) := by decide +kernel
theorem dX12_sizesOf_104 : decode cX12_sizesOf 104 = .ok (.iload_n 2, 1) := by decide +kernel
theorem dX12_sizesOf_105 : decode cX12_sizesOf 105 = .ok (.ireturn, 1) := by decide +kernel
theorem dX12_lookOf_0 : decode cX12_lookOf 0 = .ok (.aload_n 0, 1) := by decide +kernel
theorem dX12_lookOf_1 : decode cX12_lookOf 1 = .ok (.iload_n 1, 1) := by decide +kernel
theorem dX12_lookOf_2 : decode cX12_lookOf 2 = .ok (.invokevirtual 145, 3) := by decide +kernel
theorem dX12_lookOf_5 : decode cX12_lookOf 5 = .ok (.istore_n 2, 1) := by decide +kernel
theorem dX12_lookOf_6 : decode cX12_lookOf 6 = .ok (.iconst (-1), 1) := by decide +kernel
theorem dX12_lookOf_7 : decode cX12_lookOf 7 = .ok (.istore_n 3, 1) := by decide +kernel
theorem dX12_lookOf_8 : decode cX12_lookOf 8 = .ok (.bipush 11, 2) := by decide +kernel
theorem dX12_lookOf_10 : decode cX12_lookOf 10 = .ok (.istore 4, 2) := by decide +kernel
theorem dX12_lookOf_12 : decode cX12_lookOf 12 = .ok (.iconst 0, 1) := by decide +kernel
theorem dX12_lookOf_13 : decode cX12_lookOf 13 = .ok (.istore 5, 2) := by decide +kernel
theorem dX12_lookOf_15 : decode cX12_lookOf 15 = .ok (.iload 5, 2) := by decide +kernel
theorem dX12_lookOf_17 : decode cX12_lookOf 17 = .ok (.aload_n 0, 1) := by decide +kernel
theorem dX12_lookOf_18 : decode cX12_lookOf 18 = .ok (.getfield 85, 3) := by decide +kernel
theorem dX12_lookOf_21 : decode cX12_lookOf 21 = .ok (.if_icmp .ge 159, 3) := by decide +kernel
theorem dX12_lookOf_24 : decode cX12_lookOf 24 = .ok (.iload_n 2, 1) := by decide +kernel
theorem dX12_lookOf_25 : decode cX12_lookOf 25 = .ok (.ifCond .eq 155, 3) := by decide +kernel
theorem dX12_lookOf_28 : decode cX12_lookOf 28 = .ok (.iconst 0, 1) := by decide +kernel
theorem dX12_lookOf_29 : decode cX12_lookOf 29 = .ok (.istore 6, 2) := by decide +kernel
theorem dX12_lookOf_31 : decode cX12_lookOf 31 = .ok (.iload 6, 2) := by decide +kernel
theorem dX12_lookOf_33 : decode cX12_lookOf 33 = .ok (.bipush 20, 2) := by decide +kernel
theorem dX12_lookOf_35 : decode cX12_lookOf 35 = .ok (.if_icmp .ge 17, 3) := by decide +kernel
theorem dX12_lookOf_38 : decode cX12_lookOf 38 = .ok (.aload_n 0, 1) := by decide +kernel
theorem dX12_lookOf_39 : decode cX12_lookOf 39 = .ok (.getfield 37, 3) := by decide +kernel
theorem dX12_lookOf_42 : decode cX12_lookOf 42 = .ok (.iload 6, 2) := by decide +kernel
theorem dX12_lookOf_44 : decode cX12_lookOf 44 = .ok (.iconst 0, 1) := by decide +kernel
theorem dX12_lookOf_45 : decode cX12_lookOf 45 = .ok (.iastore, 1) := by decide +kernel
theorem dX12_lookOf_46 : decode cX12_lookOf 46 = .ok (.iinc 6 1, 3) := by decide +kernel
theorem dX12_lookOf_49 : decode cX12_lookOf 49 = .ok (.goto (-18), 3) := by decide +kernel
theorem dX12_lookOf_52 : decode cX12_lookOf 52 = .ok (.iconst 0, 1) := by decide +kernel
theorem dX12_lookOf_53 : decode cX12_lookOf 53 = .ok (.istore 6, 2) := by decide +kernel
theorem dX12_lookOf_55 : decode cX12_lookOf 55 = .ok (.iconst 0, 1) := by decide +kernel
theorem dX12_lookOf_56 : decode cX12_lookOf 56 = .ok (.istore 7, 2) := by decide +kernel
theorem dX12_lookOf_58 : decode cX12_lookOf 58 = .ok (.iload 7, 2) := by decide +kernel
theorem dX12_lookOf_60 : decode cX12_lookOf 60 = .ok (.bipush 10, 2) := by decide +kernel
theorem dX12_lookOf_62 : decode cX12_lookOf 62 = .ok (.if_icmp .ge 70, 3) := by decide +kernel
theorem dX12_lookOf_65 : decode cX12_lookOf 65 = .ok (.iload 5, 2) := by decide +kernel
theorem dX12_lookOf_67 : decode cX12_lookOf 67 = .ok (.iload_n 1, 1) := by decide +kernel
theorem dX12_lookOf_68 : decode cX12_lookOf 68 = .ok (.if_icmp .eq 64, 3) := by decide +kernel
theorem dX12_lookOf_71 : decode cX12_lookOf 71 = .ok (.aload_n 0, 1) := by decide +kernel
theorem dX12_lookOf_72 : decode cX12_lookOf 72 = .ok (.iload_n 1, 1) := by decide +kernel
theorem dX12_lookOf_73 : decode cX12_lookOf 73 = .ok (.iload 7, 2) := by decide +kernel
theorem dX12_lookOf_75 : decode cX12_lookOf 75 = .ok (.iload 5, 2) := by decide +kernel
theorem dX12_lookOf_77 : decode cX12_lookOf 77 = .ok (.invokevirtual 221, 3) := by decide +kernel
theorem dX12_lookOf_80 : decode cX12_lookOf 80 = .ok (.iconst 1, 1) := by decide +kernel
theorem dX12_lookOf_81 : decode cX12_lookOf 81 = .ok (.iadd, 1) := by decide +kernel
theorem dX12_lookOf_82 : decode cX12_lookOf 82 = .ok (.istore 8, 2) := by decide +kernel
theorem dX12_lookOf_84 : decode cX12_lookOf 84 = .ok (.aload_n 0, 1) := by decide +kernel
theorem dX12_lookOf_85 : decode cX12_lookOf 85 = .ok (.getfield 37, 3) := by decide +kernel
theorem dX12_lookOf_88 : decode cX12_lookOf 88 = .ok (.iload 8, 2) := by decide +kernel
theorem dX12_lookOf_90 : decode cX12_lookOf 90 = .ok (.dup2, 1) := by decide +kernel
theorem dX12_lookOf_91 : decode cX12_lookOf 91 = .ok (.iaload, 1) := by decide +kernel
theorem dX12_lookOf_92 : decode cX12_lookOf 92 = .ok (.iload_n 2, 1) := by decide +kernel
theorem dX12_lookOf_93 : decode cX12_lookOf 93 = .ok (.iload 7, 2) := by decide +kernel
theorem dX12_lookOf_95 : decode cX12_lookOf 95 = .ok (.ishr, 1) := by decide +kernel
theorem dX12_lookOf_96 : decode cX12_lookOf 96 = .ok (.iconst 1, 1) := by decide +kernel
theorem dX12_lookOf_97 : decode cX12_lookOf 97 = .ok (.iand, 1) := by decide +kernel
theorem dX12_lookOf_98 : decode cX12_lookOf 98 = .ok (.iadd, 1) := by decide +kernel
theorem dX12_lookOf_99 : decode cX12_lookOf 99 = .ok (.iastore, 1) := by decide +kernel
theorem dX12_lookOf_100 : decode cX12_lookOf 100 = .ok (.aload_n 0, 1) := by decide +kernel
theorem dX12_lookOf_101 : decode cX12_lookOf 101 = .ok (.getfield 37, 3) := by decide +kernel
theorem dX12_lookOf_104 : decode cX12_lookOf 104 = .ok (.iload 8, 2) := by decide +kernel
theorem dX12_lookOf_106 : decode cX12_lookOf 106 = .ok (.iaload, 1) := by decide +kernel
theorem dX12_lookOf_107 : decode cX12_lookOf 107 = .ok (.iload 6, 2) := by decide +kernel
theorem dX12_lookOf_109 : decode cX12_lookOf 109 = .ok (.if_icmp .le 13, 3) := by decide +kernel
theorem dX12_lookOf_112 : decode cX12_lookOf 112 = .ok (.aload_n 0, 1) := by decide +kernel
theorem dX12_lookOf_113 : decode cX12_lookOf 113 = .ok (.getfield 37, 3) := by decide +kernel
theorem dX12_lookOf_116 : decode cX12_lookOf 116 = .ok (.iload 8, 2) := by decide +kernel
theorem dX12_lookOf_118 : decode cX12_lookOf 118 = .ok (.iaload, 1) := by decide +kernel
theorem dX12_lookOf_119 : decode cX12_lookOf 119 = .ok (.goto 5, 3) := by decide +kernel
theorem dX12_lookOf_122 : decode cX12_lookOf 122 = .ok (.iload 6, 2) := by decide +kernel
theorem dX12_lookOf_124 : decode cX12_lookOf 124 = .ok (.istore 6, 2) := by decide +kernel
theorem dX12_lookOf_126 : decode cX12_lookOf 126 = .ok (.iinc 7 1, 3) := by decide +kernel
theorem dX12_lookOf_129 : decode cX12_lookOf 129 = .ok (.goto (-71), 3) := by decide +kernel
theorem dX12_lookOf_132 : decode cX12_lookOf 132 = .ok (.iload 5, 2) := by decide +kernel
theorem dX12_lookOf_134 : decode cX12_lookOf 134 = .ok (.iload_n 1, 1) := by decide +kernel
theorem dX12_lookOf_135 : decode cX12_lookOf 135 = .ok (.if_icmp .eq 15, 3) := by decide +kernel
theorem dX12_lookOf_138 : decode cX12_lookOf 138 = .ok (.iload 6, 2) := by decide +kernel
theorem dX12_lookOf_140 : decode cX12_lookOf 140 = .ok (.iload 4, 2) := by decide +kernel
theorem dX12_lookOf_142 : decode cX12_lookOf 142 = .ok (.if_icmp .ge 8, 3) := by decide +kernel
theorem dX12_lookOf_145 : decode cX12_lookOf 145 = .ok (.iload 5, 2) := by decide +kernel
theorem dX12_lookOf_147 : decode cX12_lookOf 147 = .ok (.goto 4, 3) := by decide +kernel
theorem dX12_lookOf_150 : decode cX12_lookOf 150 = .ok (.iload_n 3, 1) := by decide +kernel
theorem dX12_lookOf_151 : decode cX12_lookOf 151 = .ok (.istore_n 3, 1) := by decide +kernel
theorem dX12_lookOf_152 : decode cX12_lookOf 152 = .ok (.iload 5, 2) := by decide +kernel
theorem dX12_lookOf_154 : decode cX12_lookOf 154 = .ok (.iload_n 1, 1) := by decide +kernel
theorem dX12_lookOf_155 : decode cX12_lookOf 155 = .ok (.if_icmp .eq 15, 3) := by decide +kernel
theorem dX12_lookOf_158 : decode cX12_lookOf 158 = .ok (.iload 6, 2) := by decide +kernel
theorem dX12_lookOf_160 : decode cX12_lookOf 160 = .ok (.iload 4, 2) := by decide +kernel
theorem dX12_lookOf_162 : decode cX12_lookOf 162 = .ok (.if_icmp .ge 8, 3) := by decide +kernel
theorem dX12_lookOf_165 : decode cX12_lookOf 165 = .ok (.iload 6, 2) := by decide +kernel
theorem dX12_lookOf_167 : decode cX12_lookOf 167 = .ok (.goto 5, 3) := by decide +kernel
theorem dX12_lookOf_170 : decode cX12_lookOf 170 = .ok (.iload 4, 2) := by decide +kernel
theorem dX12_lookOf_172 : decode cX12_lookOf 172 = .ok (.istore 4, 2) := by decide +kernel
theorem dX12_lookOf_174 : decode cX12_lookOf 174 = .ok (.iinc 5 1, 3) := by decide +kernel
theorem dX12_lookOf_177 : decode cX12_lookOf 177 = .ok (.goto (-162), 3) := by decide +kernel
theorem dX12_lookOf_180 : decode cX12_lookOf 180 = .ok (.iload_n 3, 1) := by decide +kernel
theorem dX12_lookOf_181 : decode cX12_lookOf 181 = .ok (.ireturn, 1) := by decide +kernel
theorem dX12_draw_0 : decode cX12_draw 0 = .ok (.aload_n 0, 1) := by decide +kernel
theorem dX12_draw_1 : decode cX12_draw 1 = .ok (.ldc2_w 225, 3) := by decide +kernel
theorem dX12_draw_4 : decode cX12_draw 4 = .ok (.aload_n 0, 1) := by decide +kernel
theorem dX12_draw_5 : decode cX12_draw 5 = .ok (.getfield 227, 3) := by decide +kernel
theorem dX12_draw_8 : decode cX12_draw 8 = .ok (.i2l, 1) := by decide +kernel
theorem dX12_draw_9 : decode cX12_draw 9 = .ok (.lmul, 1) := by decide +kernel
theorem dX12_draw_10 : decode cX12_draw 10 = .ok (.ldc2_w 230, 3) := by decide +kernel
theorem dX12_draw_13 : decode cX12_draw 13 = .ok (.ladd, 1) := by decide +kernel
theorem dX12_draw_14 : decode cX12_draw 14 = .ok (.ldc2_w 232, 3) := by decide +kernel
theorem dX12_draw_17 : decode cX12_draw 17 = .ok (.land, 1) := by decide +kernel
theorem dX12_draw_18 : decode cX12_draw 18 = .ok (.l2i, 1) := by decide +kernel
theorem dX12_draw_19 : decode cX12_draw 19 = .ok (.putfield 227, 3) := by decide +kernel
theorem dX12_draw_22 : decode cX12_draw 22 = .ok (.aload_n 0, 1) := by decide +kernel
theorem dX12_draw_23 : decode cX12_draw 23 = .ok (.getfield 227, 3) := by decide +kernel
theorem dX12_draw_26 : decode cX12_draw 26 = .ok (.ldc 234, 2) := by decide +kernel
theorem dX12_draw_28 : decode cX12_draw 28 = .ok (.idiv, 1) := by decide +kernel
theorem dX12_draw_29 : decode cX12_draw 29 = .ok (.iload_n 1, 1) := by decide +kernel
theorem dX12_draw_30 : decode cX12_draw 30 = .ok (.irem, 1) := by decide +kernel
theorem dX12_draw_31 : decode cX12_draw 31 = .ok (.ireturn, 1) := by decide +kernel
theorem dX12_winters_0 : decode cX12_winters 0 = .ok (.iload_n 1, 1) := by decide +kernel
theorem dX12_winters_1 : decode cX12_winters 1 = .ok (.i2l, 1) := by decide +kernel
theorem dX12_winters_2 : decode cX12_winters 2 = .ok (.lconst 1, 1) := by decide +kernel
theorem dX12_winters_3 : decode cX12_winters 3 = .ok (.ldc2_w 235, 3) := by decide +kernel
theorem dX12_winters_6 : decode cX12_winters 6 = .ok (.invokestatic 58, 3) := by decide +kernel
theorem dX12_winters_9 : decode cX12_winters 9 = .ok (.ifCond .eq 19, 3) := by decide +kernel
theorem dX12_winters_12 : decode cX12_winters 12 = .ok (.iload_n 2, 1) := by decide +kernel
theorem dX12_winters_13 : decode cX12_winters 13 = .ok (.ifCond .lt 15, 3) := by decide +kernel
theorem dX12_winters_16 : decode cX12_winters 16 = .ok (.iload_n 3, 1) := by decide +kernel
theorem dX12_winters_17 : decode cX12_winters 17 = .ok (.i2l, 1) := by decide +kernel
theorem dX12_winters_18 : decode cX12_winters 18 = .ok (.lconst 0, 1) := by decide +kernel
theorem dX12_winters_19 : decode cX12_winters 19 = .ok (.ldc2_w 237, 3) := by decide +kernel
theorem dX12_winters_22 : decode cX12_winters 22 = .ok (.invokestatic 58, 3) := by decide +kernel
theorem dX12_winters_25 : decode cX12_winters 25 = .ok (.ifCond .ne 6, 3) := by decide +kernel
theorem dX12_winters_28 : decode cX12_winters 28 = .ok (.bipush (-102), 2) := by decide +kernel
theorem dX12_winters_30 : decode cX12_winters 30 = .ok (.ireturn, 1) := by decide +kernel
theorem dX12_winters_31 : decode cX12_winters 31 = .ok (.aload_n 0, 1) := by decide +kernel
theorem dX12_winters_32 : decode cX12_winters 32 = .ok (.invokevirtual 163, 3) := by decide +kernel
theorem dX12_winters_35 : decode cX12_winters 35 = .ok (.ifCond .eq 6, 3) := by decide +kernel
theorem dX12_winters_38 : decode cX12_winters 38 = .ok (.bipush (-103), 2) := by decide +kernel
theorem dX12_winters_40 : decode cX12_winters 40 = .ok (.ireturn, 1) := by decide +kernel
theorem dX12_winters_41 : decode cX12_winters 41 = .ok (.aload_n 0, 1) := by decide +kernel
theorem dX12_winters_42 : decode cX12_winters 42 = .ok (.getfield 22, 3) := by decide +kernel
theorem dX12_winters_45 : decode cX12_winters 45 = .ok (.aload_n 0, 1) := by decide +kernel
theorem dX12_winters_46 : decode cX12_winters 46 = .ok (.getfield 25, 3) := by decide +kernel
theorem dX12_winters_49 : decode cX12_winters 49 = .ok (.invokestatic 167, 3) := by decide +kernel
theorem dX12_winters_52 : decode cX12_winters 52 = .ok (.aload_n 0, 1) := by decide +kernel
theorem dX12_winters_53 : decode cX12_winters 53 = .ok (.iload_n 2, 1) := by decide +kernel
theorem dX12_winters_54 : decode cX12_winters 54 = .ok (.putfield 227, 3) := by decide +kernel
theorem dX12_winters_57 : decode cX12_winters 57 = .ok (.iconst 0, 1) := by decide +kernel
theorem dX12_winters_58 : decode cX12_winters 58 = .ok (.istore 4, 2) := by decide +kernel
theorem dX12_winters_60 : decode cX12_winters 60 = .ok (.iconst 0, 1) := by decide +kernel
theorem dX12_winters_61 : decode cX12_winters 61 = .ok (.istore 5, 2) := by decide +kernel
theorem dX12_winters_63 : decode cX12_winters 63 = .ok (.iconst 0, 1) := by decide +kernel
theorem dX12_winters_64 : decode cX12_winters 64 = .ok (.istore 6, 2) := by decide +kernel
theorem dX12_winters_66 : decode cX12_winters 66 = .ok (.iload 6, 2) := by decide +kernel
theorem dX12_winters_68 : decode cX12_winters 68 = .ok (.iload_n 1, 1) := by decide +kernel
theorem dX12_winters_69 : decode cX12_winters 69 = .ok (.if_icmp .ge 103, 3) := by decide +kernel
theorem dX12_winters_72 : decode cX12_winters 72 = .ok (.aload_n 0, 1) := by decide +kernel
theorem dX12_winters_73 : decode cX12_winters 73 = .ok (.aload_n 0, 1) := by decide +kernel
theorem dX12_winters_74 : decode cX12_winters 74 = .ok (.getfield 85, 3) := by decide +kernel
theorem dX12_winters_77 : decode cX12_winters 77 = .ok (.invokevirtual 239, 3) := by decide +kernel
theorem dX12_winters_80 : decode cX12_winters 80 = .ok (.istore 7, 2) := by decide +kernel
theorem dX12_winters_82 : decode cX12_winters 82 = .ok (.aload_n 0, 1) := by decide +kernel
theorem dX12_winters_83 : decode cX12_winters 83 = .ok (.aload_n 0, 1) := by decide +kernel
theorem dX12_winters_84 : decode cX12_winters 84 = .ok (.getfield 85, 3) := by decide +kernel
theorem dX12_winters_87 : decode cX12_winters 87 = .ok (.invokevirtual 239, 3) := by decide +kernel
theorem dX12_winters_90 : decode cX12_winters 90 = .ok (.istore 8, 2) := by decide +kernel
theorem dX12_winters_92 : decode cX12_winters 92 = .ok (.iload 7, 2) := by decide +kernel
theorem dX12_winters_94 : decode cX12_winters 94 = .ok (.iload 8, 2) := by decide +kernel
theorem dX12_winters_96 : decode cX12_winters 96 = .ok (.if_icmp .eq 70, 3) := by decide +kernel
theorem dX12_winters_99 : decode cX12_winters 99 = .ok (.aload_n 0, 1) := by decide +kernel
theorem dX12_winters_100 : decode cX12_winters 100 = .ok (.getfield 25, 3) := by decide +kernel
theorem dX12_winters_103 : decode cX12_winters 103 = .ok (.iload 7, 2) := by decide +kernel
theorem dX12_winters_105 : decode cX12_winters 105 = .ok (.iaload, 1) := by decide +kernel
theorem dX12_winters_106 : decode cX12_winters 106 = .ok (.iconst (-1), 1) := by decide +kernel
theorem dX12_winters_107 : decode cX12_winters 107 = .ok (.if_icmp .ne 59, 3) := by decide +kernel
theorem dX12_winters_110 : decode cX12_winters 110 = .ok (.aload_n 0, 1) := by decide +kernel
theorem dX12_winters_111 : decode cX12_winters 111 = .ok (.getfield 25, 3) := by decide +kernel
theorem dX12_winters_114 : decode cX12_winters 114 = .ok (.iload 8, 2) := by decide +kernel
theorem dX12_winters_116 : decode cX12_winters 116 = .ok (.iaload, 1) := by decide +kernel
theorem dX12_winters_117 : decode cX12_winters 117 = .ok (.iconst (-1), 1) := by decide +kernel
theorem dX12_winters_118 : decode cX12_winters 118 = .ok (.if_icmp .ne 48, 3) := by decide +kernel
theorem dX12_winters_121 : decode cX12_winters 121 = .ok (.aload_n 0, 1) := by decide +kernel
theorem dX12_winters_122 : decode cX12_winters 122 = .ok (.iload 7, 2) := by decide +kernel
theorem dX12_winters_124 : decode cX12_winters 124 = .ok (.iload 8, 2) := by decide +kernel
theorem dX12_winters_126 : decode cX12_winters 126 = .ok (.invokevirtual 120, 3) := by decide +kernel
theorem dX12_winters_129 : decode cX12_winters 129 = .ok (.ifCond .eq 37, 3) := by decide +kernel
theorem dX12_winters_132 : decode cX12_winters 132 = .ok (.aload_n 0, 1) := by decide +kernel
theorem dX12_winters_133 : decode cX12_winters 133 = .ok (.getfield 25, 3) := by decide +kernel
theorem dX12_winters_136 : decode cX12_winters 136 = .ok (.iload 7, 2) := by decide +kernel
theorem dX12_winters_138 : decode cX12_winters 138 = .ok (.iload 8, 2) := by decide +kernel
theorem dX12_winters_140 : decode cX12_winters 140 = .ok (.iastore, 1) := by decide +kernel
theorem dX12_winters_141 : decode cX12_winters 141 = .ok (.aload_n 0, 1) := by decide +kernel
theorem dX12_winters_142 : decode cX12_winters 142 = .ok (.getfield 25, 3) := by decide +kernel
theorem dX12_winters_145 : decode cX12_winters 145 = .ok (.iload 8, 2) := by decide +kernel
theorem dX12_winters_147 : decode cX12_winters 147 = .ok (.iload 7, 2) := by decide +kernel
theorem dX12_winters_149 : decode cX12_winters 149 = .ok (.iastore, 1) := by decide +kernel
theorem dX12_winters_150 : decode cX12_winters 150 = .ok (.iinc 4 1, 3) := by decide +kernel
theorem dX12_winters_153 : decode cX12_winters 153 = .ok (.iload 5, 2) := by decide +kernel
theorem dX12_winters_155 : decode cX12_winters 155 = .ok (.aload_n 0, 1) := by decide +kernel
theorem dX12_winters_156 : decode cX12_winters 156 = .ok (.iload 7, 2) := by decide +kernel
theorem dX12_winters_158 : decode cX12_winters 158 = .ok (.iload 8, 2) := by decide +kernel
theorem dX12_winters_160 : decode cX12_winters 160 = .ok (.invokevirtual 126, 3) := by decide +kernel
theorem dX12_winters_163 : decode cX12_winters 163 = .ok (.iadd, 1) := by decide +kernel
theorem dX12_winters_164 : decode cX12_winters 164 = .ok (.istore 5, 2) := by decide +kernel
theorem dX12_winters_166 : decode cX12_winters 166 = .ok (.iinc 6 1, 3) := by decide +kernel
theorem dX12_winters_169 : decode cX12_winters 169 = .ok (.goto (-103), 3) := by decide +kernel
theorem dX12_winters_172 : decode cX12_winters 172 = .ok (.iload_n 3, 1) := by decide +kernel
theorem dX12_winters_173 : decode cX12_winters 173 = .ok (.ifCond .ne 8, 3) := by decide +kernel
theorem dX12_winters_176 : decode cX12_winters 176 = .ok (.iload 4, 2) := by decide +kernel
theorem dX12_winters_178 : decode cX12_winters 178 = .ok (.goto 17, 3) := by decide +kernel
theorem dX12_winters_181 : decode cX12_winters 181 = .ok (.iload_n 3, 1) := by decide +kernel
theorem dX12_winters_182 : decode cX12_winters 182 = .ok (.iconst 1, 1) := by decide +kernel
theorem dX12_winters_183 : decode cX12_winters 183 = .ok (.if_icmp .ne 8, 3) := by decide +kernel
theorem dX12_winters_186 : decode cX12_winters 186 = .ok (.iload 5, 2) := by decide +kernel
theorem dX12_winters_188 : decode cX12_winters 188 = .ok (.goto 7, 3) := by decide +kernel
theorem dX12_winters_191 : decode cX12_winters 191 = .ok (.aload_n 0, 1) := by decide +kernel
theorem dX12_winters_192 : decode cX12_winters 192 = .ok (.getfield 227, 3) := by decide +kernel
theorem dX12_winters_195 : decode cX12_winters 195 = .ok (.ireturn, 1) := by decide +kernel
theorem dX12_image_0 : decode cX12_image 0 = .ok (.aload_n 0, 1) := by decide +kernel
theorem dX12_image_1 : decode cX12_image 1 = .ok (.invokevirtual 163, 3) := by decide +kernel
theorem dX12_image_4 : decode cX12_image 4 = .ok (.ifCond .eq 6, 3) := by decide +kernel
theorem dX12_image_7 : decode cX12_image 7 = .ok (.bipush (-103), 2) := by decide +kernel
theorem dX12_image_9 : decode cX12_image 9 = .ok (.ireturn, 1) := by decide +kernel
theorem dX12_image_10 : decode cX12_image 10 = .ok (.aload_n 0, 1) := by decide +kernel
theorem dX12_image_11 : decode cX12_image 11 = .ok (.getfield 16, 3) := by decide +kernel
theorem dX12_image_14 : decode cX12_image 14 = .ok (.aload_n 0, 1) := by decide +kernel
theorem dX12_image_15 : decode cX12_image 15 = .ok (.getfield 40, 3) := by decide +kernel
theorem dX12_image_18 : decode cX12_image 18 = .ok (.invokestatic 167, 3) := by decide +kernel
theorem dX12_image_21 : decode cX12_image 21 = .ok (.aload_n 0, 1) := by decide +kernel
theorem dX12_image_22 : decode cX12_image 22 = .ok (.getfield 19, 3) := by decide +kernel
theorem dX12_image_25 : decode cX12_image 25 = .ok (.aload_n 0, 1) := by decide +kernel
theorem dX12_image_26 : decode cX12_image 26 = .ok (.getfield 43, 3) := by decide +kernel
theorem dX12_image_29 : decode cX12_image 29 = .ok (.invokestatic 167, 3) := by decide +kernel
theorem dX12_image_32 : decode cX12_image 32 = .ok (.aload_n 0, 1) := by decide +kernel
theorem dX12_image_33 : decode cX12_image 33 = .ok (.getfield 22, 3) := by decide +kernel
theorem dX12_image_36 : decode cX12_image 36 = .ok (.aload_n 0, 1) := by decide +kernel
theorem dX12_image_37 : decode cX12_image 37 = .ok (.getfield 46, 3) := by decide +kernel
theorem dX12_image_40 : decode cX12_image 40 = .ok (.invokestatic 167, 3) := by decide +kernel
theorem dX12_image_43 : decode cX12_image 43 = .ok (.aload_n 0, 1) := by decide +kernel
theorem dX12_image_44 : decode cX12_image 44 = .ok (.getfield 34, 3) := by decide +kernel
theorem dX12_image_47 : decode cX12_image 47 = .ok (.aload_n 0, 1) := by decide +kernel
theorem dX12_image_48 : decode cX12_image 48 = .ok (.getfield 49, 3) := by decide +kernel
theorem dX12_image_51 : decode cX12_image 51 = .ok (.invokestatic 167, 3) := by decide +kernel
theorem dX12_image_54 : decode cX12_image 54 = .ok (.aload_n 0, 1) := by decide +kernel
theorem dX12_image_55 : decode cX12_image 55 = .ok (.aload_n 0, 1) := by decide +kernel
theorem dX12_image_56 : decode cX12_image 56 = .ok (.getfield 88, 3) := by decide +kernel
theorem dX12_image_59 : decode cX12_image 59 = .ok (.putfield 242, 3) := by decide +kernel
theorem dX12_image_62 : decode cX12_image 62 = .ok (.aload_n 0, 1) := by decide +kernel
theorem dX12_image_63 : decode cX12_image 63 = .ok (.aload_n 0, 1) := by decide +kernel
theorem dX12_image_64 : decode cX12_image 64 = .ok (.getfield 91, 3) := by decide +kernel
theorem dX12_image_67 : decode cX12_image 67 = .ok (.putfield 245, 3) := by decide +kernel
theorem dX12_image_70 : decode cX12_image 70 = .ok (.aload_n 0, 1) := by decide +kernel
theorem dX12_image_71 : decode cX12_image 71 = .ok (.aload_n 0, 1) := by decide +kernel
theorem dX12_image_72 : decode cX12_image 72 = .ok (.getfield 94, 3) := by decide +kernel
theorem dX12_image_75 : decode cX12_image 75 = .ok (.putfield 248, 3) := by decide +kernel
theorem dX12_image_78 : decode cX12_image 78 = .ok (.aload_n 0, 1) := by decide +kernel
theorem dX12_image_79 : decode cX12_image 79 = .ok (.aload_n 0, 1) := by decide +kernel
theorem dX12_image_80 : decode cX12_image 80 = .ok (.getfield 97, 3) := by decide +kernel
theorem dX12_image_83 : decode cX12_image 83 = .ok (.putfield 251, 3) := by decide +kernel
theorem dX12_image_86 : decode cX12_image 86 = .ok (.aload_n 0, 1) := by decide +kernel
theorem dX12_image_87 : decode cX12_image 87 = .ok (.aload_n 0, 1) := by decide +kernel
theorem dX12_image_88 : decode cX12_image 88 = .ok (.getfield 100, 3) := by decide +kernel
theorem dX12_image_91 : decode cX12_image 91 = .ok (.putfield 254, 3) := by decide +kernel
theorem dX12_image_94 : decode cX12_image 94 = .ok (.aload_n 0, 1) := by decide +kernel
theorem dX12_image_95 : decode cX12_image 95 = .ok (.aload_n 0, 1) := by decide +kernel
theorem dX12_image_96 : decode cX12_image 96 = .ok (.getfield 103, 3) := by decide +kernel
theorem dX12_image_99 : decode cX12_image 99 = .ok (.putfield 52, 3) := by decide +kernel
theorem dX12_image_102 : decode cX12_image 102 = .ok (.aload_n 0, 1) := by decide +kernel
theorem dX12_image_103 : decode cX12_image 103 = .ok (.getfield 88, 3) := by decide +kernel
theorem dX12_image_106 : decode cX12_image 106 = .ok (.ireturn, 1) := by decide +kernel
theorem dX12_restore_0 : decode cX12_restore 0 = .ok (.aload_n 0, 1) := by decide +kernel
theorem dX12_restore_1 : decode cX12_restore 1 = .ok (.getfield 52, 3) := by decide +kernel
theorem dX12_restore_4 : decode cX12_restore 4 = .ok (.aload_n 0, 1) := by decide +kernel
theorem dX12_restore_5 : decode cX12_restore 5 = .ok (.getfield 103, 3) := by decide +kernel
theorem dX12_restore_8 : decode cX12_restore 8 = .ok (.if_icmp .eq 6, 3) := by decide +kernel
theorem dX12_restore_11 : decode cX12_restore 11 = .ok (.bipush (-103), 2) := by decide +kernel
theorem dX12_restore_13 : decode cX12_restore 13 = .ok (.ireturn, 1) := by decide +kernel
theorem dX12_restore_14 : decode cX12_restore 14 = .ok (.aload_n 0, 1) := by decide +kernel
theorem dX12_restore_15 : decode cX12_restore 15 = .ok (.getfield 40, 3) := by decide +kernel
theorem dX12_restore_18 : decode cX12_restore 18 = .ok (.aload_n 0, 1) := by decide +kernel
theorem dX12_restore_19 : decode cX12_restore 19 = .ok (.getfield 16, 3) := by decide +kernel
theorem dX12_restore_22 : decode cX12_restore 22 = .ok (.invokestatic 167, 3) := by decide +kernel
theorem dX12_restore_25 : decode cX12_restore 25 = .ok (.aload_n 0, 1) := by decide +kernel
theorem dX12_restore_26 : decode cX12_restore 26 = .ok (.getfield 43, 3) := by decide +kernel
theorem dX12_restore_29 : decode cX12_restore 29 = .ok (.aload_n 0, 1) := by decide +kernel
theorem dX12_restore_30 : decode cX12_restore 30 = .ok (.getfield 19, 3) := by decide +kernel
theorem dX12_restore_33 : decode cX12_restore 33 = .ok (.invokestatic 167, 3) := by decide +kernel
theorem dX12_restore_36 : decode cX12_restore 36 = .ok (.aload_n 0, 1) := by decide +kernel
theorem dX12_restore_37 : decode cX12_restore 37 = .ok (.getfield 46, 3) := by decide +kernel
theorem dX12_restore_40 : decode cX12_restore 40 = .ok (.aload_n 0, 1) := by decide +kernel
theorem dX12_restore_41 : decode cX12_restore 41 = .ok (.getfield 22, 3) := by decide +kernel
theorem dX12_restore_44 : decode cX12_restore 44 = .ok (.invokestatic 167, 3) := by decide +kernel
theorem dX12_restore_47 : decode cX12_restore 47 = .ok (.aload_n 0, 1) := by decide +kernel
theorem dX12_restore_48 : decode cX12_restore 48 = .ok (.getfield 49, 3) := by decide +kernel
theorem dX12_restore_51 : decode cX12_restore 51 = .ok (.aload_n 0, 1) := by decide +kernel
theorem dX12_restore_52 : decode cX12_restore 52 = .ok (.getfield 34, 3) := by decide +kernel
theorem dX12_restore_55 : decode cX12_restore 55 = .ok (.invokestatic 167, 3) := by decide +kernel
theorem dX12_restore_58 : decode cX12_restore 58 = .ok (.aload_n 0, 1) := by decide +kernel
theorem dX12_restore_59 : decode cX12_restore 59 = .ok (.aload_n 0, 1) := by decide +kernel
theorem dX12_restore_60 : decode cX12_restore 60 = .ok (.getfield 242, 3) := by decide +kernel
theorem dX12_restore_63 : decode cX12_restore 63 = .ok (.putfield 88, 3) := by decide +kernel
theorem dX12_restore_66 : decode cX12_restore 66 = .ok (.aload_n 0, 1) := by decide +kernel
theorem dX12_restore_67 : decode cX12_restore 67 = .ok (.aload_n 0, 1) := by decide +kernel
theorem dX12_restore_68 : decode cX12_restore 68 = .ok (.getfield 245, 3) := by decide +kernel
theorem dX12_restore_71 : decode cX12_restore 71 = .ok (.putfield 91, 3) := by decide +kernel
theorem dX12_restore_74 : decode cX12_restore 74 = .ok (.aload_n 0, 1) := by decide +kernel
theorem dX12_restore_75 : decode cX12_restore 75 = .ok (.aload_n 0, 1) := by decide +kernel
theorem dX12_restore_76 : decode cX12_restore 76 = .ok (.getfield 248, 3) := by decide +kernel
theorem dX12_restore_79 : decode cX12_restore 79 = .ok (.putfield 94, 3) := by decide +kernel
theorem dX12_restore_82 : decode cX12_restore 82 = .ok (.aload_n 0, 1) := by decide +kernel
theorem dX12_restore_83 : decode cX12_restore 83 = .ok (.aload_n 0, 1) := by decide +kernel
theorem dX12_restore_84 : decode cX12_restore 84 = .ok (.getfield 251, 3) := by decide +kernel
theorem dX12_restore_87 : decode cX12_restore 87 = .ok (.putfield 97, 3) := by decide +kernel
theorem dX12_restore_90 : decode cX12_restore 90 = .ok (.aload_n 0, 1) := by decide +kernel
theorem dX12_restore_91 : decode cX12_restore 91 = .ok (.aload_n 0, 1) := by decide +kernel
theorem dX12_restore_92 : decode cX12_restore 92 = .ok (.getfield 254, 3) := by decide +kernel
theorem dX12_restore_95 : decode cX12_restore 95 = .ok (.putfield 100, 3) := by decide +kernel
theorem dX12_restore_98 : decode cX12_restore 98 = .ok (.aload_n 0, 1) := by decide +kernel
theorem dX12_restore_99 : decode cX12_restore 99 = .ok (.getfield 88, 3) := by decide +kernel
theorem dX12_restore_102 : decode cX12_restore 102 = .ok (.ireturn, 1) := by decide +kernel
theorem dX12_likenessNow_0 : decode cX12_likenessNow 0 = .ok (.iconst 0, 1) := by decide +kernel
theorem dX12_likenessNow_1 : decode cX12_likenessNow 1 = .ok (.istore_n 1, 1) := by decide +kernel
theorem dX12_likenessNow_2 : decode cX12_likenessNow 2 = .ok (.iconst 0, 1) := by decide +kernel
theorem dX12_likenessNow_3 : decode cX12_likenessNow 3 = .ok (.istore_n 2, 1) := by decide +kernel
theorem dX12_likenessNow_4 : decode cX12_likenessNow 4 = .ok (.iload_n 2, 1) := by decide +kernel
theorem dX12_likenessNow_5 : decode cX12_likenessNow 5 = .ok (.aload_n 0, 1) := by decide +kernel
theorem dX12_likenessNow_6 : decode cX12_likenessNow 6 = .ok (.getfield 85, 3) := by decide +kernel
theorem dX12_likenessNow_9 : decode cX12_likenessNow 9 = .ok (.if_icmp .ge 37, 3) := by decide +kernel
theorem dX12_likenessNow_12 : decode cX12_likenessNow 12 = .ok (.iload_n 1, 1) := by decide +kernel
theorem dX12_likenessNow_13 : decode cX12_likenessNow 13 = .ok (.aload_n 0, 1) := by decide +kernel
theorem dX12_likenessNow_14 : decode cX12_likenessNow 14 = .ok (.getfield 22, 3) := by decide +kernel
theorem dX12_likenessNow_17 : decode cX12_likenessNow 17 = .ok (.iload_n 2, 1) := by decide +kernel
theorem dX12_likenessNow_18 : decode cX12_likenessNow 18 = .ok (.iaload, 1) := by decide +kernel
theorem dX12_likenessNow_19 : decode cX12_likenessNow 19 = .ok (.iload_n 2, 1) := by decide +kernel
theorem dX12_likenessNow_20 : decode cX12_likenessNow 20 = .ok (.if_icmp .le 17, 3) := by decide +kernel
theorem dX12_likenessNow_23 : decode cX12_likenessNow 23 = .ok (.aload_n 0, 1) := by decide +kernel
theorem dX12_likenessNow_24 : decode cX12_likenessNow 24 = .ok (.iload_n 2, 1) := by decide +kernel
theorem dX12_likenessNow_25 : decode cX12_likenessNow 25 = .ok (.aload_n 0, 1) := by decide +kernel
theorem dX12_likenessNow_26 : decode cX12_likenessNow 26 = .ok (.getfield 22, 3) := by decide +kernel
theorem dX12_likenessNow_29 : decode cX12_likenessNow 29 = .ok (.iload_n 2, 1) := by decide +kernel
theorem dX12_likenessNow_30 : decode cX12_likenessNow 30 = .ok (.iaload, 1) := by decide +kernel
theorem dX12_likenessNow_31 : decode cX12_likenessNow 31 = .ok (.invokevirtual 126, 3) := by decide +kernel
theorem dX12_likenessNow_34 : decode cX12_likenessNow 34 = .ok (.goto 4, 3) := by decide +kernel
theorem dX12_likenessNow_37 : decode cX12_likenessNow 37 = .ok (.iconst 0, 1) := by decide +kernel
theorem dX12_likenessNow_38 : decode cX12_likenessNow 38 = .ok (.iadd, 1) := by decide +kernel
theorem dX12_likenessNow_39 : decode cX12_likenessNow 39 = .ok (.istore_n 1, 1) := by decide +kernel
theorem dX12_likenessNow_40 : decode cX12_likenessNow 40 = .ok (.iinc 2 1, 3) := by decide +kernel
theorem dX12_likenessNow_43 : decode cX12_likenessNow 43 = .ok (.goto (-39), 3) := by decide +kernel
theorem dX12_likenessNow_46 : decode cX12_likenessNow 46 = .ok (.iload_n 1, 1) := by decide +kernel
theorem dX12_likenessNow_47 : decode cX12_likenessNow 47 = .ok (.ireturn, 1) := by decide +kernel
theorem dX12_mayTwos_0 : decode cX12_mayTwos 0 = .ok (.iconst 0, 1) := by decide +kernel
theorem dX12_mayTwos_1 : decode cX12_mayTwos 1 = .ok (.istore_n 1, 1) := by decide +kernel
theorem dX12_mayTwos_2 : decode cX12_mayTwos 2 = .ok (.iconst 0, 1) := by decide +kernel
theorem dX12_mayTwos_3 : decode cX12_mayTwos 3 = .ok (.istore_n 2, 1) := by decide +kernel
theorem dX12_mayTwos_4 : decode cX12_mayTwos 4 = .ok (.iload_n 2, 1) := by decide +kernel
theorem dX12_mayTwos_5 : decode cX12_mayTwos 5 = .ok (.aload_n 0, 1) := by decide +kernel
theorem dX12_mayTwos_6 : decode cX12_mayTwos 6 = .ok (.getfield 85, 3) := by decide +kernel
theorem dX12_mayTwos_9 : decode cX12_mayTwos 9 = .ok (.if_icmp .ge 20, 3) := by decide +kernel
theorem dX12_mayTwos_12 : decode cX12_mayTwos 12 = .ok (.iload_n 1, 1) := by decide +kernel
theorem dX12_mayTwos_13 : decode cX12_mayTwos 13 = .ok (.aload_n 0, 1) := by decide +kernel
theorem dX12_mayTwos_14 : decode cX12_mayTwos 14 = .ok (.iload_n 2, 1) := by decide +kernel
theorem dX12_mayTwos_15 : decode cX12_mayTwos 15 = .ok (.invokevirtual 136, 3) := by decide +kernel
theorem dX12_mayTwos_18 : decode cX12_mayTwos 18 = .ok (.invokestatic 257, 3) := by decide +kernel
theorem dX12_mayTwos_21 : decode cX12_mayTwos 21 = .ok (.iadd, 1) := by decide +kernel
theorem dX12_mayTwos_22 : decode cX12_mayTwos 22 = .ok (.istore_n 1, 1) := by decide +kernel
theorem dX12_mayTwos_23 : decode cX12_mayTwos 23 = .ok (.iinc 2 1, 3) := by decide +kernel
theorem dX12_mayTwos_26 : decode cX12_mayTwos 26 = .ok (.goto (-22), 3) := by decide +kernel
theorem dX12_mayTwos_29 : decode cX12_mayTwos 29 = .ok (.iload_n 1, 1) := by decide +kernel
theorem dX12_mayTwos_30 : decode cX12_mayTwos 30 = .ok (.iconst 2, 1) := by decide +kernel
theorem dX12_mayTwos_31 : decode cX12_mayTwos 31 = .ok (.idiv, 1) := by decide +kernel
theorem dX12_mayTwos_32 : decode cX12_mayTwos 32 = .ok (.ireturn, 1) := by decide +kernel
theorem dX12_aloneOf_0 : decode cX12_aloneOf 0 = .ok (.iconst 0, 1) := by decide +kernel
theorem dX12_aloneOf_1 : decode cX12_aloneOf 1 = .ok (.istore_n 2, 1) := by decide +kernel
theorem dX12_aloneOf_2 : decode cX12_aloneOf 2 = .ok (.iconst 0, 1) := by decide +kernel
theorem dX12_aloneOf_3 : decode cX12_aloneOf 3 = .ok (.istore_n 3, 1) := by decide +kernel
theorem dX12_aloneOf_4 : decode cX12_aloneOf 4 = .ok (.iload_n 3, 1) := by decide +kernel
theorem dX12_aloneOf_5 : decode cX12_aloneOf 5 = .ok (.aload_n 0, 1) := by decide +kernel
theorem dX12_aloneOf_6 : decode cX12_aloneOf 6 = .ok (.getfield 85, 3) := by decide +kernel
theorem dX12_aloneOf_9 : decode cX12_aloneOf 9 = .ok (.if_icmp .ge 41, 3) := by decide +kernel
theorem dX12_aloneOf_12 : decode cX12_aloneOf 12 = .ok (.iload_n 2, 1) := by decide +kernel
theorem dX12_aloneOf_13 : decode cX12_aloneOf 13 = .ok (.aload_n 0, 1) := by decide +kernel
theorem dX12_aloneOf_14 : decode cX12_aloneOf 14 = .ok (.getfield 22, 3) := by decide +kernel
theorem dX12_aloneOf_17 : decode cX12_aloneOf 17 = .ok (.iload_n 3, 1) := by decide +kernel
theorem dX12_aloneOf_18 : decode cX12_aloneOf 18 = .ok (.iaload, 1) := by decide +kernel
theorem dX12_aloneOf_19 : decode cX12_aloneOf 19 = .ok (.iconst (-1), 1) := by decide +kernel
theorem dX12_aloneOf_20 : decode cX12_aloneOf 20 = .ok (.if_icmp .ne 21, 3) := by decide +kernel
theorem dX12_aloneOf_23 : decode cX12_aloneOf 23 = .ok (.aload_n 0, 1) := by decide +kernel
theorem dX12_aloneOf_24 : decode cX12_aloneOf 24 = .ok (.getfield 13, 3) := by decide +kernel
theorem dX12_aloneOf_27 : decode cX12_aloneOf 27 = .ok (.iconst 2, 1) := by decide +kernel
theorem dX12_aloneOf_28 : decode cX12_aloneOf 28 = .ok (.iload_n 3, 1) := by decide +kernel
theorem dX12_aloneOf_29 : decode cX12_aloneOf 29 = .ok (.imul, 1) := by decide +kernel
theorem dX12_aloneOf_30 : decode cX12_aloneOf 30 = .ok (.iconst 1, 1) := by decide +kernel
theorem dX12_aloneOf_31 : decode cX12_aloneOf 31 = .ok (.iadd, 1) := by decide +kernel
theorem dX12_aloneOf_32 : decode cX12_aloneOf 32 = .ok (.iaload, 1) := by decide +kernel
theorem dX12_aloneOf_33 : decode cX12_aloneOf 33 = .ok (.iload_n 1, 1) := by decide +kernel
theorem dX12_aloneOf_34 : decode cX12_aloneOf 34 = .ok (.if_icmp .ne 7, 3) := by decide +kernel
theorem dX12_aloneOf_37 : decode cX12_aloneOf 37 = .ok (.iconst 1, 1) := by decide +kernel
theorem dX12_aloneOf_38 : decode cX12_aloneOf 38 = .ok (.goto 4, 3) := by decide +kernel
theorem dX12_aloneOf_41 : decode cX12_aloneOf 41 = .ok (.iconst 0, 1) := by decide +kernel
theorem dX12_aloneOf_42 : decode cX12_aloneOf 42 = .ok (.iadd, 1) := by decide +kernel
theorem dX12_aloneOf_43 : decode cX12_aloneOf 43 = .ok (.istore_n 2, 1) := by decide +kernel
theorem dX12_aloneOf_44 : decode cX12_aloneOf 44 = .ok (.iinc 3 1, 3) := by decide +kernel
theorem dX12_aloneOf_47 : decode cX12_aloneOf 47 = .ok (.goto (-43), 3) := by decide +kernel
theorem dX12_aloneOf_50 : decode cX12_aloneOf 50 = .ok (.iload_n 2, 1) := by decide +kernel
theorem dX12_aloneOf_51 : decode cX12_aloneOf 51 = .ok (.ireturn, 1) := by decide +kernel
theorem dX12_countOf_0 : decode cX12_countOf 0 = .ok (.iload_n 1, 1) := by decide +kernel
theorem dX12_countOf_1 : decode cX12_countOf 1 = .ok (.tableswitch 134 0 12 #[67, 72, 81, 86, 91, 91, 99, 104, 109, 114, 119, 124, 129], 67) := by decide +kernel
theorem dX12_countOf_68 : decode cX12_countOf 68 = .ok (.aload_n 0, 1) := by decide +kernel
theorem dX12_countOf_69 : decode cX12_countOf 69 = .ok (.getfield 85, 3) := by decide +kernel
theorem dX12_countOf_72 : decode cX12_countOf 72 = .ok (.ireturn, 1) := by decide +kernel
theorem dX12_countOf_73 : decode cX12_countOf 73 = .ok (.aload_n 0, 1) := by decide +kernel
theorem dX12_countOf_74 : decode cX12_countOf 74 = .ok (.aload_n 0, 1) := by decide +kernel
theorem dX12_countOf_75 : decode cX12_countOf 75 = .ok (.getfield 22, 3) := by decide +kernel
theorem dX12_countOf_78 : decode cX12_countOf 78 = .ok (.invokevirtual 171, 3) := by decide +kernel
theorem dX12_countOf_81 : decode cX12_countOf 81 = .ok (.ireturn, 1) := by decide +kernel
theorem dX12_countOf_82 : decode cX12_countOf 82 = .ok (.aload_n 0, 1) := by decide +kernel
theorem dX12_countOf_83 : decode cX12_countOf 83 = .ok (.invokevirtual 260, 3) := by decide +kernel
theorem dX12_countOf_86 : decode cX12_countOf 86 = .ok (.ireturn, 1) := by decide +kernel
theorem dX12_countOf_87 : decode cX12_countOf 87 = .ok (.aload_n 0, 1) := by decide +kernel
theorem dX12_countOf_88 : decode cX12_countOf 88 = .ok (.invokevirtual 263, 3) := by decide +kernel
theorem dX12_countOf_91 : decode cX12_countOf 91 = .ok (.ireturn, 1) := by decide +kernel
theorem dX12_countOf_92 : decode cX12_countOf 92 = .ok (.aload_n 0, 1) := by decide +kernel
theorem dX12_countOf_93 : decode cX12_countOf 93 = .ok (.iload_n 1, 1) := by decide +kernel
theorem dX12_countOf_94 : decode cX12_countOf 94 = .ok (.iconst 4, 1) := by decide +kernel
theorem dX12_countOf_95 : decode cX12_countOf 95 = .ok (.isub, 1) := by decide +kernel
theorem dX12_countOf_96 : decode cX12_countOf 96 = .ok (.invokevirtual 266, 3) := by decide +kernel
theorem dX12_countOf_99 : decode cX12_countOf 99 = .ok (.ireturn, 1) := by decide +kernel
theorem dX12_countOf_100 : decode cX12_countOf 100 = .ok (.aload_n 0, 1) := by decide +kernel
theorem dX12_countOf_101 : decode cX12_countOf 101 = .ok (.getfield 88, 3) := by decide +kernel
theorem dX12_countOf_104 : decode cX12_countOf 104 = .ok (.ireturn, 1) := by decide +kernel
theorem dX12_countOf_105 : decode cX12_countOf 105 = .ok (.aload_n 0, 1) := by decide +kernel
theorem dX12_countOf_106 : decode cX12_countOf 106 = .ok (.getfield 91, 3) := by decide +kernel
theorem dX12_countOf_109 : decode cX12_countOf 109 = .ok (.ireturn, 1) := by decide +kernel
theorem dX12_countOf_110 : decode cX12_countOf 110 = .ok (.aload_n 0, 1) := by decide +kernel
theorem dX12_countOf_111 : decode cX12_countOf 111 = .ok (.getfield 94, 3) := by decide +kernel
theorem dX12_countOf_114 : decode cX12_countOf 114 = .ok (.ireturn, 1) := by decide +kernel
theorem dX12_countOf_115 : decode cX12_countOf 115 = .ok (.aload_n 0, 1) := by decide +kernel
theorem dX12_countOf_116 : decode cX12_countOf 116 = .ok (.getfield 97, 3) := by decide +kernel
theorem dX12_countOf_119 : decode cX12_countOf 119 = .ok (.ireturn, 1) := by decide +kernel
theorem dX12_countOf_120 : decode cX12_countOf 120 = .ok (.aload_n 0, 1) := by decide +kernel
theorem dX12_countOf_121 : decode cX12_countOf 121 = .ok (.getfield 100, 3) := by decide +kernel
theorem dX12_countOf_124 : decode cX12_countOf 124 = .ok (.ireturn, 1) := by decide +kernel
theorem dX12_countOf_125 : decode cX12_countOf 125 = .ok (.aload_n 0, 1) := by decide +kernel
theorem dX12_countOf_126 : decode cX12_countOf 126 = .ok (.getfield 62, 3) := by decide +kernel
theorem dX12_countOf_129 : decode cX12_countOf 129 = .ok (.ireturn, 1) := by decide +kernel
theorem dX12_countOf_130 : decode cX12_countOf 130 = .ok (.aload_n 0, 1) := by decide +kernel
theorem dX12_countOf_131 : decode cX12_countOf 131 = .ok (.getfield 103, 3) := by decide +kernel
theorem dX12_countOf_134 : decode cX12_countOf 134 = .ok (.ireturn, 1) := by decide +kernel
theorem dX12_countOf_135 : decode cX12_countOf 135 = .ok (.bipush (-102), 2) := by decide +kernel
theorem dX12_countOf_137 : decode cX12_countOf 137 = .ok (.ireturn, 1) := by decide +kernel
theorem dX12_count_0 : decode cX12_count 0 = .ok (.aload_n 0, 1) := by decide +kernel
theorem dX12_count_1 : decode cX12_count 1 = .ok (.iload_n 1, 1) := by decide +kernel
theorem dX12_count_2 : decode cX12_count 2 = .ok (.invokevirtual 269, 3) := by decide +kernel
theorem dX12_count_5 : decode cX12_count 5 = .ok (.ireturn, 1) := by decide +kernel
theorem dX12_say_0 : decode cX12_say 0 = .ok (.aload_n 0, 1) := by decide +kernel
theorem dX12_say_1 : decode cX12_say 1 = .ok (.ldc2_w 272, 3) := by decide +kernel
theorem dX12_say_4 : decode cX12_say 4 = .ok (.aload_n 0, 1) := by decide +kernel
theorem dX12_say_5 : decode cX12_say 5 = .ok (.getfield 274, 3) := by decide +kernel
theorem dX12_say_8 : decode cX12_say 8 = .ok (.lmul, 1) := by decide +kernel
theorem dX12_say_9 : decode cX12_say 9 = .ok (.lload_n 1, 1) := by decide +kernel
theorem dX12_say_10 : decode cX12_say 10 = .ok (.ladd, 1) := by decide +kernel
theorem dX12_say_11 : decode cX12_say 11 = .ok (.putfield 274, 3) := by decide +kernel
theorem dX12_say_14 : decode cX12_say 14 = .ok (.return_, 1) := by decide +kernel
theorem dX12_sayDrawer_0 : decode cX12_sayDrawer 0 = .ok (.aload_n 0, 1) := by decide +kernel
theorem dX12_sayDrawer_1 : decode cX12_sayDrawer 1 = .ok (.aload_n 0, 1) := by decide +kernel
theorem dX12_sayDrawer_2 : decode cX12_sayDrawer 2 = .ok (.iconst 0, 1) := by decide +kernel
theorem dX12_sayDrawer_3 : decode cX12_sayDrawer 3 = .ok (.invokevirtual 191, 3) := by decide +kernel
theorem dX12_sayDrawer_6 : decode cX12_sayDrawer 6 = .ok (.i2l, 1) := by decide +kernel
theorem dX12_sayDrawer_7 : decode cX12_sayDrawer 7 = .ok (.invokevirtual 278, 3) := by decide +kernel
theorem dX12_sayDrawer_10 : decode cX12_sayDrawer 10 = .ok (.aload_n 0, 1) := by decide +kernel
theorem dX12_sayDrawer_11 : decode cX12_sayDrawer 11 = .ok (.aload_n 0, 1) := by decide +kernel
theorem dX12_sayDrawer_12 : decode cX12_sayDrawer 12 = .ok (.iconst 1, 1) := by decide +kernel
theorem dX12_sayDrawer_13 : decode cX12_sayDrawer 13 = .ok (.invokevirtual 191, 3) := by decide +kernel
theorem dX12_sayDrawer_16 : decode cX12_sayDrawer 16 = .ok (.i2l, 1) := by decide +kernel
theorem dX12_sayDrawer_17 : decode cX12_sayDrawer 17 = .ok (.invokevirtual 278, 3) := by decide +kernel
theorem dX12_sayDrawer_20 : decode cX12_sayDrawer 20 = .ok (.bipush 10, 2) := by decide +kernel
theorem dX12_sayDrawer_22 : decode cX12_sayDrawer 22 = .ok (.istore_n 1, 1) := by decide +kernel
theorem dX12_sayDrawer_23 : decode cX12_sayDrawer 23 = .ok (.iload_n 1, 1) := by decide +kernel
theorem dX12_sayDrawer_24 : decode cX12_sayDrawer 24 = .ok (.bipush 17, 2) := by decide +kernel
theorem dX12_sayDrawer_26 : decode cX12_sayDrawer 26 = .ok (.if_icmp .ge 19, 3) := by decide +kernel
theorem dX12_sayDrawer_29 : decode cX12_sayDrawer 29 = .ok (.aload_n 0, 1) := by decide +kernel
theorem dX12_sayDrawer_30 : decode cX12_sayDrawer 30 = .ok (.aload_n 0, 1) := by decide +kernel
theorem dX12_sayDrawer_31 : decode cX12_sayDrawer 31 = .ok (.iload_n 1, 1) := by decide +kernel
theorem dX12_sayDrawer_32 : decode cX12_sayDrawer 32 = .ok (.invokevirtual 191, 3) := by decide +kernel
theorem dX12_sayDrawer_35 : decode cX12_sayDrawer 35 = .ok (.i2l, 1) := by decide +kernel
theorem dX12_sayDrawer_36 : decode cX12_sayDrawer 36 = .ok (.invokevirtual 278, 3) := by decide +kernel
theorem dX12_sayDrawer_39 : decode cX12_sayDrawer 39 = .ok (.iinc 1 1, 3) := by decide +kernel
theorem dX12_sayDrawer_42 : decode cX12_sayDrawer 42 = .ok (.goto (-19), 3) := by decide +kernel
theorem dX12_sayDrawer_45 : decode cX12_sayDrawer 45 = .ok (.aload_n 0, 1) := by decide +kernel
theorem dX12_sayDrawer_46 : decode cX12_sayDrawer 46 = .ok (.aload_n 0, 1) := by decide +kernel
theorem dX12_sayDrawer_47 : decode cX12_sayDrawer 47 = .ok (.iconst 4, 1) := by decide +kernel
theorem dX12_sayDrawer_48 : decode cX12_sayDrawer 48 = .ok (.iconst 0, 1) := by decide +kernel
theorem dX12_sayDrawer_49 : decode cX12_sayDrawer 49 = .ok (.invokevirtual 199, 3) := by decide +kernel
theorem dX12_sayDrawer_52 : decode cX12_sayDrawer 52 = .ok (.i2l, 1) := by decide +kernel
theorem dX12_sayDrawer_53 : decode cX12_sayDrawer 53 = .ok (.invokevirtual 278, 3) := by decide +kernel
theorem dX12_sayDrawer_56 : decode cX12_sayDrawer 56 = .ok (.aload_n 0, 1) := by decide +kernel
theorem dX12_sayDrawer_57 : decode cX12_sayDrawer 57 = .ok (.aload_n 0, 1) := by decide +kernel
theorem dX12_sayDrawer_58 : decode cX12_sayDrawer 58 = .ok (.iconst 4, 1) := by decide +kernel
theorem dX12_sayDrawer_59 : decode cX12_sayDrawer 59 = .ok (.iconst 1, 1) := by decide +kernel
theorem dX12_sayDrawer_60 : decode cX12_sayDrawer 60 = .ok (.invokevirtual 199, 3) := by decide +kernel
theorem dX12_sayDrawer_63 : decode cX12_sayDrawer 63 = .ok (.i2l, 1) := by decide +kernel
theorem dX12_sayDrawer_64 : decode cX12_sayDrawer 64 = .ok (.invokevirtual 278, 3) := by decide +kernel
theorem dX12_sayDrawer_67 : decode cX12_sayDrawer 67 = .ok (.aload_n 0, 1) := by decide +kernel
theorem dX12_sayDrawer_68 : decode cX12_sayDrawer 68 = .ok (.aload_n 0, 1) := by decide +kernel
theorem dX12_sayDrawer_69 : decode cX12_sayDrawer 69 = .ok (.iconst 0, 1) := by decide +kernel
theorem dX12_sayDrawer_70 : decode cX12_sayDrawer 70 = .ok (.invokevirtual 205, 3) := by decide +kernel
theorem dX12_sayDrawer_73 : decode cX12_sayDrawer 73 = .ok (.i2l, 1) := by decide +kernel
theorem dX12_sayDrawer_74 : decode cX12_sayDrawer 74 = .ok (.invokevirtual 278, 3) := by decide +kernel
theorem dX12_sayDrawer_77 : decode cX12_sayDrawer 77 = .ok (.aload_n 0, 1) := by decide +kernel
theorem dX12_sayDrawer_78 : decode cX12_sayDrawer 78 = .ok (.aload_n 0, 1) := by decide +kernel
theorem dX12_sayDrawer_79 : decode cX12_sayDrawer 79 = .ok (.iconst 1, 1) := by decide +kernel
theorem dX12_sayDrawer_80 : decode cX12_sayDrawer 80 = .ok (.invokevirtual 205, 3) := by decide +kernel
theorem dX12_sayDrawer_83 : decode cX12_sayDrawer 83 = .ok (.i2l, 1) := by decide +kernel
theorem dX12_sayDrawer_84 : decode cX12_sayDrawer 84 = .ok (.invokevirtual 278, 3) := by decide +kernel
theorem dX12_sayDrawer_87 : decode cX12_sayDrawer 87 = .ok (.iconst 0, 1) := by decide +kernel
theorem dX12_sayDrawer_88 : decode cX12_sayDrawer 88 = .ok (.istore_n 1, 1) := by decide +kernel
theorem dX12_sayDrawer_89 : decode cX12_sayDrawer 89 = .ok (.iload_n 1, 1) := by decide +kernel
theorem dX12_sayDrawer_90 : decode cX12_sayDrawer 90 = .ok (.bipush 6, 2) := by decide +kernel
theorem dX12_sayDrawer_92 : decode cX12_sayDrawer 92 = .ok (.if_icmp .ge 19, 3) := by decide +kernel
theorem dX12_sayDrawer_95 : decode cX12_sayDrawer 95 = .ok (.aload_n 0, 1) := by decide +kernel
theorem dX12_sayDrawer_96 : decode cX12_sayDrawer 96 = .ok (.aload_n 0, 1) := by decide +kernel
theorem dX12_sayDrawer_97 : decode cX12_sayDrawer 97 = .ok (.iload_n 1, 1) := by decide +kernel
theorem dX12_sayDrawer_98 : decode cX12_sayDrawer 98 = .ok (.invokevirtual 208, 3) := by decide +kernel
theorem dX12_sayDrawer_101 : decode cX12_sayDrawer 101 = .ok (.i2l, 1) := by decide +kernel
theorem dX12_sayDrawer_102 : decode cX12_sayDrawer 102 = .ok (.invokevirtual 278, 3) := by decide +kernel
theorem dX12_sayDrawer_105 : decode cX12_sayDrawer 105 = .ok (.iinc 1 1, 3) := by decide +kernel
theorem dX12_sayDrawer_108 : decode cX12_sayDrawer 108 = .ok (.goto (-19), 3) := by decide +kernel
theorem dX12_sayDrawer_111 : decode cX12_sayDrawer 111 = .ok (.aload_n 0, 1) := by decide +kernel
theorem dX12_sayDrawer_112 : decode cX12_sayDrawer 112 = .ok (.aload_n 0, 1) := by decide +kernel
theorem dX12_sayDrawer_113 : decode cX12_sayDrawer 113 = .ok (.iconst 0, 1) := by decide +kernel
theorem dX12_sayDrawer_114 : decode cX12_sayDrawer 114 = .ok (.invokevirtual 214, 3) := by decide +kernel
theorem dX12_sayDrawer_117 : decode cX12_sayDrawer 117 = .ok (.i2l, 1) := by decide +kernel
theorem dX12_sayDrawer_118 : decode cX12_sayDrawer 118 = .ok (.invokevirtual 278, 3) := by decide +kernel
theorem dX12_sayDrawer_121 : decode cX12_sayDrawer 121 = .ok (.aload_n 0, 1) := by decide +kernel
theorem dX12_sayDrawer_122 : decode cX12_sayDrawer 122 = .ok (.aload_n 0, 1) := by decide +kernel
theorem dX12_sayDrawer_123 : decode cX12_sayDrawer 123 = .ok (.iconst 1, 1) := by decide +kernel
theorem dX12_sayDrawer_124 : decode cX12_sayDrawer 124 = .ok (.invokevirtual 214, 3) := by decide +kernel
theorem dX12_sayDrawer_127 : decode cX12_sayDrawer 127 = .ok (.i2l, 1) := by decide +kernel
theorem dX12_sayDrawer_128 : decode cX12_sayDrawer 128 = .ok (.invokevirtual 278, 3) := by decide +kernel
theorem dX12_sayDrawer_131 : decode cX12_sayDrawer 131 = .ok (.return_, 1) := by decide +kernel
theorem dX12_digest_0 : decode cX12_digest 0 = .ok (.aload_n 0, 1) := by decide +kernel
theorem dX12_digest_1 : decode cX12_digest 1 = .ok (.ldc2_w 282, 3) := by decide +kernel
theorem dX12_digest_4 : decode cX12_digest 4 = .ok (.putfield 274, 3) := by decide +kernel
theorem dX12_digest_7 : decode cX12_digest 7 = .ok (.iconst 0, 1) := by decide +kernel
theorem dX12_digest_8 : decode cX12_digest 8 = .ok (.istore_n 1, 1) := by decide +kernel
theorem dX12_digest_9 : decode cX12_digest 9 = .ok (.iload_n 1, 1) := by decide +kernel
theorem dX12_digest_10 : decode cX12_digest 10 = .ok (.aload_n 0, 1) := by decide +kernel
theorem dX12_digest_11 : decode cX12_digest 11 = .ok (.getfield 85, 3) := by decide +kernel
theorem dX12_digest_14 : decode cX12_digest 14 = .ok (.if_icmp .ge 66, 3) := by decide +kernel
theorem dX12_digest_17 : decode cX12_digest 17 = .ok (.iconst 0, 1) := by decide +kernel
theorem dX12_digest_18 : decode cX12_digest 18 = .ok (.istore_n 2, 1) := by decide +kernel
theorem dX12_digest_19 : decode cX12_digest 19 = .ok (.iload_n 2, 1) := by decide +kernel
theorem dX12_digest_20 : decode cX12_digest 20 = .ok (.bipush 11, 2) := by decide +kernel
theorem dX12_digest_22 : decode cX12_digest 22 = .ok (.if_icmp .ge 20, 3) := by decide +kernel
theorem dX12_digest_25 : decode cX12_digest 25 = .ok (.aload_n 0, 1) := by decide +kernel
theorem dX12_digest_26 : decode cX12_digest 26 = .ok (.aload_n 0, 1) := by decide +kernel
theorem dX12_digest_27 : decode cX12_digest 27 = .ok (.iload_n 1, 1) := by decide +kernel
theorem dX12_digest_28 : decode cX12_digest 28 = .ok (.iload_n 2, 1) := by decide +kernel
theorem dX12_digest_29 : decode cX12_digest 29 = .ok (.invokevirtual 151, 3) := by decide +kernel
theorem dX12_digest_32 : decode cX12_digest 32 = .ok (.i2l, 1) := by decide +kernel
theorem dX12_digest_33 : decode cX12_digest 33 = .ok (.invokevirtual 278, 3) := by decide +kernel
theorem dX12_digest_36 : decode cX12_digest 36 = .ok (.iinc 2 1, 3) := by decide +kernel
theorem dX12_digest_39 : decode cX12_digest 39 = .ok (.goto (-20), 3) := by decide +kernel
theorem dX12_digest_42 : decode cX12_digest 42 = .ok (.iconst 0, 1) := by decide +kernel
theorem dX12_digest_43 : decode cX12_digest 43 = .ok (.istore_n 2, 1) := by decide +kernel
theorem dX12_digest_44 : decode cX12_digest 44 = .ok (.iload_n 2, 1) := by decide +kernel
theorem dX12_digest_45 : decode cX12_digest 45 = .ok (.aload_n 0, 1) := by decide +kernel
theorem dX12_digest_46 : decode cX12_digest 46 = .ok (.getfield 85, 3) := by decide +kernel
theorem dX12_digest_49 : decode cX12_digest 49 = .ok (.if_icmp .ge 25, 3) := by decide +kernel
theorem dX12_digest_52 : decode cX12_digest 52 = .ok (.iload_n 2, 1) := by decide +kernel
theorem dX12_digest_53 : decode cX12_digest 53 = .ok (.iload_n 1, 1) := by decide +kernel
theorem dX12_digest_54 : decode cX12_digest 54 = .ok (.if_icmp .eq 14, 3) := by decide +kernel
theorem dX12_digest_57 : decode cX12_digest 57 = .ok (.aload_n 0, 1) := by decide +kernel
theorem dX12_digest_58 : decode cX12_digest 58 = .ok (.aload_n 0, 1) := by decide +kernel
theorem dX12_digest_59 : decode cX12_digest 59 = .ok (.iload_n 1, 1) := by decide +kernel
theorem dX12_digest_60 : decode cX12_digest 60 = .ok (.iload_n 2, 1) := by decide +kernel
theorem dX12_digest_61 : decode cX12_digest 61 = .ok (.invokevirtual 126, 3) := by decide +kernel
theorem dX12_digest_64 : decode cX12_digest 64 = .ok (.i2l, 1) := by decide +kernel
theorem dX12_digest_65 : decode cX12_digest 65 = .ok (.invokevirtual 278, 3) := by decide +kernel
theorem dX12_digest_68 : decode cX12_digest 68 = .ok (.iinc 2 1, 3) := by decide +kernel
theorem dX12_digest_71 : decode cX12_digest 71 = .ok (.goto (-27), 3) := by decide +kernel
theorem dX12_digest_74 : decode cX12_digest 74 = .ok (.iinc 1 1, 3) := by decide +kernel
theorem dX12_digest_77 : decode cX12_digest 77 = .ok (.goto (-68), 3) := by decide +kernel
theorem dX12_digest_80 : decode cX12_digest 80 = .ok (.aload_n 0, 1) := by decide +kernel
theorem dX12_digest_81 : decode cX12_digest 81 = .ok (.invokevirtual 163, 3) := by decide +kernel
theorem dX12_digest_84 : decode cX12_digest 84 = .ok (.ifCond .ne 7, 3) := by decide +kernel
theorem dX12_digest_87 : decode cX12_digest 87 = .ok (.aload_n 0, 1) := by decide +kernel
theorem dX12_digest_88 : decode cX12_digest 88 = .ok (.invokevirtual 284, 3) := by decide +kernel
theorem dX12_digest_91 : decode cX12_digest 91 = .ok (.iconst 0, 1) := by decide +kernel
theorem dX12_digest_92 : decode cX12_digest 92 = .ok (.istore_n 1, 1) := by decide +kernel
theorem dX12_digest_93 : decode cX12_digest 93 = .ok (.iload_n 1, 1) := by decide +kernel
theorem dX12_digest_94 : decode cX12_digest 94 = .ok (.aload_n 0, 1) := by decide +kernel
theorem dX12_digest_95 : decode cX12_digest 95 = .ok (.getfield 62, 3) := by decide +kernel
theorem dX12_digest_98 : decode cX12_digest 98 = .ok (.if_icmp .ge 20, 3) := by decide +kernel
theorem dX12_digest_101 : decode cX12_digest 101 = .ok (.aload_n 0, 1) := by decide +kernel
theorem dX12_digest_102 : decode cX12_digest 102 = .ok (.aload_n 0, 1) := by decide +kernel
theorem dX12_digest_103 : decode cX12_digest 103 = .ok (.getfield 7, 3) := by decide +kernel
theorem dX12_digest_106 : decode cX12_digest 106 = .ok (.iload_n 1, 1) := by decide +kernel
theorem dX12_digest_107 : decode cX12_digest 107 = .ok (.iaload, 1) := by decide +kernel
theorem dX12_digest_108 : decode cX12_digest 108 = .ok (.i2l, 1) := by decide +kernel
theorem dX12_digest_109 : decode cX12_digest 109 = .ok (.invokevirtual 278, 3) := by decide +kernel
theorem dX12_digest_112 : decode cX12_digest 112 = .ok (.iinc 1 1, 3) := by decide +kernel
theorem dX12_digest_115 : decode cX12_digest 115 = .ok (.goto (-22), 3) := by decide +kernel
theorem dX12_digest_118 : decode cX12_digest 118 = .ok (.iconst 0, 1) := by decide +kernel
theorem dX12_digest_119 : decode cX12_digest 119 = .ok (.istore_n 1, 1) := by decide +kernel
theorem dX12_digest_120 : decode cX12_digest 120 = .ok (.iload_n 1, 1) := by decide +kernel
theorem dX12_digest_121 : decode cX12_digest 121 = .ok (.bipush 13, 2) := by decide +kernel
theorem dX12_digest_123 : decode cX12_digest 123 = .ok (.if_icmp .ge 19, 3) := by decide +kernel
theorem dX12_digest_126 : decode cX12_digest 126 = .ok (.aload_n 0, 1) := by decide +kernel
theorem dX12_digest_127 : decode cX12_digest 127 = .ok (.aload_n 0, 1) := by decide +kernel
theorem dX12_digest_128 : decode cX12_digest 128 = .ok (.iload_n 1, 1) := by decide +kernel
theorem dX12_digest_129 : decode cX12_digest 129 = .ok (.invokevirtual 269, 3) := by decide +kernel
theorem dX12_digest_132 : decode cX12_digest 132 = .ok (.i2l, 1) := by decide +kernel
theorem dX12_digest_133 : decode cX12_digest 133 = .ok (.invokevirtual 278, 3) := by decide +kernel
theorem dX12_digest_136 : decode cX12_digest 136 = .ok (.iinc 1 1, 3) := by decide +kernel
theorem dX12_digest_139 : decode cX12_digest 139 = .ok (.goto (-19), 3) := by decide +kernel
theorem dX12_digest_142 : decode cX12_digest 142 = .ok (.aload_n 0, 1) := by decide +kernel
theorem dX12_digest_143 : decode cX12_digest 143 = .ok (.getfield 274, 3) := by decide +kernel
theorem dX12_digest_146 : decode cX12_digest 146 = .ok (.lreturn, 1) := by decide +kernel
