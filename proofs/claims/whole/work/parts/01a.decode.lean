theorem dX0_init_0 : decode cX0_init 0 = .ok (.aload_n 0, 1) := by decide +kernel
theorem dX0_init_1 : decode cX0_init 1 = .ok (.invokespecial 3, 3) := by decide +kernel
theorem dX0_init_4 : decode cX0_init 4 = .ok (.aload_n 0, 1) := by decide +kernel
theorem dX0_init_5 : decode cX0_init 5 = .ok (.bipush 7, 2) := by decide +kernel
theorem dX0_init_7 : decode cX0_init 7 = .ok (.anewarray 9, 3) := by decide +kernel
theorem dX0_init_10 : decode cX0_init 10 = .ok (.putfield 11, 3) := by decide +kernel
theorem dX0_init_13 : decode cX0_init 13 = .ok (.aload_n 0, 1) := by decide +kernel
theorem dX0_init_14 : decode cX0_init 14 = .ok (.new 17, 3) := by decide +kernel
theorem dX0_init_17 : decode cX0_init 17 = .ok (.dup, 1) := by decide +kernel
theorem dX0_init_18 : decode cX0_init 18 = .ok (.invokespecial 19, 3) := by decide +kernel
theorem dX0_init_21 : decode cX0_init 21 = .ok (.putfield 20, 3) := by decide +kernel
theorem dX0_init_24 : decode cX0_init 24 = .ok (.aload_n 0, 1) := by decide +kernel
theorem dX0_init_25 : decode cX0_init 25 = .ok (.iconst 0, 1) := by decide +kernel
theorem dX0_init_26 : decode cX0_init 26 = .ok (.putfield 24, 3) := by decide +kernel
theorem dX0_init_29 : decode cX0_init 29 = .ok (.aload_n 0, 1) := by decide +kernel
theorem dX0_init_30 : decode cX0_init 30 = .ok (.iconst 0, 1) := by decide +kernel
theorem dX0_init_31 : decode cX0_init 31 = .ok (.putfield 28, 3) := by decide +kernel
theorem dX0_init_34 : decode cX0_init 34 = .ok (.aload_n 0, 1) := by decide +kernel
theorem dX0_init_35 : decode cX0_init 35 = .ok (.iconst 0, 1) := by decide +kernel
theorem dX0_init_36 : decode cX0_init 36 = .ok (.putfield 31, 3) := by decide +kernel
theorem dX0_init_39 : decode cX0_init 39 = .ok (.aload_n 0, 1) := by decide +kernel
theorem dX0_init_40 : decode cX0_init 40 = .ok (.iconst 0, 1) := by decide +kernel
theorem dX0_init_41 : decode cX0_init 41 = .ok (.putfield 34, 3) := by decide +kernel
theorem dX0_init_44 : decode cX0_init 44 = .ok (.aload_n 0, 1) := by decide +kernel
theorem dX0_init_45 : decode cX0_init 45 = .ok (.iconst 0, 1) := by decide +kernel
theorem dX0_init_46 : decode cX0_init 46 = .ok (.putfield 37, 3) := by decide +kernel
theorem dX0_init_49 : decode cX0_init 49 = .ok (.aload_n 0, 1) := by decide +kernel
theorem dX0_init_50 : decode cX0_init 50 = .ok (.bipush 7, 2) := by decide +kernel
theorem dX0_init_52 : decode cX0_init 52 = .ok (.newarray .int, 2) := by decide +kernel
theorem dX0_init_54 : decode cX0_init 54 = .ok (.putfield 40, 3) := by decide +kernel
theorem dX0_init_57 : decode cX0_init 57 = .ok (.iconst 0, 1) := by decide +kernel
theorem dX0_init_58 : decode cX0_init 58 = .ok (.istore_n 1, 1) := by decide +kernel
theorem dX0_init_59 : decode cX0_init 59 = .ok (.iload_n 1, 1) := by decide +kernel
theorem dX0_init_60 : decode cX0_init 60 = .ok (.bipush 7, 2) := by decide +kernel
theorem dX0_init_62 : decode cX0_init 62 = .ok (.if_icmp .ge 25, 3) := by decide +kernel
theorem dX0_init_65 : decode cX0_init 65 = .ok (.aload_n 0, 1) := by decide +kernel
theorem dX0_init_66 : decode cX0_init 66 = .ok (.getfield 11, 3) := by decide +kernel
theorem dX0_init_69 : decode cX0_init 69 = .ok (.iload_n 1, 1) := by decide +kernel
theorem dX0_init_70 : decode cX0_init 70 = .ok (.new 9, 3) := by decide +kernel
theorem dX0_init_73 : decode cX0_init 73 = .ok (.dup, 1) := by decide +kernel
theorem dX0_init_74 : decode cX0_init 74 = .ok (.iconst 0, 1) := by decide +kernel
theorem dX0_init_75 : decode cX0_init 75 = .ok (.iconst 0, 1) := by decide +kernel
theorem dX0_init_76 : decode cX0_init 76 = .ok (.iconst 0, 1) := by decide +kernel
theorem dX0_init_77 : decode cX0_init 77 = .ok (.invokespecial 44, 3) := by decide +kernel
theorem dX0_init_80 : decode cX0_init 80 = .ok (.aastore, 1) := by decide +kernel
theorem dX0_init_81 : decode cX0_init 81 = .ok (.iinc 1 1, 3) := by decide +kernel
theorem dX0_init_84 : decode cX0_init 84 = .ok (.goto (-25), 3) := by decide +kernel
theorem dX0_init_87 : decode cX0_init 87 = .ok (.return_, 1) := by decide +kernel
theorem dX0_fillFrom_0 : decode cX0_fillFrom 0 = .ok (.aload_n 0, 1) := by decide +kernel
theorem dX0_fillFrom_1 : decode cX0_fillFrom 1 = .ok (.aload_n 1, 1) := by decide +kernel
theorem dX0_fillFrom_2 : decode cX0_fillFrom 2 = .ok (.invokevirtual 47, 3) := by decide +kernel
theorem dX0_fillFrom_5 : decode cX0_fillFrom 5 = .ok (.bipush 7, 2) := by decide +kernel
theorem dX0_fillFrom_7 : decode cX0_fillFrom 7 = .ok (.invokestatic 52, 3) := by decide +kernel
theorem dX0_fillFrom_10 : decode cX0_fillFrom 10 = .ok (.putfield 24, 3) := by decide +kernel
theorem dX0_fillFrom_13 : decode cX0_fillFrom 13 = .ok (.iconst 0, 1) := by decide +kernel
theorem dX0_fillFrom_14 : decode cX0_fillFrom 14 = .ok (.istore_n 2, 1) := by decide +kernel
theorem dX0_fillFrom_15 : decode cX0_fillFrom 15 = .ok (.iload_n 2, 1) := by decide +kernel
theorem dX0_fillFrom_16 : decode cX0_fillFrom 16 = .ok (.aload_n 0, 1) := by decide +kernel
theorem dX0_fillFrom_17 : decode cX0_fillFrom 17 = .ok (.getfield 24, 3) := by decide +kernel
theorem dX0_fillFrom_20 : decode cX0_fillFrom 20 = .ok (.if_icmp .ge 20, 3) := by decide +kernel
theorem dX0_fillFrom_23 : decode cX0_fillFrom 23 = .ok (.aload_n 0, 1) := by decide +kernel
theorem dX0_fillFrom_24 : decode cX0_fillFrom 24 = .ok (.getfield 11, 3) := by decide +kernel
theorem dX0_fillFrom_27 : decode cX0_fillFrom 27 = .ok (.iload_n 2, 1) := by decide +kernel
theorem dX0_fillFrom_28 : decode cX0_fillFrom 28 = .ok (.aload_n 1, 1) := by decide +kernel
theorem dX0_fillFrom_29 : decode cX0_fillFrom 29 = .ok (.iload_n 2, 1) := by decide +kernel
theorem dX0_fillFrom_30 : decode cX0_fillFrom 30 = .ok (.invokevirtual 58, 3) := by decide +kernel
theorem dX0_fillFrom_33 : decode cX0_fillFrom 33 = .ok (.aastore, 1) := by decide +kernel
theorem dX0_fillFrom_34 : decode cX0_fillFrom 34 = .ok (.iinc 2 1, 3) := by decide +kernel
theorem dX0_fillFrom_37 : decode cX0_fillFrom 37 = .ok (.goto (-22), 3) := by decide +kernel
theorem dX0_fillFrom_40 : decode cX0_fillFrom 40 = .ok (.aload_n 0, 1) := by decide +kernel
theorem dX0_fillFrom_41 : decode cX0_fillFrom 41 = .ok (.iconst 0, 1) := by decide +kernel
theorem dX0_fillFrom_42 : decode cX0_fillFrom 42 = .ok (.putfield 28, 3) := by decide +kernel
theorem dX0_fillFrom_45 : decode cX0_fillFrom 45 = .ok (.aload_n 0, 1) := by decide +kernel
theorem dX0_fillFrom_46 : decode cX0_fillFrom 46 = .ok (.iconst 0, 1) := by decide +kernel
theorem dX0_fillFrom_47 : decode cX0_fillFrom 47 = .ok (.putfield 31, 3) := by decide +kernel
theorem dX0_fillFrom_50 : decode cX0_fillFrom 50 = .ok (.aload_n 0, 1) := by decide +kernel
theorem dX0_fillFrom_51 : decode cX0_fillFrom 51 = .ok (.iconst 0, 1) := by decide +kernel
theorem dX0_fillFrom_52 : decode cX0_fillFrom 52 = .ok (.putfield 34, 3) := by decide +kernel
theorem dX0_fillFrom_55 : decode cX0_fillFrom 55 = .ok (.aload_n 0, 1) := by decide +kernel
theorem dX0_fillFrom_56 : decode cX0_fillFrom 56 = .ok (.iconst 0, 1) := by decide +kernel
theorem dX0_fillFrom_57 : decode cX0_fillFrom 57 = .ok (.putfield 37, 3) := by decide +kernel
theorem dX0_fillFrom_60 : decode cX0_fillFrom 60 = .ok (.aload_n 0, 1) := by decide +kernel
theorem dX0_fillFrom_61 : decode cX0_fillFrom 61 = .ok (.getfield 20, 3) := by decide +kernel
theorem dX0_fillFrom_64 : decode cX0_fillFrom 64 = .ok (.invokevirtual 62, 3) := by decide +kernel
theorem dX0_fillFrom_67 : decode cX0_fillFrom 67 = .ok (.return_, 1) := by decide +kernel
theorem dX0_isMissing_0 : decode cX0_isMissing 0 = .ok (.aload_n 0, 1) := by decide +kernel
theorem dX0_isMissing_1 : decode cX0_isMissing 1 = .ok (.getfield 24, 3) := by decide +kernel
theorem dX0_isMissing_4 : decode cX0_isMissing 4 = .ok (.ifCond .ne 7, 3) := by decide +kernel
theorem dX0_isMissing_7 : decode cX0_isMissing 7 = .ok (.iconst 1, 1) := by decide +kernel
theorem dX0_isMissing_8 : decode cX0_isMissing 8 = .ok (.goto 4, 3) := by decide +kernel
theorem dX0_isMissing_11 : decode cX0_isMissing 11 = .ok (.iconst 0, 1) := by decide +kernel
theorem dX0_isMissing_12 : decode cX0_isMissing 12 = .ok (.ireturn, 1) := by decide +kernel
theorem dX0_has_0 : decode cX0_has 0 = .ok (.iload_n 1, 1) := by decide +kernel
theorem dX0_has_1 : decode cX0_has 1 = .ok (.ifCond .lt 15, 3) := by decide +kernel
theorem dX0_has_4 : decode cX0_has 4 = .ok (.iload_n 1, 1) := by decide +kernel
theorem dX0_has_5 : decode cX0_has 5 = .ok (.aload_n 0, 1) := by decide +kernel
theorem dX0_has_6 : decode cX0_has 6 = .ok (.getfield 24, 3) := by decide +kernel
theorem dX0_has_9 : decode cX0_has 9 = .ok (.if_icmp .ge 7, 3) := by decide +kernel
theorem dX0_has_12 : decode cX0_has 12 = .ok (.iconst 1, 1) := by decide +kernel
theorem dX0_has_13 : decode cX0_has 13 = .ok (.goto 4, 3) := by decide +kernel
theorem dX0_has_16 : decode cX0_has 16 = .ok (.iconst 0, 1) := by decide +kernel
theorem dX0_has_17 : decode cX0_has 17 = .ok (.ireturn, 1) := by decide +kernel
theorem dX0_hasTwo_0 : decode cX0_hasTwo 0 = .ok (.aload_n 0, 1) := by decide +kernel
theorem dX0_hasTwo_1 : decode cX0_hasTwo 1 = .ok (.iload_n 1, 1) := by decide +kernel
theorem dX0_hasTwo_2 : decode cX0_hasTwo 2 = .ok (.invokevirtual 65, 3) := by decide +kernel
theorem dX0_hasTwo_5 : decode cX0_hasTwo 5 = .ok (.ifCond .eq 20, 3) := by decide +kernel
theorem dX0_hasTwo_8 : decode cX0_hasTwo 8 = .ok (.aload_n 0, 1) := by decide +kernel
theorem dX0_hasTwo_9 : decode cX0_hasTwo 9 = .ok (.iload_n 2, 1) := by decide +kernel
theorem dX0_hasTwo_10 : decode cX0_hasTwo 10 = .ok (.invokevirtual 65, 3) := by decide +kernel
theorem dX0_hasTwo_13 : decode cX0_hasTwo 13 = .ok (.ifCond .eq 12, 3) := by decide +kernel
theorem dX0_hasTwo_16 : decode cX0_hasTwo 16 = .ok (.iload_n 1, 1) := by decide +kernel
theorem dX0_hasTwo_17 : decode cX0_hasTwo 17 = .ok (.iload_n 2, 1) := by decide +kernel
theorem dX0_hasTwo_18 : decode cX0_hasTwo 18 = .ok (.if_icmp .eq 7, 3) := by decide +kernel
theorem dX0_hasTwo_21 : decode cX0_hasTwo 21 = .ok (.iconst 1, 1) := by decide +kernel
theorem dX0_hasTwo_22 : decode cX0_hasTwo 22 = .ok (.goto 4, 3) := by decide +kernel
theorem dX0_hasTwo_25 : decode cX0_hasTwo 25 = .ok (.iconst 0, 1) := by decide +kernel
theorem dX0_hasTwo_26 : decode cX0_hasTwo 26 = .ok (.ireturn, 1) := by decide +kernel
theorem dX0_isPaired_0 : decode cX0_isPaired 0 = .ok (.aload_n 0, 1) := by decide +kernel
theorem dX0_isPaired_1 : decode cX0_isPaired 1 = .ok (.aload_n 0, 1) := by decide +kernel
theorem dX0_isPaired_2 : decode cX0_isPaired 2 = .ok (.getfield 11, 3) := by decide +kernel
theorem dX0_isPaired_5 : decode cX0_isPaired 5 = .ok (.iload_n 1, 1) := by decide +kernel
theorem dX0_isPaired_6 : decode cX0_isPaired 6 = .ok (.aaload, 1) := by decide +kernel
theorem dX0_isPaired_7 : decode cX0_isPaired 7 = .ok (.getfield 69, 3) := by decide +kernel
theorem dX0_isPaired_10 : decode cX0_isPaired 10 = .ok (.invokevirtual 65, 3) := by decide +kernel
theorem dX0_isPaired_13 : decode cX0_isPaired 13 = .ok (.ireturn, 1) := by decide +kernel
theorem dX0_mayPair_0 : decode cX0_mayPair 0 = .ok (.aload_n 0, 1) := by decide +kernel
theorem dX0_mayPair_1 : decode cX0_mayPair 1 = .ok (.iload_n 1, 1) := by decide +kernel
theorem dX0_mayPair_2 : decode cX0_mayPair 2 = .ok (.iload_n 2, 1) := by decide +kernel
theorem dX0_mayPair_3 : decode cX0_mayPair 3 = .ok (.invokevirtual 72, 3) := by decide +kernel
theorem dX0_mayPair_6 : decode cX0_mayPair 6 = .ok (.iconst (-1), 1) := by decide +kernel
theorem dX0_mayPair_7 : decode cX0_mayPair 7 = .ok (.if_icmp .eq 7, 3) := by decide +kernel
theorem dX0_mayPair_10 : decode cX0_mayPair 10 = .ok (.iconst 1, 1) := by decide +kernel
theorem dX0_mayPair_11 : decode cX0_mayPair 11 = .ok (.goto 4, 3) := by decide +kernel
theorem dX0_mayPair_14 : decode cX0_mayPair 14 = .ok (.iconst 0, 1) := by decide +kernel
theorem dX0_mayPair_15 : decode cX0_mayPair 15 = .ok (.ireturn, 1) := by decide +kernel
theorem dX0_likenessOf_0 : decode cX0_likenessOf 0 = .ok (.aload_n 0, 1) := by decide +kernel
theorem dX0_likenessOf_1 : decode cX0_likenessOf 1 = .ok (.getfield 11, 3) := by decide +kernel
theorem dX0_likenessOf_4 : decode cX0_likenessOf 4 = .ok (.iload_n 1, 1) := by decide +kernel
theorem dX0_likenessOf_5 : decode cX0_likenessOf 5 = .ok (.aaload, 1) := by decide +kernel
theorem dX0_likenessOf_6 : decode cX0_likenessOf 6 = .ok (.astore_n 3, 1) := by decide +kernel
theorem dX0_likenessOf_7 : decode cX0_likenessOf 7 = .ok (.aload_n 0, 1) := by decide +kernel
theorem dX0_likenessOf_8 : decode cX0_likenessOf 8 = .ok (.getfield 11, 3) := by decide +kernel
theorem dX0_likenessOf_11 : decode cX0_likenessOf 11 = .ok (.iload_n 2, 1) := by decide +kernel
theorem dX0_likenessOf_12 : decode cX0_likenessOf 12 = .ok (.aaload, 1) := by decide +kernel
theorem dX0_likenessOf_13 : decode cX0_likenessOf 13 = .ok (.astore 4, 2) := by decide +kernel
theorem dX0_likenessOf_15 : decode cX0_likenessOf 15 = .ok (.iload_n 1, 1) := by decide +kernel
theorem dX0_likenessOf_16 : decode cX0_likenessOf 16 = .ok (.iload_n 2, 1) := by decide +kernel
theorem dX0_likenessOf_17 : decode cX0_likenessOf 17 = .ok (.if_icmp .eq 21, 3) := by decide +kernel
theorem dX0_likenessOf_20 : decode cX0_likenessOf 20 = .ok (.aload_n 3, 1) := by decide +kernel
theorem dX0_likenessOf_21 : decode cX0_likenessOf 21 = .ok (.aload 4, 2) := by decide +kernel
theorem dX0_likenessOf_23 : decode cX0_likenessOf 23 = .ok (.invokevirtual 75, 3) := by decide +kernel
theorem dX0_likenessOf_26 : decode cX0_likenessOf 26 = .ok (.ifCond .eq 12, 3) := by decide +kernel
theorem dX0_likenessOf_29 : decode cX0_likenessOf 29 = .ok (.aload 4, 2) := by decide +kernel
theorem dX0_likenessOf_31 : decode cX0_likenessOf 31 = .ok (.aload_n 3, 1) := by decide +kernel
theorem dX0_likenessOf_32 : decode cX0_likenessOf 32 = .ok (.invokevirtual 75, 3) := by decide +kernel
theorem dX0_likenessOf_35 : decode cX0_likenessOf 35 = .ok (.ifCond .ne 5, 3) := by decide +kernel
theorem dX0_likenessOf_38 : decode cX0_likenessOf 38 = .ok (.iconst (-1), 1) := by decide +kernel
theorem dX0_likenessOf_39 : decode cX0_likenessOf 39 = .ok (.ireturn, 1) := by decide +kernel
theorem dX0_likenessOf_40 : decode cX0_likenessOf 40 = .ok (.bipush 18, 2) := by decide +kernel
theorem dX0_likenessOf_42 : decode cX0_likenessOf 42 = .ok (.aload_n 3, 1) := by decide +kernel
theorem dX0_likenessOf_43 : decode cX0_likenessOf 43 = .ok (.aload 4, 2) := by decide +kernel
theorem dX0_likenessOf_45 : decode cX0_likenessOf 45 = .ok (.invokevirtual 79, 3) := by decide +kernel
theorem dX0_likenessOf_48 : decode cX0_likenessOf 48 = .ok (.isub, 1) := by decide +kernel
theorem dX0_likenessOf_49 : decode cX0_likenessOf 49 = .ok (.aload 4, 2) := by decide +kernel
theorem dX0_likenessOf_51 : decode cX0_likenessOf 51 = .ok (.aload_n 3, 1) := by decide +kernel
theorem dX0_likenessOf_52 : decode cX0_likenessOf 52 = .ok (.invokevirtual 79, 3) := by decide +kernel
theorem dX0_likenessOf_55 : decode cX0_likenessOf 55 = .ok (.isub, 1) := by decide +kernel
theorem dX0_likenessOf_56 : decode cX0_likenessOf 56 = .ok (.ireturn, 1) := by decide +kernel
theorem dX0_likenessAt_0 : decode cX0_likenessAt 0 = .ok (.aload_n 0, 1) := by decide +kernel
theorem dX0_likenessAt_1 : decode cX0_likenessAt 1 = .ok (.getfield 11, 3) := by decide +kernel
theorem dX0_likenessAt_4 : decode cX0_likenessAt 4 = .ok (.iload_n 1, 1) := by decide +kernel
theorem dX0_likenessAt_5 : decode cX0_likenessAt 5 = .ok (.aaload, 1) := by decide +kernel
theorem dX0_likenessAt_6 : decode cX0_likenessAt 6 = .ok (.getfield 83, 3) := by decide +kernel
theorem dX0_likenessAt_9 : decode cX0_likenessAt 9 = .ok (.istore 4, 2) := by decide +kernel
theorem dX0_likenessAt_11 : decode cX0_likenessAt 11 = .ok (.aload_n 0, 1) := by decide +kernel
theorem dX0_likenessAt_12 : decode cX0_likenessAt 12 = .ok (.getfield 11, 3) := by decide +kernel
theorem dX0_likenessAt_15 : decode cX0_likenessAt 15 = .ok (.iload_n 1, 1) := by decide +kernel
theorem dX0_likenessAt_16 : decode cX0_likenessAt 16 = .ok (.aaload, 1) := by decide +kernel
theorem dX0_likenessAt_17 : decode cX0_likenessAt 17 = .ok (.iload_n 2, 1) := by decide +kernel
theorem dX0_likenessAt_18 : decode cX0_likenessAt 18 = .ok (.putfield 83, 3) := by decide +kernel
theorem dX0_likenessAt_21 : decode cX0_likenessAt 21 = .ok (.aload_n 0, 1) := by decide +kernel
theorem dX0_likenessAt_22 : decode cX0_likenessAt 22 = .ok (.iload_n 1, 1) := by decide +kernel
theorem dX0_likenessAt_23 : decode cX0_likenessAt 23 = .ok (.iload_n 3, 1) := by decide +kernel
theorem dX0_likenessAt_24 : decode cX0_likenessAt 24 = .ok (.invokevirtual 72, 3) := by decide +kernel
theorem dX0_likenessAt_27 : decode cX0_likenessAt 27 = .ok (.istore 5, 2) := by decide +kernel
theorem dX0_likenessAt_29 : decode cX0_likenessAt 29 = .ok (.aload_n 0, 1) := by decide +kernel
theorem dX0_likenessAt_30 : decode cX0_likenessAt 30 = .ok (.getfield 11, 3) := by decide +kernel
theorem dX0_likenessAt_33 : decode cX0_likenessAt 33 = .ok (.iload_n 1, 1) := by decide +kernel
theorem dX0_likenessAt_34 : decode cX0_likenessAt 34 = .ok (.aaload, 1) := by decide +kernel
theorem dX0_likenessAt_35 : decode cX0_likenessAt 35 = .ok (.iload 4, 2) := by decide +kernel
theorem dX0_likenessAt_37 : decode cX0_likenessAt 37 = .ok (.putfield 83, 3) := by decide +kernel
theorem dX0_likenessAt_40 : decode cX0_likenessAt 40 = .ok (.iload 5, 2) := by decide +kernel
theorem dX0_likenessAt_42 : decode cX0_likenessAt 42 = .ok (.ireturn, 1) := by decide +kernel
theorem dX0_matchesOf_0 : decode cX0_matchesOf 0 = .ok (.iconst 0, 1) := by decide +kernel
theorem dX0_matchesOf_1 : decode cX0_matchesOf 1 = .ok (.istore_n 2, 1) := by decide +kernel
theorem dX0_matchesOf_2 : decode cX0_matchesOf 2 = .ok (.iconst 0, 1) := by decide +kernel
theorem dX0_matchesOf_3 : decode cX0_matchesOf 3 = .ok (.istore_n 3, 1) := by decide +kernel
theorem dX0_matchesOf_4 : decode cX0_matchesOf 4 = .ok (.iload_n 3, 1) := by decide +kernel
theorem dX0_matchesOf_5 : decode cX0_matchesOf 5 = .ok (.aload_n 0, 1) := by decide +kernel
theorem dX0_matchesOf_6 : decode cX0_matchesOf 6 = .ok (.getfield 24, 3) := by decide +kernel
theorem dX0_matchesOf_9 : decode cX0_matchesOf 9 = .ok (.if_icmp .ge 24, 3) := by decide +kernel
theorem dX0_matchesOf_12 : decode cX0_matchesOf 12 = .ok (.aload_n 0, 1) := by decide +kernel
theorem dX0_matchesOf_13 : decode cX0_matchesOf 13 = .ok (.iload_n 1, 1) := by decide +kernel
theorem dX0_matchesOf_14 : decode cX0_matchesOf 14 = .ok (.iload_n 3, 1) := by decide +kernel
theorem dX0_matchesOf_15 : decode cX0_matchesOf 15 = .ok (.invokevirtual 84, 3) := by decide +kernel
theorem dX0_matchesOf_18 : decode cX0_matchesOf 18 = .ok (.ifCond .eq 9, 3) := by decide +kernel
theorem dX0_matchesOf_21 : decode cX0_matchesOf 21 = .ok (.iload_n 2, 1) := by decide +kernel
theorem dX0_matchesOf_22 : decode cX0_matchesOf 22 = .ok (.iconst 1, 1) := by decide +kernel
theorem dX0_matchesOf_23 : decode cX0_matchesOf 23 = .ok (.iload_n 3, 1) := by decide +kernel
theorem dX0_matchesOf_24 : decode cX0_matchesOf 24 = .ok (.ishl, 1) := by decide +kernel
theorem dX0_matchesOf_25 : decode cX0_matchesOf 25 = .ok (.ior, 1) := by decide +kernel
theorem dX0_matchesOf_26 : decode cX0_matchesOf 26 = .ok (.istore_n 2, 1) := by decide +kernel
theorem dX0_matchesOf_27 : decode cX0_matchesOf 27 = .ok (.iinc 3 1, 3) := by decide +kernel
theorem dX0_matchesOf_30 : decode cX0_matchesOf 30 = .ok (.goto (-26), 3) := by decide +kernel
theorem dX0_matchesOf_33 : decode cX0_matchesOf 33 = .ok (.iload_n 2, 1) := by decide +kernel
theorem dX0_matchesOf_34 : decode cX0_matchesOf 34 = .ok (.ireturn, 1) := by decide +kernel
theorem dX0_favouriteOf_0 : decode cX0_favouriteOf 0 = .ok (.iconst (-1), 1) := by decide +kernel
theorem dX0_favouriteOf_1 : decode cX0_favouriteOf 1 = .ok (.istore_n 2, 1) := by decide +kernel
theorem dX0_favouriteOf_2 : decode cX0_favouriteOf 2 = .ok (.iconst (-1), 1) := by decide +kernel
theorem dX0_favouriteOf_3 : decode cX0_favouriteOf 3 = .ok (.istore_n 3, 1) := by decide +kernel
theorem dX0_favouriteOf_4 : decode cX0_favouriteOf 4 = .ok (.iconst 0, 1) := by decide +kernel
theorem dX0_favouriteOf_5 : decode cX0_favouriteOf 5 = .ok (.istore 4, 2) := by decide +kernel
theorem dX0_favouriteOf_7 : decode cX0_favouriteOf 7 = .ok (.iload 4, 2) := by decide +kernel
theorem dX0_favouriteOf_9 : decode cX0_favouriteOf 9 = .ok (.aload_n 0, 1) := by decide +kernel
theorem dX0_favouriteOf_10 : decode cX0_favouriteOf 10 = .ok (.getfield 24, 3) := by decide +kernel
theorem dX0_favouriteOf_13 : decode cX0_favouriteOf 13 = .ok (.if_icmp .ge 30, 3) := by decide +kernel
theorem dX0_favouriteOf_16 : decode cX0_favouriteOf 16 = .ok (.aload_n 0, 1) := by decide +kernel
theorem dX0_favouriteOf_17 : decode cX0_favouriteOf 17 = .ok (.iload_n 1, 1) := by decide +kernel
theorem dX0_favouriteOf_18 : decode cX0_favouriteOf 18 = .ok (.iload 4, 2) := by decide +kernel
theorem dX0_favouriteOf_20 : decode cX0_favouriteOf 20 = .ok (.invokevirtual 72, 3) := by decide +kernel
theorem dX0_favouriteOf_23 : decode cX0_favouriteOf 23 = .ok (.istore 5, 2) := by decide +kernel
theorem dX0_favouriteOf_25 : decode cX0_favouriteOf 25 = .ok (.iload 5, 2) := by decide +kernel
theorem dX0_favouriteOf_27 : decode cX0_favouriteOf 27 = .ok (.iload_n 3, 1) := by decide +kernel
theorem dX0_favouriteOf_28 : decode cX0_favouriteOf 28 = .ok (.if_icmp .le 9, 3) := by decide +kernel
theorem dX0_favouriteOf_31 : decode cX0_favouriteOf 31 = .ok (.iload 5, 2) := by decide +kernel
theorem dX0_favouriteOf_33 : decode cX0_favouriteOf 33 = .ok (.istore_n 3, 1) := by decide +kernel
theorem dX0_favouriteOf_34 : decode cX0_favouriteOf 34 = .ok (.iload 4, 2) := by decide +kernel
theorem dX0_favouriteOf_36 : decode cX0_favouriteOf 36 = .ok (.istore_n 2, 1) := by decide +kernel
theorem dX0_favouriteOf_37 : decode cX0_favouriteOf 37 = .ok (.iinc 4 1, 3) := by decide +kernel
theorem dX0_favouriteOf_40 : decode cX0_favouriteOf 40 = .ok (.goto (-33), 3) := by decide +kernel
theorem dX0_favouriteOf_43 : decode cX0_favouriteOf 43 = .ok (.iload_n 2, 1) := by decide +kernel
theorem dX0_favouriteOf_44 : decode cX0_favouriteOf 44 = .ok (.ireturn, 1) := by decide +kernel
theorem dX0_seersAt_0 : decode cX0_seersAt 0 = .ok (.iconst 0, 1) := by decide +kernel
theorem dX0_seersAt_1 : decode cX0_seersAt 1 = .ok (.istore_n 3, 1) := by decide +kernel
theorem dX0_seersAt_2 : decode cX0_seersAt 2 = .ok (.iconst 0, 1) := by decide +kernel
theorem dX0_seersAt_3 : decode cX0_seersAt 3 = .ok (.istore 4, 2) := by decide +kernel
theorem dX0_seersAt_5 : decode cX0_seersAt 5 = .ok (.iload 4, 2) := by decide +kernel
theorem dX0_seersAt_7 : decode cX0_seersAt 7 = .ok (.aload_n 0, 1) := by decide +kernel
theorem dX0_seersAt_8 : decode cX0_seersAt 8 = .ok (.getfield 24, 3) := by decide +kernel
theorem dX0_seersAt_11 : decode cX0_seersAt 11 = .ok (.if_icmp .ge 62, 3) := by decide +kernel
theorem dX0_seersAt_14 : decode cX0_seersAt 14 = .ok (.aload_n 0, 1) := by decide +kernel
theorem dX0_seersAt_15 : decode cX0_seersAt 15 = .ok (.getfield 11, 3) := by decide +kernel
theorem dX0_seersAt_18 : decode cX0_seersAt 18 = .ok (.iload 4, 2) := by decide +kernel
theorem dX0_seersAt_20 : decode cX0_seersAt 20 = .ok (.aaload, 1) := by decide +kernel
theorem dX0_seersAt_21 : decode cX0_seersAt 21 = .ok (.getfield 88, 3) := by decide +kernel
theorem dX0_seersAt_24 : decode cX0_seersAt 24 = .ok (.iload_n 2, 1) := by decide +kernel
theorem dX0_seersAt_25 : decode cX0_seersAt 25 = .ok (.isub, 1) := by decide +kernel
theorem dX0_seersAt_26 : decode cX0_seersAt 26 = .ok (.invokestatic 91, 3) := by decide +kernel
theorem dX0_seersAt_29 : decode cX0_seersAt 29 = .ok (.iconst 1, 1) := by decide +kernel
theorem dX0_seersAt_30 : decode cX0_seersAt 30 = .ok (.if_icmp .gt 7, 3) := by decide +kernel
theorem dX0_seersAt_33 : decode cX0_seersAt 33 = .ok (.iconst 1, 1) := by decide +kernel
theorem dX0_seersAt_34 : decode cX0_seersAt 34 = .ok (.goto 4, 3) := by decide +kernel
theorem dX0_seersAt_37 : decode cX0_seersAt 37 = .ok (.iconst 0, 1) := by decide +kernel
theorem dX0_seersAt_38 : decode cX0_seersAt 38 = .ok (.istore 5, 2) := by decide +kernel
theorem dX0_seersAt_40 : decode cX0_seersAt 40 = .ok (.iload 5, 2) := by decide +kernel
theorem dX0_seersAt_42 : decode cX0_seersAt 42 = .ok (.ifCond .eq 25, 3) := by decide +kernel
theorem dX0_seersAt_45 : decode cX0_seersAt 45 = .ok (.aload_n 0, 1) := by decide +kernel
theorem dX0_seersAt_46 : decode cX0_seersAt 46 = .ok (.iload 4, 2) := by decide +kernel
theorem dX0_seersAt_48 : decode cX0_seersAt 48 = .ok (.invokevirtual 95, 3) := by decide +kernel
theorem dX0_seersAt_51 : decode cX0_seersAt 51 = .ok (.ifCond .ne 16, 3) := by decide +kernel
theorem dX0_seersAt_54 : decode cX0_seersAt 54 = .ok (.aload_n 0, 1) := by decide +kernel
theorem dX0_seersAt_55 : decode cX0_seersAt 55 = .ok (.iload_n 1, 1) := by decide +kernel
theorem dX0_seersAt_56 : decode cX0_seersAt 56 = .ok (.iload 4, 2) := by decide +kernel
theorem dX0_seersAt_58 : decode cX0_seersAt 58 = .ok (.invokevirtual 84, 3) := by decide +kernel
theorem dX0_seersAt_61 : decode cX0_seersAt 61 = .ok (.ifCond .eq 6, 3) := by decide +kernel
theorem dX0_seersAt_64 : decode cX0_seersAt 64 = .ok (.iinc 3 1, 3) := by decide +kernel
theorem dX0_seersAt_67 : decode cX0_seersAt 67 = .ok (.iinc 4 1, 3) := by decide +kernel
theorem dX0_seersAt_70 : decode cX0_seersAt 70 = .ok (.goto (-65), 3) := by decide +kernel
theorem dX0_seersAt_73 : decode cX0_seersAt 73 = .ok (.iload_n 3, 1) := by decide +kernel
theorem dX0_seersAt_74 : decode cX0_seersAt 74 = .ok (.ireturn, 1) := by decide +kernel
theorem dX0_spikeOf_0 : decode cX0_spikeOf 0 = .ok (.iconst 0, 1) := by decide +kernel
theorem dX0_spikeOf_1 : decode cX0_spikeOf 1 = .ok (.istore_n 2, 1) := by decide +kernel
theorem dX0_spikeOf_2 : decode cX0_spikeOf 2 = .ok (.iconst (-1), 1) := by decide +kernel
theorem dX0_spikeOf_3 : decode cX0_spikeOf 3 = .ok (.istore_n 3, 1) := by decide +kernel
theorem dX0_spikeOf_4 : decode cX0_spikeOf 4 = .ok (.iconst 0, 1) := by decide +kernel
theorem dX0_spikeOf_5 : decode cX0_spikeOf 5 = .ok (.istore 4, 2) := by decide +kernel
theorem dX0_spikeOf_7 : decode cX0_spikeOf 7 = .ok (.iload 4, 2) := by decide +kernel
theorem dX0_spikeOf_9 : decode cX0_spikeOf 9 = .ok (.bipush 6, 2) := by decide +kernel
theorem dX0_spikeOf_11 : decode cX0_spikeOf 11 = .ok (.if_icmp .ge 30, 3) := by decide +kernel
theorem dX0_spikeOf_14 : decode cX0_spikeOf 14 = .ok (.aload_n 0, 1) := by decide +kernel
theorem dX0_spikeOf_15 : decode cX0_spikeOf 15 = .ok (.iload_n 1, 1) := by decide +kernel
theorem dX0_spikeOf_16 : decode cX0_spikeOf 16 = .ok (.iload 4, 2) := by decide +kernel
theorem dX0_spikeOf_18 : decode cX0_spikeOf 18 = .ok (.invokevirtual 98, 3) := by decide +kernel
theorem dX0_spikeOf_21 : decode cX0_spikeOf 21 = .ok (.istore 5, 2) := by decide +kernel
theorem dX0_spikeOf_23 : decode cX0_spikeOf 23 = .ok (.iload 5, 2) := by decide +kernel
theorem dX0_spikeOf_25 : decode cX0_spikeOf 25 = .ok (.iload_n 3, 1) := by decide +kernel
theorem dX0_spikeOf_26 : decode cX0_spikeOf 26 = .ok (.if_icmp .le 9, 3) := by decide +kernel
theorem dX0_spikeOf_29 : decode cX0_spikeOf 29 = .ok (.iload 5, 2) := by decide +kernel
theorem dX0_spikeOf_31 : decode cX0_spikeOf 31 = .ok (.istore_n 3, 1) := by decide +kernel
theorem dX0_spikeOf_32 : decode cX0_spikeOf 32 = .ok (.iload 4, 2) := by decide +kernel
theorem dX0_spikeOf_34 : decode cX0_spikeOf 34 = .ok (.istore_n 2, 1) := by decide +kernel
theorem dX0_spikeOf_35 : decode cX0_spikeOf 35 = .ok (.iinc 4 1, 3) := by decide +kernel
theorem dX0_spikeOf_38 : decode cX0_spikeOf 38 = .ok (.goto (-31), 3) := by decide +kernel
theorem dX0_spikeOf_41 : decode cX0_spikeOf 41 = .ok (.iload_n 2, 1) := by decide +kernel
theorem dX0_spikeOf_42 : decode cX0_spikeOf 42 = .ok (.ireturn, 1) := by decide +kernel
theorem dX0_carryTo_0 : decode cX0_carryTo 0 = .ok (.aload_n 0, 1) := by decide +kernel
theorem dX0_carryTo_1 : decode cX0_carryTo 1 = .ok (.getfield 11, 3) := by decide +kernel
theorem dX0_carryTo_4 : decode cX0_carryTo 4 = .ok (.iload_n 1, 1) := by decide +kernel
theorem dX0_carryTo_5 : decode cX0_carryTo 5 = .ok (.aaload, 1) := by decide +kernel
theorem dX0_carryTo_6 : decode cX0_carryTo 6 = .ok (.getfield 88, 3) := by decide +kernel
theorem dX0_carryTo_9 : decode cX0_carryTo 9 = .ok (.iload_n 2, 1) := by decide +kernel
theorem dX0_carryTo_10 : decode cX0_carryTo 10 = .ok (.isub, 1) := by decide +kernel
theorem dX0_carryTo_11 : decode cX0_carryTo 11 = .ok (.invokestatic 91, 3) := by decide +kernel
theorem dX0_carryTo_14 : decode cX0_carryTo 14 = .ok (.istore_n 3, 1) := by decide +kernel
theorem dX0_carryTo_15 : decode cX0_carryTo 15 = .ok (.aload_n 0, 1) := by decide +kernel
theorem dX0_carryTo_16 : decode cX0_carryTo 16 = .ok (.getfield 11, 3) := by decide +kernel
theorem dX0_carryTo_19 : decode cX0_carryTo 19 = .ok (.iload_n 1, 1) := by decide +kernel
theorem dX0_carryTo_20 : decode cX0_carryTo 20 = .ok (.aaload, 1) := by decide +kernel
theorem dX0_carryTo_21 : decode cX0_carryTo 21 = .ok (.iload_n 2, 1) := by decide +kernel
theorem dX0_carryTo_22 : decode cX0_carryTo 22 = .ok (.putfield 88, 3) := by decide +kernel
theorem dX0_carryTo_25 : decode cX0_carryTo 25 = .ok (.aload_n 0, 1) := by decide +kernel
theorem dX0_carryTo_26 : decode cX0_carryTo 26 = .ok (.dup, 1) := by decide +kernel
theorem dX0_carryTo_27 : decode cX0_carryTo 27 = .ok (.getfield 28, 3) := by decide +kernel
theorem dX0_carryTo_30 : decode cX0_carryTo 30 = .ok (.iload_n 3, 1) := by decide +kernel
theorem dX0_carryTo_31 : decode cX0_carryTo 31 = .ok (.iadd, 1) := by decide +kernel
theorem dX0_carryTo_32 : decode cX0_carryTo 32 = .ok (.putfield 28, 3) := by decide +kernel
theorem dX0_carryTo_35 : decode cX0_carryTo 35 = .ok (.iload_n 3, 1) := by decide +kernel
theorem dX0_carryTo_36 : decode cX0_carryTo 36 = .ok (.ireturn, 1) := by decide +kernel
theorem dX0_canMeet_0 : decode cX0_canMeet 0 = .ok (.aload_n 0, 1) := by decide +kernel
theorem dX0_canMeet_1 : decode cX0_canMeet 1 = .ok (.iload_n 1, 1) := by decide +kernel
theorem dX0_canMeet_2 : decode cX0_canMeet 2 = .ok (.invokevirtual 95, 3) := by decide +kernel
theorem dX0_canMeet_5 : decode cX0_canMeet 5 = .ok (.ifCond .ne 45, 3) := by decide +kernel
theorem dX0_canMeet_8 : decode cX0_canMeet 8 = .ok (.aload_n 0, 1) := by decide +kernel
theorem dX0_canMeet_9 : decode cX0_canMeet 9 = .ok (.iload_n 2, 1) := by decide +kernel
theorem dX0_canMeet_10 : decode cX0_canMeet 10 = .ok (.invokevirtual 95, 3) := by decide +kernel
theorem dX0_canMeet_13 : decode cX0_canMeet 13 = .ok (.ifCond .ne 37, 3) := by decide +kernel
theorem dX0_canMeet_16 : decode cX0_canMeet 16 = .ok (.aload_n 0, 1) := by decide +kernel
theorem dX0_canMeet_17 : decode cX0_canMeet 17 = .ok (.iload_n 1, 1) := by decide +kernel
theorem dX0_canMeet_18 : decode cX0_canMeet 18 = .ok (.iload_n 2, 1) := by decide +kernel
theorem dX0_canMeet_19 : decode cX0_canMeet 19 = .ok (.invokevirtual 84, 3) := by decide +kernel
theorem dX0_canMeet_22 : decode cX0_canMeet 22 = .ok (.ifCond .eq 28, 3) := by decide +kernel
theorem dX0_canMeet_25 : decode cX0_canMeet 25 = .ok (.aload_n 0, 1) := by decide +kernel
theorem dX0_canMeet_26 : decode cX0_canMeet 26 = .ok (.getfield 11, 3) := by decide +kernel
theorem dX0_canMeet_29 : decode cX0_canMeet 29 = .ok (.iload_n 1, 1) := by decide +kernel
theorem dX0_canMeet_30 : decode cX0_canMeet 30 = .ok (.aaload, 1) := by decide +kernel
theorem dX0_canMeet_31 : decode cX0_canMeet 31 = .ok (.getfield 88, 3) := by decide +kernel
theorem dX0_canMeet_34 : decode cX0_canMeet 34 = .ok (.aload_n 0, 1) := by decide +kernel
theorem dX0_canMeet_35 : decode cX0_canMeet 35 = .ok (.getfield 11, 3) := by decide +kernel
theorem dX0_canMeet_38 : decode cX0_canMeet 38 = .ok (.iload_n 2, 1) := by decide +kernel
theorem dX0_canMeet_39 : decode cX0_canMeet 39 = .ok (.aaload, 1) := by decide +kernel
theorem dX0_canMeet_40 : decode cX0_canMeet 40 = .ok (.getfield 88, 3) := by decide +kernel
theorem dX0_canMeet_43 : decode cX0_canMeet 43 = .ok (.if_icmp .ne 7, 3) := by decide +kernel
theorem dX0_canMeet_46 : decode cX0_canMeet 46 = .ok (.iconst 1, 1) := by decide +kernel
theorem dX0_canMeet_47 : decode cX0_canMeet 47 = .ok (.goto 4, 3) := by decide +kernel
theorem dX0_canMeet_50 : decode cX0_canMeet 50 = .ok (.iconst 0, 1) := by decide +kernel
theorem dX0_canMeet_51 : decode cX0_canMeet 51 = .ok (.ireturn, 1) := by decide +kernel
theorem dX0_pairUp_0 : decode cX0_pairUp 0 = .ok (.aload_n 0, 1) := by decide +kernel
theorem dX0_pairUp_1 : decode cX0_pairUp 1 = .ok (.getfield 11, 3) := by decide +kernel
theorem dX0_pairUp_4 : decode cX0_pairUp 4 = .ok (.iload_n 1, 1) := by decide +kernel
theorem dX0_pairUp_5 : decode cX0_pairUp 5 = .ok (.aaload, 1) := by decide +kernel
theorem dX0_pairUp_6 : decode cX0_pairUp 6 = .ok (.iload_n 2, 1) := by decide +kernel
theorem dX0_pairUp_7 : decode cX0_pairUp 7 = .ok (.putfield 69, 3) := by decide +kernel
theorem dX0_pairUp_10 : decode cX0_pairUp 10 = .ok (.aload_n 0, 1) := by decide +kernel
theorem dX0_pairUp_11 : decode cX0_pairUp 11 = .ok (.getfield 11, 3) := by decide +kernel
theorem dX0_pairUp_14 : decode cX0_pairUp 14 = .ok (.iload_n 2, 1) := by decide +kernel
theorem dX0_pairUp_15 : decode cX0_pairUp 15 = .ok (.aaload, 1) := by decide +kernel
theorem dX0_pairUp_16 : decode cX0_pairUp 16 = .ok (.iload_n 1, 1) := by decide +kernel
theorem dX0_pairUp_17 : decode cX0_pairUp 17 = .ok (.putfield 69, 3) := by decide +kernel
theorem dX0_pairUp_20 : decode cX0_pairUp 20 = .ok (.return_, 1) := by decide +kernel
theorem dX0_separate_0 : decode cX0_separate 0 = .ok (.aload_n 0, 1) := by decide +kernel
theorem dX0_separate_1 : decode cX0_separate 1 = .ok (.getfield 11, 3) := by decide +kernel
theorem dX0_separate_4 : decode cX0_separate 4 = .ok (.iload_n 1, 1) := by decide +kernel
theorem dX0_separate_5 : decode cX0_separate 5 = .ok (.aaload, 1) := by decide +kernel
theorem dX0_separate_6 : decode cX0_separate 6 = .ok (.getfield 69, 3) := by decide +kernel
theorem dX0_separate_9 : decode cX0_separate 9 = .ok (.istore_n 2, 1) := by decide +kernel
theorem dX0_separate_10 : decode cX0_separate 10 = .ok (.aload_n 0, 1) := by decide +kernel
theorem dX0_separate_11 : decode cX0_separate 11 = .ok (.iload_n 2, 1) := by decide +kernel
theorem dX0_separate_12 : decode cX0_separate 12 = .ok (.invokevirtual 65, 3) := by decide +kernel
theorem dX0_separate_15 : decode cX0_separate 15 = .ok (.ifCond .eq 13, 3) := by decide +kernel
theorem dX0_separate_18 : decode cX0_separate 18 = .ok (.aload_n 0, 1) := by decide +kernel
theorem dX0_separate_19 : decode cX0_separate 19 = .ok (.getfield 11, 3) := by decide +kernel
theorem dX0_separate_22 : decode cX0_separate 22 = .ok (.iload_n 2, 1) := by decide +kernel
theorem dX0_separate_23 : decode cX0_separate 23 = .ok (.aaload, 1) := by decide +kernel
theorem dX0_separate_24 : decode cX0_separate 24 = .ok (.iconst (-1), 1) := by decide +kernel
theorem dX0_separate_25 : decode cX0_separate 25 = .ok (.putfield 69, 3) := by decide +kernel
theorem dX0_separate_28 : decode cX0_separate 28 = .ok (.aload_n 0, 1) := by decide +kernel
theorem dX0_separate_29 : decode cX0_separate 29 = .ok (.getfield 11, 3) := by decide +kernel
theorem dX0_separate_32 : decode cX0_separate 32 = .ok (.iload_n 1, 1) := by decide +kernel
theorem dX0_separate_33 : decode cX0_separate 33 = .ok (.aaload, 1) := by decide +kernel
theorem dX0_separate_34 : decode cX0_separate 34 = .ok (.iconst (-1), 1) := by decide +kernel
theorem dX0_separate_35 : decode cX0_separate 35 = .ok (.putfield 69, 3) := by decide +kernel
theorem dX0_separate_38 : decode cX0_separate 38 = .ok (.return_, 1) := by decide +kernel
theorem dX0_swapMates_0 : decode cX0_swapMates 0 = .ok (.iconst 0, 1) := by decide +kernel
theorem dX0_swapMates_1 : decode cX0_swapMates 1 = .ok (.istore_n 1, 1) := by decide +kernel
theorem dX0_swapMates_2 : decode cX0_swapMates 2 = .ok (.iload_n 1, 1) := by decide +kernel
theorem dX0_swapMates_3 : decode cX0_swapMates 3 = .ok (.aload_n 0, 1) := by decide +kernel
theorem dX0_swapMates_4 : decode cX0_swapMates 4 = .ok (.getfield 24, 3) := by decide +kernel
theorem dX0_swapMates_7 : decode cX0_swapMates 7 = .ok (.if_icmp .ge 34, 3) := by decide +kernel
theorem dX0_swapMates_10 : decode cX0_swapMates 10 = .ok (.aload_n 0, 1) := by decide +kernel
theorem dX0_swapMates_11 : decode cX0_swapMates 11 = .ok (.getfield 40, 3) := by decide +kernel
theorem dX0_swapMates_14 : decode cX0_swapMates 14 = .ok (.iload_n 1, 1) := by decide +kernel
theorem dX0_swapMates_15 : decode cX0_swapMates 15 = .ok (.aload_n 0, 1) := by decide +kernel
theorem dX0_swapMates_16 : decode cX0_swapMates 16 = .ok (.getfield 11, 3) := by decide +kernel
theorem dX0_swapMates_19 : decode cX0_swapMates 19 = .ok (.iload_n 1, 1) := by decide +kernel
theorem dX0_swapMates_20 : decode cX0_swapMates 20 = .ok (.aaload, 1) := by decide +kernel
theorem dX0_swapMates_21 : decode cX0_swapMates 21 = .ok (.getfield 69, 3) := by decide +kernel
theorem dX0_swapMates_24 : decode cX0_swapMates 24 = .ok (.iastore, 1) := by decide +kernel
theorem dX0_swapMates_25 : decode cX0_swapMates 25 = .ok (.aload_n 0, 1) := by decide +kernel
theorem dX0_swapMates_26 : decode cX0_swapMates 26 = .ok (.getfield 11, 3) := by decide +kernel
theorem dX0_swapMates_29 : decode cX0_swapMates 29 = .ok (.iload_n 1, 1) := by decide +kernel
theorem dX0_swapMates_30 : decode cX0_swapMates 30 = .ok (.aaload, 1) := by decide +kernel
theorem dX0_swapMates_31 : decode cX0_swapMates 31 = .ok (.iconst (-1), 1) := by decide +kernel
theorem dX0_swapMates_32 : decode cX0_swapMates 32 = .ok (.putfield 69, 3) := by decide +kernel
theorem dX0_swapMates_35 : decode cX0_swapMates 35 = .ok (.iinc 1 1, 3) := by decide +kernel
theorem dX0_swapMates_38 : decode cX0_swapMates 38 = .ok (.goto (-36), 3) := by decide +kernel
theorem dX0_swapMates_41 : decode cX0_swapMates 41 = .ok (.iconst 0, 1) := by decide +kernel
theorem dX0_swapMates_42 : decode cX0_swapMates 42 = .ok (.istore_n 1, 1) := by decide +kernel
theorem dX0_swapMates_43 : decode cX0_swapMates 43 = .ok (.iload_n 1, 1) := by decide +kernel
theorem dX0_swapMates_44 : decode cX0_swapMates 44 = .ok (.aload_n 0, 1) := by decide +kernel
theorem dX0_swapMates_45 : decode cX0_swapMates 45 = .ok (.getfield 24, 3) := by decide +kernel
theorem dX0_swapMates_48 : decode cX0_swapMates 48 = .ok (.if_icmp .ge 38, 3) := by decide +kernel
theorem dX0_swapMates_51 : decode cX0_swapMates 51 = .ok (.aload_n 0, 1) := by decide +kernel
theorem dX0_swapMates_52 : decode cX0_swapMates 52 = .ok (.iload_n 1, 1) := by decide +kernel
theorem dX0_swapMates_53 : decode cX0_swapMates 53 = .ok (.invokevirtual 95, 3) := by decide +kernel
theorem dX0_swapMates_56 : decode cX0_swapMates 56 = .ok (.ifCond .eq 7, 3) := by decide +kernel
theorem dX0_swapMates_59 : decode cX0_swapMates 59 = .ok (.iconst (-1), 1) := by decide +kernel
theorem dX0_swapMates_60 : decode cX0_swapMates 60 = .ok (.goto 8, 3) := by decide +kernel
theorem dX0_swapMates_63 : decode cX0_swapMates 63 = .ok (.aload_n 0, 1) := by decide +kernel
theorem dX0_swapMates_64 : decode cX0_swapMates 64 = .ok (.iload_n 1, 1) := by decide +kernel
theorem dX0_swapMates_65 : decode cX0_swapMates 65 = .ok (.invokevirtual 101, 3) := by decide +kernel
theorem dX0_swapMates_68 : decode cX0_swapMates 68 = .ok (.istore_n 2, 1) := by decide +kernel
theorem dX0_swapMates_69 : decode cX0_swapMates 69 = .ok (.iload_n 2, 1) := by decide +kernel
theorem dX0_swapMates_70 : decode cX0_swapMates 70 = .ok (.iconst (-1), 1) := by decide +kernel
theorem dX0_swapMates_71 : decode cX0_swapMates 71 = .ok (.if_icmp .eq 9, 3) := by decide +kernel
theorem dX0_swapMates_74 : decode cX0_swapMates 74 = .ok (.aload_n 0, 1) := by decide +kernel
theorem dX0_swapMates_75 : decode cX0_swapMates 75 = .ok (.iload_n 1, 1) := by decide +kernel
theorem dX0_swapMates_76 : decode cX0_swapMates 76 = .ok (.iload_n 2, 1) := by decide +kernel
theorem dX0_swapMates_77 : decode cX0_swapMates 77 = .ok (.invokevirtual 104, 3) := by decide +kernel
theorem dX0_swapMates_80 : decode cX0_swapMates 80 = .ok (.iinc 1 1, 3) := by decide +kernel
theorem dX0_swapMates_83 : decode cX0_swapMates 83 = .ok (.goto (-40), 3) := by decide +kernel
theorem dX0_swapMates_86 : decode cX0_swapMates 86 = .ok (.return_, 1) := by decide +kernel
theorem dX0_newMateOf_0 : decode cX0_newMateOf 0 = .ok (.aload_n 0, 1) := by decide +kernel
theorem dX0_newMateOf_1 : decode cX0_newMateOf 1 = .ok (.getfield 40, 3) := by decide +kernel
theorem dX0_newMateOf_4 : decode cX0_newMateOf 4 = .ok (.iload_n 1, 1) := by decide +kernel
theorem dX0_newMateOf_5 : decode cX0_newMateOf 5 = .ok (.iaload, 1) := by decide +kernel
theorem dX0_newMateOf_6 : decode cX0_newMateOf 6 = .ok (.iconst (-1), 1) := by decide +kernel
theorem dX0_newMateOf_7 : decode cX0_newMateOf 7 = .ok (.if_icmp .ne 5, 3) := by decide +kernel
theorem dX0_newMateOf_10 : decode cX0_newMateOf 10 = .ok (.iconst (-1), 1) := by decide +kernel
theorem dX0_newMateOf_11 : decode cX0_newMateOf 11 = .ok (.ireturn, 1) := by decide +kernel
theorem dX0_newMateOf_12 : decode cX0_newMateOf 12 = .ok (.iconst 0, 1) := by decide +kernel
theorem dX0_newMateOf_13 : decode cX0_newMateOf 13 = .ok (.istore_n 2, 1) := by decide +kernel
theorem dX0_newMateOf_14 : decode cX0_newMateOf 14 = .ok (.iload_n 2, 1) := by decide +kernel
theorem dX0_newMateOf_15 : decode cX0_newMateOf 15 = .ok (.aload_n 0, 1) := by decide +kernel
theorem dX0_newMateOf_16 : decode cX0_newMateOf 16 = .ok (.getfield 24, 3) := by decide +kernel
theorem dX0_newMateOf_19 : decode cX0_newMateOf 19 = .ok (.if_icmp .ge 58, 3) := by decide +kernel
theorem dX0_newMateOf_22 : decode cX0_newMateOf 22 = .ok (.aload_n 0, 1) := by decide +kernel
theorem dX0_newMateOf_23 : decode cX0_newMateOf 23 = .ok (.getfield 40, 3) := by decide +kernel
theorem dX0_newMateOf_26 : decode cX0_newMateOf 26 = .ok (.iload_n 2, 1) := by decide +kernel
theorem dX0_newMateOf_27 : decode cX0_newMateOf 27 = .ok (.iaload, 1) := by decide +kernel
theorem dX0_newMateOf_28 : decode cX0_newMateOf 28 = .ok (.iconst (-1), 1) := by decide +kernel
theorem dX0_newMateOf_29 : decode cX0_newMateOf 29 = .ok (.if_icmp .eq 17, 3) := by decide +kernel
theorem dX0_newMateOf_32 : decode cX0_newMateOf 32 = .ok (.aload_n 0, 1) := by decide +kernel
theorem dX0_newMateOf_33 : decode cX0_newMateOf 33 = .ok (.getfield 40, 3) := by decide +kernel
theorem dX0_newMateOf_36 : decode cX0_newMateOf 36 = .ok (.iload_n 2, 1) := by decide +kernel
theorem dX0_newMateOf_37 : decode cX0_newMateOf 37 = .ok (.iaload, 1) := by decide +kernel
theorem dX0_newMateOf_38 : decode cX0_newMateOf 38 = .ok (.iload_n 1, 1) := by decide +kernel
theorem dX0_newMateOf_39 : decode cX0_newMateOf 39 = .ok (.if_icmp .eq 7, 3) := by decide +kernel
theorem dX0_newMateOf_42 : decode cX0_newMateOf 42 = .ok (.iconst 1, 1) := by decide +kernel
theorem dX0_newMateOf_43 : decode cX0_newMateOf 43 = .ok (.goto 4, 3) := by decide +kernel
theorem dX0_newMateOf_46 : decode cX0_newMateOf 46 = .ok (.iconst 0, 1) := by decide +kernel
theorem dX0_newMateOf_47 : decode cX0_newMateOf 47 = .ok (.istore_n 3, 1) := by decide +kernel
theorem dX0_newMateOf_48 : decode cX0_newMateOf 48 = .ok (.iload_n 3, 1) := by decide +kernel
theorem dX0_newMateOf_49 : decode cX0_newMateOf 49 = .ok (.ifCond .eq 22, 3) := by decide +kernel
theorem dX0_newMateOf_52 : decode cX0_newMateOf 52 = .ok (.aload_n 0, 1) := by decide +kernel
theorem dX0_newMateOf_53 : decode cX0_newMateOf 53 = .ok (.iload_n 2, 1) := by decide +kernel
theorem dX0_newMateOf_54 : decode cX0_newMateOf 54 = .ok (.invokevirtual 95, 3) := by decide +kernel
theorem dX0_newMateOf_57 : decode cX0_newMateOf 57 = .ok (.ifCond .ne 14, 3) := by decide +kernel
theorem dX0_newMateOf_60 : decode cX0_newMateOf 60 = .ok (.aload_n 0, 1) := by decide +kernel
theorem dX0_newMateOf_61 : decode cX0_newMateOf 61 = .ok (.iload_n 1, 1) := by decide +kernel
theorem dX0_newMateOf_62 : decode cX0_newMateOf 62 = .ok (.iload_n 2, 1) := by decide +kernel
theorem dX0_newMateOf_63 : decode cX0_newMateOf 63 = .ok (.invokevirtual 84, 3) := by decide +kernel
theorem dX0_newMateOf_66 : decode cX0_newMateOf 66 = .ok (.ifCond .eq 5, 3) := by decide +kernel
theorem dX0_newMateOf_69 : decode cX0_newMateOf 69 = .ok (.iload_n 2, 1) := by decide +kernel
theorem dX0_newMateOf_70 : decode cX0_newMateOf 70 = .ok (.ireturn, 1) := by decide +kernel
theorem dX0_newMateOf_71 : decode cX0_newMateOf 71 = .ok (.iinc 2 1, 3) := by decide +kernel
theorem dX0_newMateOf_74 : decode cX0_newMateOf 74 = .ok (.goto (-60), 3) := by decide +kernel
theorem dX0_newMateOf_77 : decode cX0_newMateOf 77 = .ok (.iconst (-1), 1) := by decide +kernel
theorem dX0_newMateOf_78 : decode cX0_newMateOf 78 = .ok (.ireturn, 1) := by decide +kernel
theorem dX0_roundFrom_0 : decode cX0_roundFrom 0 = .ok (.bipush 6, 2) := by decide +kernel
theorem dX0_roundFrom_2 : decode cX0_roundFrom 2 = .ok (.istore_n 2, 1) := by decide +kernel
theorem dX0_roundFrom_3 : decode cX0_roundFrom 3 = .ok (.iconst (-1), 1) := by decide +kernel
theorem dX0_roundFrom_4 : decode cX0_roundFrom 4 = .ok (.istore_n 3, 1) := by decide +kernel
theorem dX0_roundFrom_5 : decode cX0_roundFrom 5 = .ok (.iconst 0, 1) := by decide +kernel
theorem dX0_roundFrom_6 : decode cX0_roundFrom 6 = .ok (.istore 4, 2) := by decide +kernel
theorem dX0_roundFrom_8 : decode cX0_roundFrom 8 = .ok (.iload 4, 2) := by decide +kernel
theorem dX0_roundFrom_10 : decode cX0_roundFrom 10 = .ok (.aload_n 0, 1) := by decide +kernel
theorem dX0_roundFrom_11 : decode cX0_roundFrom 11 = .ok (.getfield 24, 3) := by decide +kernel
theorem dX0_roundFrom_14 : decode cX0_roundFrom 14 = .ok (.if_icmp .ge 48, 3) := by decide +kernel
theorem dX0_roundFrom_17 : decode cX0_roundFrom 17 = .ok (.aload_n 0, 1) := by decide +kernel
theorem dX0_roundFrom_18 : decode cX0_roundFrom 18 = .ok (.iload 4, 2) := by decide +kernel
theorem dX0_roundFrom_20 : decode cX0_roundFrom 20 = .ok (.invokevirtual 95, 3) := by decide +kernel
theorem dX0_roundFrom_23 : decode cX0_roundFrom 23 = .ok (.ifCond .ne 33, 3) := by decide +kernel
theorem dX0_roundFrom_26 : decode cX0_roundFrom 26 = .ok (.iload_n 2, 1) := by decide +kernel
theorem dX0_roundFrom_27 : decode cX0_roundFrom 27 = .ok (.aload_n 0, 1) := by decide +kernel
theorem dX0_roundFrom_28 : decode cX0_roundFrom 28 = .ok (.getfield 11, 3) := by decide +kernel
theorem dX0_roundFrom_31 : decode cX0_roundFrom 31 = .ok (.iload 4, 2) := by decide +kernel
theorem dX0_roundFrom_33 : decode cX0_roundFrom 33 = .ok (.aaload, 1) := by decide +kernel
theorem dX0_roundFrom_34 : decode cX0_roundFrom 34 = .ok (.getfield 88, 3) := by decide +kernel
theorem dX0_roundFrom_37 : decode cX0_roundFrom 37 = .ok (.invokestatic 52, 3) := by decide +kernel
theorem dX0_roundFrom_40 : decode cX0_roundFrom 40 = .ok (.istore_n 2, 1) := by decide +kernel
theorem dX0_roundFrom_41 : decode cX0_roundFrom 41 = .ok (.iload_n 3, 1) := by decide +kernel
theorem dX0_roundFrom_42 : decode cX0_roundFrom 42 = .ok (.aload_n 0, 1) := by decide +kernel
theorem dX0_roundFrom_43 : decode cX0_roundFrom 43 = .ok (.getfield 11, 3) := by decide +kernel
theorem dX0_roundFrom_46 : decode cX0_roundFrom 46 = .ok (.iload 4, 2) := by decide +kernel
theorem dX0_roundFrom_48 : decode cX0_roundFrom 48 = .ok (.aaload, 1) := by decide +kernel
theorem dX0_roundFrom_49 : decode cX0_roundFrom 49 = .ok (.getfield 88, 3) := by decide +kernel
theorem dX0_roundFrom_52 : decode cX0_roundFrom 52 = .ok (.invokestatic 108, 3) := by decide +kernel
theorem dX0_roundFrom_55 : decode cX0_roundFrom 55 = .ok (.istore_n 3, 1) := by decide +kernel
theorem dX0_roundFrom_56 : decode cX0_roundFrom 56 = .ok (.iinc 4 1, 3) := by decide +kernel
theorem dX0_roundFrom_59 : decode cX0_roundFrom 59 = .ok (.goto (-51), 3) := by decide +kernel
theorem dX0_roundFrom_62 : decode cX0_roundFrom 62 = .ok (.iload_n 3, 1) := by decide +kernel
theorem dX0_roundFrom_63 : decode cX0_roundFrom 63 = .ok (.iconst (-1), 1) := by decide +kernel
theorem dX0_roundFrom_64 : decode cX0_roundFrom 64 = .ok (.if_icmp .ne 5, 3) := by decide +kernel
theorem dX0_roundFrom_67 : decode cX0_roundFrom 67 = .ok (.iconst 0, 1) := by decide +kernel
theorem dX0_roundFrom_68 : decode cX0_roundFrom 68 = .ok (.ireturn, 1) := by decide +kernel
theorem dX0_roundFrom_69 : decode cX0_roundFrom 69 = .ok (.iconst 0, 1) := by decide +kernel
theorem dX0_roundFrom_70 : decode cX0_roundFrom 70 = .ok (.iload_n 1, 1) := by decide +kernel
theorem dX0_roundFrom_71 : decode cX0_roundFrom 71 = .ok (.iload_n 2, 1) := by decide +kernel
theorem dX0_roundFrom_72 : decode cX0_roundFrom 72 = .ok (.isub, 1) := by decide +kernel
theorem dX0_roundFrom_73 : decode cX0_roundFrom 73 = .ok (.invokestatic 108, 3) := by decide +kernel
theorem dX0_roundFrom_76 : decode cX0_roundFrom 76 = .ok (.istore 4, 2) := by decide +kernel
theorem dX0_roundFrom_78 : decode cX0_roundFrom 78 = .ok (.iconst 0, 1) := by decide +kernel
theorem dX0_roundFrom_79 : decode cX0_roundFrom 79 = .ok (.iload_n 3, 1) := by decide +kernel
theorem dX0_roundFrom_80 : decode cX0_roundFrom 80 = .ok (.iload_n 1, 1) := by decide +kernel
theorem dX0_roundFrom_81 : decode cX0_roundFrom 81 = .ok (.isub, 1) := by decide +kernel
theorem dX0_roundFrom_82 : decode cX0_roundFrom 82 = .ok (.invokestatic 108, 3) := by decide +kernel
theorem dX0_roundFrom_85 : decode cX0_roundFrom 85 = .ok (.istore 5, 2) := by decide +kernel
theorem dX0_roundFrom_87 : decode cX0_roundFrom 87 = .ok (.iload 4, 2) := by decide +kernel
theorem dX0_roundFrom_89 : decode cX0_roundFrom 89 = .ok (.iload 5, 2) := by decide +kernel
theorem dX0_roundFrom_91 : decode cX0_roundFrom 91 = .ok (.iadd, 1) := by decide +kernel
theorem dX0_roundFrom_92 : decode cX0_roundFrom 92 = .ok (.iload 4, 2) := by decide +kernel
theorem dX0_roundFrom_94 : decode cX0_roundFrom 94 = .ok (.iload 5, 2) := by decide +kernel
theorem dX0_roundFrom_96 : decode cX0_roundFrom 96 = .ok (.invokestatic 52, 3) := by decide +kernel
theorem dX0_roundFrom_99 : decode cX0_roundFrom 99 = .ok (.iadd, 1) := by decide +kernel
theorem dX0_roundFrom_100 : decode cX0_roundFrom 100 = .ok (.ireturn, 1) := by decide +kernel
theorem dX0_pairs_0 : decode cX0_pairs 0 = .ok (.iconst 0, 1) := by decide +kernel
theorem dX0_pairs_1 : decode cX0_pairs 1 = .ok (.istore_n 1, 1) := by decide +kernel
theorem dX0_pairs_2 : decode cX0_pairs 2 = .ok (.iconst 0, 1) := by decide +kernel
theorem dX0_pairs_3 : decode cX0_pairs 3 = .ok (.istore_n 2, 1) := by decide +kernel
theorem dX0_pairs_4 : decode cX0_pairs 4 = .ok (.iload_n 2, 1) := by decide +kernel
theorem dX0_pairs_5 : decode cX0_pairs 5 = .ok (.aload_n 0, 1) := by decide +kernel
theorem dX0_pairs_6 : decode cX0_pairs 6 = .ok (.getfield 24, 3) := by decide +kernel
theorem dX0_pairs_9 : decode cX0_pairs 9 = .ok (.if_icmp .ge 25, 3) := by decide +kernel
theorem dX0_pairs_12 : decode cX0_pairs 12 = .ok (.aload_n 0, 1) := by decide +kernel
theorem dX0_pairs_13 : decode cX0_pairs 13 = .ok (.getfield 11, 3) := by decide +kernel
theorem dX0_pairs_16 : decode cX0_pairs 16 = .ok (.iload_n 2, 1) := by decide +kernel
theorem dX0_pairs_17 : decode cX0_pairs 17 = .ok (.aaload, 1) := by decide +kernel
theorem dX0_pairs_18 : decode cX0_pairs 18 = .ok (.getfield 69, 3) := by decide +kernel
theorem dX0_pairs_21 : decode cX0_pairs 21 = .ok (.iload_n 2, 1) := by decide +kernel
theorem dX0_pairs_22 : decode cX0_pairs 22 = .ok (.if_icmp .le 6, 3) := by decide +kernel
theorem dX0_pairs_25 : decode cX0_pairs 25 = .ok (.iinc 1 1, 3) := by decide +kernel
theorem dX0_pairs_28 : decode cX0_pairs 28 = .ok (.iinc 2 1, 3) := by decide +kernel
theorem dX0_pairs_31 : decode cX0_pairs 31 = .ok (.goto (-27), 3) := by decide +kernel
theorem dX0_pairs_34 : decode cX0_pairs 34 = .ok (.iload_n 1, 1) := by decide +kernel
theorem dX0_pairs_35 : decode cX0_pairs 35 = .ok (.ireturn, 1) := by decide +kernel
theorem dX0_likenessOfPairs_0 : decode cX0_likenessOfPairs 0 = .ok (.iconst 0, 1) := by decide +kernel
theorem dX0_likenessOfPairs_1 : decode cX0_likenessOfPairs 1 = .ok (.istore_n 1, 1) := by decide +kernel
theorem dX0_likenessOfPairs_2 : decode cX0_likenessOfPairs 2 = .ok (.iconst 0, 1) := by decide +kernel
theorem dX0_likenessOfPairs_3 : decode cX0_likenessOfPairs 3 = .ok (.istore_n 2, 1) := by decide +kernel
theorem dX0_likenessOfPairs_4 : decode cX0_likenessOfPairs 4 = .ok (.iload_n 2, 1) := by decide +kernel
theorem dX0_likenessOfPairs_5 : decode cX0_likenessOfPairs 5 = .ok (.aload_n 0, 1) := by decide +kernel
theorem dX0_likenessOfPairs_6 : decode cX0_likenessOfPairs 6 = .ok (.getfield 24, 3) := by decide +kernel
theorem dX0_likenessOfPairs_9 : decode cX0_likenessOfPairs 9 = .ok (.if_icmp .ge 41, 3) := by decide +kernel
theorem dX0_likenessOfPairs_12 : decode cX0_likenessOfPairs 12 = .ok (.aload_n 0, 1) := by decide +kernel
theorem dX0_likenessOfPairs_13 : decode cX0_likenessOfPairs 13 = .ok (.getfield 11, 3) := by decide +kernel
theorem dX0_likenessOfPairs_16 : decode cX0_likenessOfPairs 16 = .ok (.iload_n 2, 1) := by decide +kernel
theorem dX0_likenessOfPairs_17 : decode cX0_likenessOfPairs 17 = .ok (.aaload, 1) := by decide +kernel
theorem dX0_likenessOfPairs_18 : decode cX0_likenessOfPairs 18 = .ok (.getfield 69, 3) := by decide +kernel
theorem dX0_likenessOfPairs_21 : decode cX0_likenessOfPairs 21 = .ok (.istore_n 3, 1) := by decide +kernel
theorem dX0_likenessOfPairs_22 : decode cX0_likenessOfPairs 22 = .ok (.aload_n 0, 1) := by decide +kernel
theorem dX0_likenessOfPairs_23 : decode cX0_likenessOfPairs 23 = .ok (.iload_n 3, 1) := by decide +kernel
theorem dX0_likenessOfPairs_24 : decode cX0_likenessOfPairs 24 = .ok (.invokevirtual 65, 3) := by decide +kernel
theorem dX0_likenessOfPairs_27 : decode cX0_likenessOfPairs 27 = .ok (.ifCond .eq 17, 3) := by decide +kernel
theorem dX0_likenessOfPairs_30 : decode cX0_likenessOfPairs 30 = .ok (.iload_n 3, 1) := by decide +kernel
theorem dX0_likenessOfPairs_31 : decode cX0_likenessOfPairs 31 = .ok (.iload_n 2, 1) := by decide +kernel
theorem dX0_likenessOfPairs_32 : decode cX0_likenessOfPairs 32 = .ok (.if_icmp .le 12, 3) := by decide +kernel
theorem dX0_likenessOfPairs_35 : decode cX0_likenessOfPairs 35 = .ok (.iload_n 1, 1) := by decide +kernel
theorem dX0_likenessOfPairs_36 : decode cX0_likenessOfPairs 36 = .ok (.aload_n 0, 1) := by decide +kernel
theorem dX0_likenessOfPairs_37 : decode cX0_likenessOfPairs 37 = .ok (.iload_n 2, 1) := by decide +kernel
theorem dX0_likenessOfPairs_38 : decode cX0_likenessOfPairs 38 = .ok (.iload_n 3, 1) := by decide +kernel
theorem dX0_likenessOfPairs_39 : decode cX0_likenessOfPairs 39 = .ok (.invokevirtual 72, 3) := by decide +kernel
theorem dX0_likenessOfPairs_42 : decode cX0_likenessOfPairs 42 = .ok (.iadd, 1) := by decide +kernel
theorem dX0_likenessOfPairs_43 : decode cX0_likenessOfPairs 43 = .ok (.istore_n 1, 1) := by decide +kernel
theorem dX0_likenessOfPairs_44 : decode cX0_likenessOfPairs 44 = .ok (.iinc 2 1, 3) := by decide +kernel
theorem dX0_likenessOfPairs_47 : decode cX0_likenessOfPairs 47 = .ok (.goto (-43), 3) := by decide +kernel
theorem dX0_likenessOfPairs_50 : decode cX0_likenessOfPairs 50 = .ok (.iload_n 1, 1) := by decide +kernel
theorem dX0_likenessOfPairs_51 : decode cX0_likenessOfPairs 51 = .ok (.ireturn, 1) := by decide +kernel
theorem dX0_matches_0 : decode cX0_matches 0 = .ok (.iconst 0, 1) := by decide +kernel
theorem dX0_matches_1 : decode cX0_matches 1 = .ok (.istore_n 1, 1) := by decide +kernel
theorem dX0_matches_2 : decode cX0_matches 2 = .ok (.iconst 0, 1) := by decide +kernel
theorem dX0_matches_3 : decode cX0_matches 3 = .ok (.istore_n 2, 1) := by decide +kernel
theorem dX0_matches_4 : decode cX0_matches 4 = .ok (.iload_n 2, 1) := by decide +kernel
theorem dX0_matches_5 : decode cX0_matches 5 = .ok (.aload_n 0, 1) := by decide +kernel
theorem dX0_matches_6 : decode cX0_matches 6 = .ok (.getfield 24, 3) := by decide +kernel
theorem dX0_matches_9 : decode cX0_matches 9 = .ok (.if_icmp .ge 20, 3) := by decide +kernel
theorem dX0_matches_12 : decode cX0_matches 12 = .ok (.iload_n 1, 1) := by decide +kernel
theorem dX0_matches_13 : decode cX0_matches 13 = .ok (.aload_n 0, 1) := by decide +kernel
theorem dX0_matches_14 : decode cX0_matches 14 = .ok (.iload_n 2, 1) := by decide +kernel
theorem dX0_matches_15 : decode cX0_matches 15 = .ok (.invokevirtual 111, 3) := by decide +kernel
theorem dX0_matches_18 : decode cX0_matches 18 = .ok (.invokestatic 114, 3) := by decide +kernel
theorem dX0_matches_21 : decode cX0_matches 21 = .ok (.iadd, 1) := by decide +kernel
theorem dX0_matches_22 : decode cX0_matches 22 = .ok (.istore_n 1, 1) := by decide +kernel
theorem dX0_matches_23 : decode cX0_matches 23 = .ok (.iinc 2 1, 3) := by decide +kernel
theorem dX0_matches_26 : decode cX0_matches 26 = .ok (.goto (-22), 3) := by decide +kernel
theorem dX0_matches_29 : decode cX0_matches 29 = .ok (.iload_n 1, 1) := by decide +kernel
theorem dX0_matches_30 : decode cX0_matches 30 = .ok (.iconst 2, 1) := by decide +kernel
theorem dX0_matches_31 : decode cX0_matches 31 = .ok (.idiv, 1) := by decide +kernel
theorem dX0_matches_32 : decode cX0_matches 32 = .ok (.ireturn, 1) := by decide +kernel
theorem dX0_matchesAlone_0 : decode cX0_matchesAlone 0 = .ok (.iconst 0, 1) := by decide +kernel
theorem dX0_matchesAlone_1 : decode cX0_matchesAlone 1 = .ok (.istore_n 1, 1) := by decide +kernel
theorem dX0_matchesAlone_2 : decode cX0_matchesAlone 2 = .ok (.iconst 0, 1) := by decide +kernel
theorem dX0_matchesAlone_3 : decode cX0_matchesAlone 3 = .ok (.istore_n 2, 1) := by decide +kernel
theorem dX0_matchesAlone_4 : decode cX0_matchesAlone 4 = .ok (.iload_n 2, 1) := by decide +kernel
theorem dX0_matchesAlone_5 : decode cX0_matchesAlone 5 = .ok (.aload_n 0, 1) := by decide +kernel
theorem dX0_matchesAlone_6 : decode cX0_matchesAlone 6 = .ok (.getfield 24, 3) := by decide +kernel
theorem dX0_matchesAlone_9 : decode cX0_matchesAlone 9 = .ok (.if_icmp .ge 55, 3) := by decide +kernel
theorem dX0_matchesAlone_12 : decode cX0_matchesAlone 12 = .ok (.iload_n 2, 1) := by decide +kernel
theorem dX0_matchesAlone_13 : decode cX0_matchesAlone 13 = .ok (.iconst 1, 1) := by decide +kernel
theorem dX0_matchesAlone_14 : decode cX0_matchesAlone 14 = .ok (.iadd, 1) := by decide +kernel
theorem dX0_matchesAlone_15 : decode cX0_matchesAlone 15 = .ok (.istore_n 3, 1) := by decide +kernel
theorem dX0_matchesAlone_16 : decode cX0_matchesAlone 16 = .ok (.iload_n 3, 1) := by decide +kernel
theorem dX0_matchesAlone_17 : decode cX0_matchesAlone 17 = .ok (.aload_n 0, 1) := by decide +kernel
theorem dX0_matchesAlone_18 : decode cX0_matchesAlone 18 = .ok (.getfield 24, 3) := by decide +kernel
theorem dX0_matchesAlone_21 : decode cX0_matchesAlone 21 = .ok (.if_icmp .ge 37, 3) := by decide +kernel
theorem dX0_matchesAlone_24 : decode cX0_matchesAlone 24 = .ok (.aload_n 0, 1) := by decide +kernel
theorem dX0_matchesAlone_25 : decode cX0_matchesAlone 25 = .ok (.iload_n 2, 1) := by decide +kernel
theorem dX0_matchesAlone_26 : decode cX0_matchesAlone 26 = .ok (.invokevirtual 95, 3) := by decide +kernel
theorem dX0_matchesAlone_29 : decode cX0_matchesAlone 29 = .ok (.ifCond .ne 23, 3) := by decide +kernel
theorem dX0_matchesAlone_32 : decode cX0_matchesAlone 32 = .ok (.aload_n 0, 1) := by decide +kernel
theorem dX0_matchesAlone_33 : decode cX0_matchesAlone 33 = .ok (.iload_n 3, 1) := by decide +kernel
theorem dX0_matchesAlone_34 : decode cX0_matchesAlone 34 = .ok (.invokevirtual 95, 3) := by decide +kernel
theorem dX0_matchesAlone_37 : decode cX0_matchesAlone 37 = .ok (.ifCond .ne 15, 3) := by decide +kernel
theorem dX0_matchesAlone_40 : decode cX0_matchesAlone 40 = .ok (.aload_n 0, 1) := by decide +kernel
theorem dX0_matchesAlone_41 : decode cX0_matchesAlone 41 = .ok (.iload_n 2, 1) := by decide +kernel
theorem dX0_matchesAlone_42 : decode cX0_matchesAlone 42 = .ok (.iload_n 3, 1) := by decide +kernel
theorem dX0_matchesAlone_43 : decode cX0_matchesAlone 43 = .ok (.invokevirtual 84, 3) := by decide +kernel
theorem dX0_matchesAlone_46 : decode cX0_matchesAlone 46 = .ok (.ifCond .eq 6, 3) := by decide +kernel
theorem dX0_matchesAlone_49 : decode cX0_matchesAlone 49 = .ok (.iinc 1 1, 3) := by decide +kernel
theorem dX0_matchesAlone_52 : decode cX0_matchesAlone 52 = .ok (.iinc 3 1, 3) := by decide +kernel
theorem dX0_matchesAlone_55 : decode cX0_matchesAlone 55 = .ok (.goto (-39), 3) := by decide +kernel
theorem dX0_matchesAlone_58 : decode cX0_matchesAlone 58 = .ok (.iinc 2 1, 3) := by decide +kernel
theorem dX0_matchesAlone_61 : decode cX0_matchesAlone 61 = .ok (.goto (-57), 3) := by decide +kernel
theorem dX0_matchesAlone_64 : decode cX0_matchesAlone 64 = .ok (.iload_n 1, 1) := by decide +kernel
theorem dX0_matchesAlone_65 : decode cX0_matchesAlone 65 = .ok (.ireturn, 1) := by decide +kernel
theorem dX0_twosAlone_0 : decode cX0_twosAlone 0 = .ok (.aload_n 0, 1) := by decide +kernel
theorem dX0_twosAlone_1 : decode cX0_twosAlone 1 = .ok (.iconst 0, 1) := by decide +kernel
theorem dX0_twosAlone_2 : decode cX0_twosAlone 2 = .ok (.invokevirtual 119, 3) := by decide +kernel
theorem dX0_twosAlone_5 : decode cX0_twosAlone 5 = .ok (.aload_n 0, 1) := by decide +kernel
theorem dX0_twosAlone_6 : decode cX0_twosAlone 6 = .ok (.iconst 1, 1) := by decide +kernel
theorem dX0_twosAlone_7 : decode cX0_twosAlone 7 = .ok (.invokevirtual 119, 3) := by decide +kernel
theorem dX0_twosAlone_10 : decode cX0_twosAlone 10 = .ok (.iadd, 1) := by decide +kernel
theorem dX0_twosAlone_11 : decode cX0_twosAlone 11 = .ok (.istore_n 1, 1) := by decide +kernel
theorem dX0_twosAlone_12 : decode cX0_twosAlone 12 = .ok (.iload_n 1, 1) := by decide +kernel
theorem dX0_twosAlone_13 : decode cX0_twosAlone 13 = .ok (.iload_n 1, 1) := by decide +kernel
theorem dX0_twosAlone_14 : decode cX0_twosAlone 14 = .ok (.iconst 1, 1) := by decide +kernel
theorem dX0_twosAlone_15 : decode cX0_twosAlone 15 = .ok (.isub, 1) := by decide +kernel
theorem dX0_twosAlone_16 : decode cX0_twosAlone 16 = .ok (.imul, 1) := by decide +kernel
theorem dX0_twosAlone_17 : decode cX0_twosAlone 17 = .ok (.iconst 2, 1) := by decide +kernel
theorem dX0_twosAlone_18 : decode cX0_twosAlone 18 = .ok (.idiv, 1) := by decide +kernel
theorem dX0_twosAlone_19 : decode cX0_twosAlone 19 = .ok (.ireturn, 1) := by decide +kernel
theorem dX0_alone_0 : decode cX0_alone 0 = .ok (.iconst 0, 1) := by decide +kernel
theorem dX0_alone_1 : decode cX0_alone 1 = .ok (.istore_n 2, 1) := by decide +kernel
theorem dX0_alone_2 : decode cX0_alone 2 = .ok (.iconst 0, 1) := by decide +kernel
theorem dX0_alone_3 : decode cX0_alone 3 = .ok (.istore_n 3, 1) := by decide +kernel
theorem dX0_alone_4 : decode cX0_alone 4 = .ok (.iload_n 3, 1) := by decide +kernel
theorem dX0_alone_5 : decode cX0_alone 5 = .ok (.aload_n 0, 1) := by decide +kernel
theorem dX0_alone_6 : decode cX0_alone 6 = .ok (.getfield 24, 3) := by decide +kernel
theorem dX0_alone_9 : decode cX0_alone 9 = .ok (.if_icmp .ge 33, 3) := by decide +kernel
theorem dX0_alone_12 : decode cX0_alone 12 = .ok (.aload_n 0, 1) := by decide +kernel
theorem dX0_alone_13 : decode cX0_alone 13 = .ok (.iload_n 3, 1) := by decide +kernel
theorem dX0_alone_14 : decode cX0_alone 14 = .ok (.invokevirtual 95, 3) := by decide +kernel
theorem dX0_alone_17 : decode cX0_alone 17 = .ok (.ifCond .ne 19, 3) := by decide +kernel
theorem dX0_alone_20 : decode cX0_alone 20 = .ok (.aload_n 0, 1) := by decide +kernel
theorem dX0_alone_21 : decode cX0_alone 21 = .ok (.getfield 11, 3) := by decide +kernel
theorem dX0_alone_24 : decode cX0_alone 24 = .ok (.iload_n 3, 1) := by decide +kernel
theorem dX0_alone_25 : decode cX0_alone 25 = .ok (.aaload, 1) := by decide +kernel
theorem dX0_alone_26 : decode cX0_alone 26 = .ok (.getfield 122, 3) := by decide +kernel
theorem dX0_alone_29 : decode cX0_alone 29 = .ok (.iload_n 1, 1) := by decide +kernel
theorem dX0_alone_30 : decode cX0_alone 30 = .ok (.if_icmp .ne 6, 3) := by decide +kernel
theorem dX0_alone_33 : decode cX0_alone 33 = .ok (.iinc 2 1, 3) := by decide +kernel
theorem dX0_alone_36 : decode cX0_alone 36 = .ok (.iinc 3 1, 3) := by decide +kernel
theorem dX0_alone_39 : decode cX0_alone 39 = .ok (.goto (-35), 3) := by decide +kernel
theorem dX0_alone_42 : decode cX0_alone 42 = .ok (.iload_n 2, 1) := by decide +kernel
theorem dX0_alone_43 : decode cX0_alone 43 = .ok (.ireturn, 1) := by decide +kernel
theorem dX1_init_0 : decode cX1_init 0 = .ok (.aload_n 0, 1) := by decide +kernel
theorem dX1_init_1 : decode cX1_init 1 = .ok (.iload_n 1, 1) := by decide +kernel
theorem dX1_init_2 : decode cX1_init 2 = .ok (.iload_n 2, 1) := by decide +kernel
theorem dX1_init_3 : decode cX1_init 3 = .ok (.iload_n 3, 1) := by decide +kernel
theorem dX1_init_4 : decode cX1_init 4 = .ok (.invokespecial 3, 3) := by decide +kernel
theorem dX1_init_7 : decode cX1_init 7 = .ok (.return_, 1) := by decide +kernel
theorem dX1_kindNumber_0 : decode cX1_kindNumber 0 = .ok (.iconst 1, 1) := by decide +kernel
theorem dX1_kindNumber_1 : decode cX1_kindNumber 1 = .ok (.ireturn, 1) := by decide +kernel
theorem dX1_takes_0 : decode cX1_takes 0 = .ok (.aload_n 0, 1) := by decide +kernel
theorem dX1_takes_1 : decode cX1_takes 1 = .ok (.getfield 9, 3) := by decide +kernel
theorem dX1_takes_4 : decode cX1_takes 4 = .ok (.aload_n 1, 1) := by decide +kernel
theorem dX1_takes_5 : decode cX1_takes 5 = .ok (.getfield 15, 3) := by decide +kernel
theorem dX1_takes_8 : decode cX1_takes 8 = .ok (.if_icmp .eq 14, 3) := by decide +kernel
theorem dX1_takes_11 : decode cX1_takes 11 = .ok (.aload_n 1, 1) := by decide +kernel
theorem dX1_takes_12 : decode cX1_takes 12 = .ok (.instanceof 10, 3) := by decide +kernel
theorem dX1_takes_15 : decode cX1_takes 15 = .ok (.ifCond .eq 7, 3) := by decide +kernel
theorem dX1_takes_18 : decode cX1_takes 18 = .ok (.iconst 1, 1) := by decide +kernel
theorem dX1_takes_19 : decode cX1_takes 19 = .ok (.goto 4, 3) := by decide +kernel
theorem dX1_takes_22 : decode cX1_takes 22 = .ok (.iconst 0, 1) := by decide +kernel
theorem dX1_takes_23 : decode cX1_takes 23 = .ok (.ireturn, 1) := by decide +kernel
theorem dX2_init_0 : decode cX2_init 0 = .ok (.aload_n 0, 1) := by decide +kernel
theorem dX2_init_1 : decode cX2_init 1 = .ok (.invokespecial 3, 3) := by decide +kernel
theorem dX2_init_4 : decode cX2_init 4 = .ok (.aload_n 0, 1) := by decide +kernel
theorem dX2_init_5 : decode cX2_init 5 = .ok (.iconst 0, 1) := by decide +kernel
theorem dX2_init_6 : decode cX2_init 6 = .ok (.putfield 9, 3) := by decide +kernel
theorem dX2_init_9 : decode cX2_init 9 = .ok (.aload_n 0, 1) := by decide +kernel
theorem dX2_init_10 : decode cX2_init 10 = .ok (.bipush 7, 2) := by decide +kernel
theorem dX2_init_12 : decode cX2_init 12 = .ok (.newarray .int, 2) := by decide +kernel
theorem dX2_init_14 : decode cX2_init 14 = .ok (.putfield 15, 3) := by decide +kernel
theorem dX2_init_17 : decode cX2_init 17 = .ok (.aload_n 0, 1) := by decide +kernel
theorem dX2_init_18 : decode cX2_init 18 = .ok (.bipush 7, 2) := by decide +kernel
theorem dX2_init_20 : decode cX2_init 20 = .ok (.newarray .int, 2) := by decide +kernel
theorem dX2_init_22 : decode cX2_init 22 = .ok (.putfield 19, 3) := by decide +kernel
theorem dX2_init_25 : decode cX2_init 25 = .ok (.aload_n 0, 1) := by decide +kernel
theorem dX2_init_26 : decode cX2_init 26 = .ok (.bipush 7, 2) := by decide +kernel
theorem dX2_init_28 : decode cX2_init 28 = .ok (.newarray .int, 2) := by decide +kernel
theorem dX2_init_30 : decode cX2_init 30 = .ok (.putfield 22, 3) := by decide +kernel
theorem dX2_init_33 : decode cX2_init 33 = .ok (.aload_n 0, 1) := by decide +kernel
theorem dX2_init_34 : decode cX2_init 34 = .ok (.new 25, 3) := by decide +kernel
theorem dX2_init_37 : decode cX2_init 37 = .ok (.dup, 1) := by decide +kernel
theorem dX2_init_38 : decode cX2_init 38 = .ok (.invokespecial 27, 3) := by decide +kernel
theorem dX2_init_41 : decode cX2_init 41 = .ok (.putfield 28, 3) := by decide +kernel
theorem dX2_init_44 : decode cX2_init 44 = .ok (.aload_n 0, 1) := by decide +kernel
theorem dX2_init_45 : decode cX2_init 45 = .ok (.iconst 0, 1) := by decide +kernel
theorem dX2_init_46 : decode cX2_init 46 = .ok (.putfield 32, 3) := by decide +kernel
theorem dX2_init_49 : decode cX2_init 49 = .ok (.aload_n 0, 1) := by decide +kernel
theorem dX2_init_50 : decode cX2_init 50 = .ok (.iconst 0, 1) := by decide +kernel
theorem dX2_init_51 : decode cX2_init 51 = .ok (.putfield 36, 3) := by decide +kernel
theorem dX2_init_54 : decode cX2_init 54 = .ok (.aload_n 0, 1) := by decide +kernel
theorem dX2_init_55 : decode cX2_init 55 = .ok (.iconst 0, 1) := by decide +kernel
theorem dX2_init_56 : decode cX2_init 56 = .ok (.putfield 39, 3) := by decide +kernel
theorem dX2_init_59 : decode cX2_init 59 = .ok (.aload_n 0, 1) := by decide +kernel
theorem dX2_init_60 : decode cX2_init 60 = .ok (.iconst 0, 1) := by decide +kernel
theorem dX2_init_61 : decode cX2_init 61 = .ok (.putfield 42, 3) := by decide +kernel
theorem dX2_init_64 : decode cX2_init 64 = .ok (.return_, 1) := by decide +kernel
theorem dX2_keep_0 : decode cX2_keep 0 = .ok (.iconst 0, 1) := by decide +kernel
theorem dX2_keep_1 : decode cX2_keep 1 = .ok (.istore_n 2, 1) := by decide +kernel
theorem dX2_keep_2 : decode cX2_keep 2 = .ok (.iload_n 2, 1) := by decide +kernel
theorem dX2_keep_3 : decode cX2_keep 3 = .ok (.aload_n 1, 1) := by decide +kernel
theorem dX2_keep_4 : decode cX2_keep 4 = .ok (.getfield 45, 3) := by decide +kernel
theorem dX2_keep_7 : decode cX2_keep 7 = .ok (.if_icmp .ge 54, 3) := by decide +kernel
theorem dX2_keep_10 : decode cX2_keep 10 = .ok (.aload_n 0, 1) := by decide +kernel
theorem dX2_keep_11 : decode cX2_keep 11 = .ok (.getfield 15, 3) := by decide +kernel
theorem dX2_keep_14 : decode cX2_keep 14 = .ok (.iload_n 2, 1) := by decide +kernel
theorem dX2_keep_15 : decode cX2_keep 15 = .ok (.aload_n 1, 1) := by decide +kernel
theorem dX2_keep_16 : decode cX2_keep 16 = .ok (.getfield 50, 3) := by decide +kernel
theorem dX2_keep_19 : decode cX2_keep 19 = .ok (.iload_n 2, 1) := by decide +kernel
theorem dX2_keep_20 : decode cX2_keep 20 = .ok (.aaload, 1) := by decide +kernel
theorem dX2_keep_21 : decode cX2_keep 21 = .ok (.getfield 54, 3) := by decide +kernel
theorem dX2_keep_24 : decode cX2_keep 24 = .ok (.iastore, 1) := by decide +kernel
theorem dX2_keep_25 : decode cX2_keep 25 = .ok (.aload_n 0, 1) := by decide +kernel
theorem dX2_keep_26 : decode cX2_keep 26 = .ok (.getfield 19, 3) := by decide +kernel
theorem dX2_keep_29 : decode cX2_keep 29 = .ok (.iload_n 2, 1) := by decide +kernel
theorem dX2_keep_30 : decode cX2_keep 30 = .ok (.aload_n 1, 1) := by decide +kernel
theorem dX2_keep_31 : decode cX2_keep 31 = .ok (.getfield 50, 3) := by decide +kernel
theorem dX2_keep_34 : decode cX2_keep 34 = .ok (.iload_n 2, 1) := by decide +kernel
theorem dX2_keep_35 : decode cX2_keep 35 = .ok (.aaload, 1) := by decide +kernel
theorem dX2_keep_36 : decode cX2_keep 36 = .ok (.getfield 57, 3) := by decide +kernel
theorem dX2_keep_39 : decode cX2_keep 39 = .ok (.iastore, 1) := by decide +kernel
theorem dX2_keep_40 : decode cX2_keep 40 = .ok (.aload_n 0, 1) := by decide +kernel
theorem dX2_keep_41 : decode cX2_keep 41 = .ok (.getfield 22, 3) := by decide +kernel
theorem dX2_keep_44 : decode cX2_keep 44 = .ok (.iload_n 2, 1) := by decide +kernel
theorem dX2_keep_45 : decode cX2_keep 45 = .ok (.aload_n 1, 1) := by decide +kernel
theorem dX2_keep_46 : decode cX2_keep 46 = .ok (.getfield 50, 3) := by decide +kernel
theorem dX2_keep_49 : decode cX2_keep 49 = .ok (.iload_n 2, 1) := by decide +kernel
theorem dX2_keep_50 : decode cX2_keep 50 = .ok (.aaload, 1) := by decide +kernel
theorem dX2_keep_51 : decode cX2_keep 51 = .ok (.getfield 60, 3) := by decide +kernel
theorem dX2_keep_54 : decode cX2_keep 54 = .ok (.iastore, 1) := by decide +kernel
theorem dX2_keep_55 : decode cX2_keep 55 = .ok (.iinc 2 1, 3) := by decide +kernel
theorem dX2_keep_58 : decode cX2_keep 58 = .ok (.goto (-56), 3) := by decide +kernel
theorem dX2_keep_61 : decode cX2_keep 61 = .ok (.aload_n 0, 1) := by decide +kernel
theorem dX2_keep_62 : decode cX2_keep 62 = .ok (.getfield 28, 3) := by decide +kernel
theorem dX2_keep_65 : decode cX2_keep 65 = .ok (.aload_n 1, 1) := by decide +kernel
theorem dX2_keep_66 : decode cX2_keep 66 = .ok (.getfield 63, 3) := by decide +kernel
theorem dX2_keep_69 : decode cX2_keep 69 = .ok (.invokevirtual 64, 3) := by decide +kernel
theorem dX2_keep_72 : decode cX2_keep 72 = .ok (.aload_n 0, 1) := by decide +kernel
theorem dX2_keep_73 : decode cX2_keep 73 = .ok (.aload_n 1, 1) := by decide +kernel
theorem dX2_keep_74 : decode cX2_keep 74 = .ok (.getfield 68, 3) := by decide +kernel
theorem dX2_keep_77 : decode cX2_keep 77 = .ok (.putfield 32, 3) := by decide +kernel
theorem dX2_keep_80 : decode cX2_keep 80 = .ok (.aload_n 0, 1) := by decide +kernel
theorem dX2_keep_81 : decode cX2_keep 81 = .ok (.aload_n 1, 1) := by decide +kernel
theorem dX2_keep_82 : decode cX2_keep 82 = .ok (.getfield 69, 3) := by decide +kernel
theorem dX2_keep_85 : decode cX2_keep 85 = .ok (.putfield 36, 3) := by decide +kernel
theorem dX2_keep_88 : decode cX2_keep 88 = .ok (.aload_n 0, 1) := by decide +kernel
theorem dX2_keep_89 : decode cX2_keep 89 = .ok (.aload_n 1, 1) := by decide +kernel
theorem dX2_keep_90 : decode cX2_keep 90 = .ok (.getfield 70, 3) := by decide +kernel
theorem dX2_keep_93 : decode cX2_keep 93 = .ok (.putfield 39, 3) := by decide +kernel
theorem dX2_keep_96 : decode cX2_keep 96 = .ok (.aload_n 0, 1) := by decide +kernel
theorem dX2_keep_97 : decode cX2_keep 97 = .ok (.aload_n 1, 1) := by decide +kernel
theorem dX2_keep_98 : decode cX2_keep 98 = .ok (.getfield 71, 3) := by decide +kernel
theorem dX2_keep_101 : decode cX2_keep 101 = .ok (.putfield 42, 3) := by decide +kernel
theorem dX2_keep_104 : decode cX2_keep 104 = .ok (.aload_n 0, 1) := by decide +kernel
theorem dX2_keep_105 : decode cX2_keep 105 = .ok (.iconst 1, 1) := by decide +kernel
theorem dX2_keep_106 : decode cX2_keep 106 = .ok (.putfield 9, 3) := by decide +kernel
theorem dX2_keep_109 : decode cX2_keep 109 = .ok (.return_, 1) := by decide +kernel
theorem dX2_giveBack_0 : decode cX2_giveBack 0 = .ok (.iconst 0, 1) := by decide +kernel
theorem dX2_giveBack_1 : decode cX2_giveBack 1 = .ok (.istore_n 2, 1) := by decide +kernel
theorem dX2_giveBack_2 : decode cX2_giveBack 2 = .ok (.iload_n 2, 1) := by decide +kernel
theorem dX2_giveBack_3 : decode cX2_giveBack 3 = .ok (.aload_n 1, 1) := by decide +kernel
theorem dX2_giveBack_4 : decode cX2_giveBack 4 = .ok (.getfield 45, 3) := by decide +kernel
theorem dX2_giveBack_7 : decode cX2_giveBack 7 = .ok (.if_icmp .ge 54, 3) := by decide +kernel
theorem dX2_giveBack_10 : decode cX2_giveBack 10 = .ok (.aload_n 1, 1) := by decide +kernel
theorem dX2_giveBack_11 : decode cX2_giveBack 11 = .ok (.getfield 50, 3) := by decide +kernel
theorem dX2_giveBack_14 : decode cX2_giveBack 14 = .ok (.iload_n 2, 1) := by decide +kernel
theorem dX2_giveBack_15 : decode cX2_giveBack 15 = .ok (.aaload, 1) := by decide +kernel
theorem dX2_giveBack_16 : decode cX2_giveBack 16 = .ok (.aload_n 0, 1) := by decide +kernel
theorem dX2_giveBack_17 : decode cX2_giveBack 17 = .ok (.getfield 15, 3) := by decide +kernel
theorem dX2_giveBack_20 : decode cX2_giveBack 20 = .ok (.iload_n 2, 1) := by decide +kernel
theorem dX2_giveBack_21 : decode cX2_giveBack 21 = .ok (.iaload, 1) := by decide +kernel
theorem dX2_giveBack_22 : decode cX2_giveBack 22 = .ok (.putfield 54, 3) := by decide +kernel
theorem dX2_giveBack_25 : decode cX2_giveBack 25 = .ok (.aload_n 1, 1) := by decide +kernel
theorem dX2_giveBack_26 : decode cX2_giveBack 26 = .ok (.getfield 50, 3) := by decide +kernel
theorem dX2_giveBack_29 : decode cX2_giveBack 29 = .ok (.iload_n 2, 1) := by decide +kernel
theorem dX2_giveBack_30 : decode cX2_giveBack 30 = .ok (.aaload, 1) := by decide +kernel
theorem dX2_giveBack_31 : decode cX2_giveBack 31 = .ok (.aload_n 0, 1) := by decide +kernel
theorem dX2_giveBack_32 : decode cX2_giveBack 32 = .ok (.getfield 19, 3) := by decide +kernel
theorem dX2_giveBack_35 : decode cX2_giveBack 35 = .ok (.iload_n 2, 1) := by decide +kernel
theorem dX2_giveBack_36 : decode cX2_giveBack 36 = .ok (.iaload, 1) := by decide +kernel
theorem dX2_giveBack_37 : decode cX2_giveBack 37 = .ok (.putfield 57, 3) := by decide +kernel
theorem dX2_giveBack_40 : decode cX2_giveBack 40 = .ok (.aload_n 1, 1) := by decide +kernel
theorem dX2_giveBack_41 : decode cX2_giveBack 41 = .ok (.getfield 50, 3) := by decide +kernel
theorem dX2_giveBack_44 : decode cX2_giveBack 44 = .ok (.iload_n 2, 1) := by decide +kernel
theorem dX2_giveBack_45 : decode cX2_giveBack 45 = .ok (.aaload, 1) := by decide +kernel
theorem dX2_giveBack_46 : decode cX2_giveBack 46 = .ok (.aload_n 0, 1) := by decide +kernel
theorem dX2_giveBack_47 : decode cX2_giveBack 47 = .ok (.getfield 22, 3) := by decide +kernel
theorem dX2_giveBack_50 : decode cX2_giveBack 50 = .ok (.iload_n 2, 1) := by decide +kernel
theorem dX2_giveBack_51 : decode cX2_giveBack 51 = .ok (.iaload, 1) := by decide +kernel
theorem dX2_giveBack_52 : decode cX2_giveBack 52 = .ok (.putfield 60, 3) := by decide +kernel
theorem dX2_giveBack_55 : decode cX2_giveBack 55 = .ok (.iinc 2 1, 3) := by decide +kernel
theorem dX2_giveBack_58 : decode cX2_giveBack 58 = .ok (.goto (-56), 3) := by decide +kernel
theorem dX2_giveBack_61 : decode cX2_giveBack 61 = .ok (.aload_n 1, 1) := by decide +kernel
theorem dX2_giveBack_62 : decode cX2_giveBack 62 = .ok (.getfield 63, 3) := by decide +kernel
theorem dX2_giveBack_65 : decode cX2_giveBack 65 = .ok (.aload_n 0, 1) := by decide +kernel
theorem dX2_giveBack_66 : decode cX2_giveBack 66 = .ok (.getfield 28, 3) := by decide +kernel
theorem dX2_giveBack_69 : decode cX2_giveBack 69 = .ok (.invokevirtual 64, 3) := by decide +kernel
theorem dX2_giveBack_72 : decode cX2_giveBack 72 = .ok (.aload_n 1, 1) := by decide +kernel
theorem dX2_giveBack_73 : decode cX2_giveBack 73 = .ok (.aload_n 0, 1) := by decide +kernel
theorem dX2_giveBack_74 : decode cX2_giveBack 74 = .ok (.getfield 32, 3) := by decide +kernel
theorem dX2_giveBack_77 : decode cX2_giveBack 77 = .ok (.putfield 68, 3) := by decide +kernel
theorem dX2_giveBack_80 : decode cX2_giveBack 80 = .ok (.aload_n 1, 1) := by decide +kernel
theorem dX2_giveBack_81 : decode cX2_giveBack 81 = .ok (.aload_n 0, 1) := by decide +kernel
theorem dX2_giveBack_82 : decode cX2_giveBack 82 = .ok (.getfield 36, 3) := by decide +kernel
theorem dX2_giveBack_85 : decode cX2_giveBack 85 = .ok (.putfield 69, 3) := by decide +kernel
theorem dX2_giveBack_88 : decode cX2_giveBack 88 = .ok (.aload_n 1, 1) := by decide +kernel
theorem dX2_giveBack_89 : decode cX2_giveBack 89 = .ok (.aload_n 0, 1) := by decide +kernel
theorem dX2_giveBack_90 : decode cX2_giveBack 90 = .ok (.getfield 39, 3) := by decide +kernel
theorem dX2_giveBack_93 : decode cX2_giveBack 93 = .ok (.putfield 70, 3) := by decide +kernel
theorem dX2_giveBack_96 : decode cX2_giveBack 96 = .ok (.aload_n 1, 1) := by decide +kernel
theorem dX2_giveBack_97 : decode cX2_giveBack 97 = .ok (.aload_n 0, 1) := by decide +kernel
theorem dX2_giveBack_98 : decode cX2_giveBack 98 = .ok (.getfield 42, 3) := by decide +kernel
theorem dX2_giveBack_101 : decode cX2_giveBack 101 = .ok (.putfield 71, 3) := by decide +kernel
theorem dX2_giveBack_104 : decode cX2_giveBack 104 = .ok (.return_, 1) := by decide +kernel
theorem dX3_init_0 : decode cX3_init 0 = .ok (.aload_n 0, 1) := by decide +kernel
theorem dX3_init_1 : decode cX3_init 1 = .ok (.iload_n 1, 1) := by decide +kernel
theorem dX3_init_2 : decode cX3_init 2 = .ok (.iload_n 2, 1) := by decide +kernel
theorem dX3_init_3 : decode cX3_init 3 = .ok (.iload_n 3, 1) := by decide +kernel
theorem dX3_init_4 : decode cX3_init 4 = .ok (.invokespecial 3, 3) := by decide +kernel
theorem dX3_init_7 : decode cX3_init 7 = .ok (.return_, 1) := by decide +kernel
theorem dX3_kindNumber_0 : decode cX3_kindNumber 0 = .ok (.iconst 4, 1) := by decide +kernel
theorem dX3_kindNumber_1 : decode cX3_kindNumber 1 = .ok (.ireturn, 1) := by decide +kernel
theorem dX3_distanceTo_0 : decode cX3_distanceTo 0 = .ok (.aload_n 0, 1) := by decide +kernel
theorem dX3_distanceTo_1 : decode cX3_distanceTo 1 = .ok (.getfield 9, 3) := by decide +kernel
theorem dX3_distanceTo_4 : decode cX3_distanceTo 4 = .ok (.aload_n 1, 1) := by decide +kernel
theorem dX3_distanceTo_5 : decode cX3_distanceTo 5 = .ok (.getfield 15, 3) := by decide +kernel
theorem dX3_distanceTo_8 : decode cX3_distanceTo 8 = .ok (.isub, 1) := by decide +kernel
theorem dX3_distanceTo_9 : decode cX3_distanceTo 9 = .ok (.invokestatic 18, 3) := by decide +kernel
theorem dX3_distanceTo_12 : decode cX3_distanceTo 12 = .ok (.iconst 2, 1) := by decide +kernel
theorem dX3_distanceTo_13 : decode cX3_distanceTo 13 = .ok (.idiv, 1) := by decide +kernel
theorem dX3_distanceTo_14 : decode cX3_distanceTo 14 = .ok (.ireturn, 1) := by decide +kernel
theorem dX4_init_0 : decode cX4_init 0 = .ok (.aload_n 0, 1) := by decide +kernel
theorem dX4_init_1 : decode cX4_init 1 = .ok (.invokespecial 5, 3) := by decide +kernel
theorem dX4_init_4 : decode cX4_init 4 = .ok (.aload_n 0, 1) := by decide +kernel
theorem dX4_init_5 : decode cX4_init 5 = .ok (.bipush 36, 2) := by decide +kernel
theorem dX4_init_7 : decode cX4_init 7 = .ok (.newarray .int, 2) := by decide +kernel
theorem dX4_init_9 : decode cX4_init 9 = .ok (.putfield 11, 3) := by decide +kernel
theorem dX4_init_12 : decode cX4_init 12 = .ok (.aload_n 0, 1) := by decide +kernel
theorem dX4_init_13 : decode cX4_init 13 = .ok (.iconst 0, 1) := by decide +kernel
theorem dX4_init_14 : decode cX4_init 14 = .ok (.putfield 15, 3) := by decide +kernel
theorem dX4_init_17 : decode cX4_init 17 = .ok (.return_, 1) := by decide +kernel
theorem dX4_write_0 : decode cX4_write 0 = .ok (.aload_n 0, 1) := by decide +kernel
theorem dX4_write_1 : decode cX4_write 1 = .ok (.getfield 15, 3) := by decide +kernel
theorem dX4_write_4 : decode cX4_write 4 = .ok (.bipush 36, 2) := by decide +kernel
theorem dX4_write_6 : decode cX4_write 6 = .ok (.if_icmp .lt 5, 3) := by decide +kernel
theorem dX4_write_9 : decode cX4_write 9 = .ok (.iconst 0, 1) := by decide +kernel
theorem dX4_write_10 : decode cX4_write 10 = .ok (.ireturn, 1) := by decide +kernel
theorem dX4_write_11 : decode cX4_write 11 = .ok (.aload_n 0, 1) := by decide +kernel
theorem dX4_write_12 : decode cX4_write 12 = .ok (.getfield 11, 3) := by decide +kernel
theorem dX4_write_15 : decode cX4_write 15 = .ok (.aload_n 0, 1) := by decide +kernel
theorem dX4_write_16 : decode cX4_write 16 = .ok (.getfield 15, 3) := by decide +kernel
theorem dX4_write_19 : decode cX4_write 19 = .ok (.iload_n 1, 1) := by decide +kernel
theorem dX4_write_20 : decode cX4_write 20 = .ok (.iastore, 1) := by decide +kernel
theorem dX4_write_21 : decode cX4_write 21 = .ok (.aload_n 0, 1) := by decide +kernel
theorem dX4_write_22 : decode cX4_write 22 = .ok (.dup, 1) := by decide +kernel
theorem dX4_write_23 : decode cX4_write 23 = .ok (.getfield 15, 3) := by decide +kernel
theorem dX4_write_26 : decode cX4_write 26 = .ok (.iconst 1, 1) := by decide +kernel
theorem dX4_write_27 : decode cX4_write 27 = .ok (.iadd, 1) := by decide +kernel
theorem dX4_write_28 : decode cX4_write 28 = .ok (.putfield 15, 3) := by decide +kernel
theorem dX4_write_31 : decode cX4_write 31 = .ok (.iconst 1, 1) := by decide +kernel
theorem dX4_write_32 : decode cX4_write 32 = .ok (.ireturn, 1) := by decide +kernel
theorem dX4_clear_0 : decode cX4_clear 0 = .ok (.aload_n 0, 1) := by decide +kernel
theorem dX4_clear_1 : decode cX4_clear 1 = .ok (.iconst 0, 1) := by decide +kernel
theorem dX4_clear_2 : decode cX4_clear 2 = .ok (.putfield 15, 3) := by decide +kernel
theorem dX4_clear_5 : decode cX4_clear 5 = .ok (.return_, 1) := by decide +kernel
theorem dX4_firstFault_0 : decode cX4_firstFault 0 = .ok (.iconst 0, 1) := by decide +kernel
theorem dX4_firstFault_1 : decode cX4_firstFault 1 = .ok (.istore_n 1, 1) := by decide +kernel
theorem dX4_firstFault_2 : decode cX4_firstFault 2 = .ok (.iload_n 1, 1) := by decide +kernel
theorem dX4_firstFault_3 : decode cX4_firstFault 3 = .ok (.aload_n 0, 1) := by decide +kernel
theorem dX4_firstFault_4 : decode cX4_firstFault 4 = .ok (.getfield 15, 3) := by decide +kernel
theorem dX4_firstFault_7 : decode cX4_firstFault 7 = .ok (.if_icmp .ge 24, 3) := by decide +kernel
theorem dX4_firstFault_10 : decode cX4_firstFault 10 = .ok (.iload_n 1, 1) := by decide +kernel
theorem dX4_firstFault_11 : decode cX4_firstFault 11 = .ok (.aload_n 0, 1) := by decide +kernel
theorem dX4_firstFault_12 : decode cX4_firstFault 12 = .ok (.getfield 11, 3) := by decide +kernel
theorem dX4_firstFault_15 : decode cX4_firstFault 15 = .ok (.iload_n 1, 1) := by decide +kernel
theorem dX4_firstFault_16 : decode cX4_firstFault 16 = .ok (.iaload, 1) := by decide +kernel
theorem dX4_firstFault_17 : decode cX4_firstFault 17 = .ok (.invokestatic 19, 3) := by decide +kernel
theorem dX4_firstFault_20 : decode cX4_firstFault 20 = .ok (.ifCond .ne 5, 3) := by decide +kernel
theorem dX4_firstFault_23 : decode cX4_firstFault 23 = .ok (.iload_n 1, 1) := by decide +kernel
theorem dX4_firstFault_24 : decode cX4_firstFault 24 = .ok (.ireturn, 1) := by decide +kernel
theorem dX4_firstFault_25 : decode cX4_firstFault 25 = .ok (.iinc 1 1, 3) := by decide +kernel
theorem dX4_firstFault_28 : decode cX4_firstFault 28 = .ok (.goto (-26), 3) := by decide +kernel
theorem dX4_firstFault_31 : decode cX4_firstFault 31 = .ok (.aload_n 0, 1) := by decide +kernel
theorem dX4_firstFault_32 : decode cX4_firstFault 32 = .ok (.getfield 15, 3) := by decide +kernel
theorem dX4_firstFault_35 : decode cX4_firstFault 35 = .ok (.ireturn, 1) := by decide +kernel
theorem dX4_isDrawer_0 : decode cX4_isDrawer 0 = .ok (.aload_n 0, 1) := by decide +kernel
theorem dX4_isDrawer_1 : decode cX4_isDrawer 1 = .ok (.getfield 15, 3) := by decide +kernel
theorem dX4_isDrawer_4 : decode cX4_isDrawer 4 = .ok (.bipush 9, 2) := by decide +kernel
theorem dX4_isDrawer_6 : decode cX4_isDrawer 6 = .ok (.if_icmp .lt 28, 3) := by decide +kernel
theorem dX4_isDrawer_9 : decode cX4_isDrawer 9 = .ok (.aload_n 0, 1) := by decide +kernel
theorem dX4_isDrawer_10 : decode cX4_isDrawer 10 = .ok (.getfield 15, 3) := by decide +kernel
theorem dX4_isDrawer_13 : decode cX4_isDrawer 13 = .ok (.iconst 5, 1) := by decide +kernel
theorem dX4_isDrawer_14 : decode cX4_isDrawer 14 = .ok (.irem, 1) := by decide +kernel
theorem dX4_isDrawer_15 : decode cX4_isDrawer 15 = .ok (.iconst 4, 1) := by decide +kernel
theorem dX4_isDrawer_16 : decode cX4_isDrawer 16 = .ok (.if_icmp .ne 18, 3) := by decide +kernel
theorem dX4_isDrawer_19 : decode cX4_isDrawer 19 = .ok (.aload_n 0, 1) := by decide +kernel
theorem dX4_isDrawer_20 : decode cX4_isDrawer 20 = .ok (.invokevirtual 23, 3) := by decide +kernel
theorem dX4_isDrawer_23 : decode cX4_isDrawer 23 = .ok (.aload_n 0, 1) := by decide +kernel
theorem dX4_isDrawer_24 : decode cX4_isDrawer 24 = .ok (.getfield 15, 3) := by decide +kernel
theorem dX4_isDrawer_27 : decode cX4_isDrawer 27 = .ok (.if_icmp .ne 7, 3) := by decide +kernel
theorem dX4_isDrawer_30 : decode cX4_isDrawer 30 = .ok (.iconst 1, 1) := by decide +kernel
theorem dX4_isDrawer_31 : decode cX4_isDrawer 31 = .ok (.goto 4, 3) := by decide +kernel
theorem dX4_isDrawer_34 : decode cX4_isDrawer 34 = .ok (.iconst 0, 1) := by decide +kernel
theorem dX4_isDrawer_35 : decode cX4_isDrawer 35 = .ok (.ireturn, 1) := by decide +kernel
theorem dX4_singles_0 : decode cX4_singles 0 = .ok (.aload_n 0, 1) := by decide +kernel
theorem dX4_singles_1 : decode cX4_singles 1 = .ok (.getfield 15, 3) := by decide +kernel
theorem dX4_singles_4 : decode cX4_singles 4 = .ok (.iconst 1, 1) := by decide +kernel
theorem dX4_singles_5 : decode cX4_singles 5 = .ok (.iadd, 1) := by decide +kernel
theorem dX4_singles_6 : decode cX4_singles 6 = .ok (.iconst 5, 1) := by decide +kernel
theorem dX4_singles_7 : decode cX4_singles 7 = .ok (.idiv, 1) := by decide +kernel
theorem dX4_singles_8 : decode cX4_singles 8 = .ok (.ireturn, 1) := by decide +kernel
theorem dX4_singleAt_0 : decode cX4_singleAt 0 = .ok (.iload_n 1, 1) := by decide +kernel
theorem dX4_singleAt_1 : decode cX4_singleAt 1 = .ok (.iconst 5, 1) := by decide +kernel
theorem dX4_singleAt_2 : decode cX4_singleAt 2 = .ok (.imul, 1) := by decide +kernel
theorem dX4_singleAt_3 : decode cX4_singleAt 3 = .ok (.istore_n 2, 1) := by decide +kernel
theorem dX4_singleAt_4 : decode cX4_singleAt 4 = .ok (.aload_n 0, 1) := by decide +kernel
theorem dX4_singleAt_5 : decode cX4_singleAt 5 = .ok (.getfield 11, 3) := by decide +kernel
theorem dX4_singleAt_8 : decode cX4_singleAt 8 = .ok (.iload_n 2, 1) := by decide +kernel
theorem dX4_singleAt_9 : decode cX4_singleAt 9 = .ok (.iconst 1, 1) := by decide +kernel
theorem dX4_singleAt_10 : decode cX4_singleAt 10 = .ok (.iadd, 1) := by decide +kernel
theorem dX4_singleAt_11 : decode cX4_singleAt 11 = .ok (.iaload, 1) := by decide +kernel
theorem dX4_singleAt_12 : decode cX4_singleAt 12 = .ok (.bipush 48, 2) := by decide +kernel
theorem dX4_singleAt_14 : decode cX4_singleAt 14 = .ok (.isub, 1) := by decide +kernel
theorem dX4_singleAt_15 : decode cX4_singleAt 15 = .ok (.istore_n 3, 1) := by decide +kernel
theorem dX4_singleAt_16 : decode cX4_singleAt 16 = .ok (.aload_n 0, 1) := by decide +kernel
theorem dX4_singleAt_17 : decode cX4_singleAt 17 = .ok (.getfield 11, 3) := by decide +kernel
theorem dX4_singleAt_20 : decode cX4_singleAt 20 = .ok (.iload_n 2, 1) := by decide +kernel
theorem dX4_singleAt_21 : decode cX4_singleAt 21 = .ok (.iconst 2, 1) := by decide +kernel
theorem dX4_singleAt_22 : decode cX4_singleAt 22 = .ok (.iadd, 1) := by decide +kernel
theorem dX4_singleAt_23 : decode cX4_singleAt 23 = .ok (.iaload, 1) := by decide +kernel
theorem dX4_singleAt_24 : decode cX4_singleAt 24 = .ok (.bipush 48, 2) := by decide +kernel
theorem dX4_singleAt_26 : decode cX4_singleAt 26 = .ok (.isub, 1) := by decide +kernel
theorem dX4_singleAt_27 : decode cX4_singleAt 27 = .ok (.istore 4, 2) := by decide +kernel
theorem dX4_singleAt_29 : decode cX4_singleAt 29 = .ok (.aload_n 0, 1) := by decide +kernel
theorem dX4_singleAt_30 : decode cX4_singleAt 30 = .ok (.getfield 11, 3) := by decide +kernel
theorem dX4_singleAt_33 : decode cX4_singleAt 33 = .ok (.iload_n 2, 1) := by decide +kernel
theorem dX4_singleAt_34 : decode cX4_singleAt 34 = .ok (.iconst 3, 1) := by decide +kernel
theorem dX4_singleAt_35 : decode cX4_singleAt 35 = .ok (.iadd, 1) := by decide +kernel
theorem dX4_singleAt_36 : decode cX4_singleAt 36 = .ok (.iaload, 1) := by decide +kernel
theorem dX4_singleAt_37 : decode cX4_singleAt 37 = .ok (.bipush 48, 2) := by decide +kernel
theorem dX4_singleAt_39 : decode cX4_singleAt 39 = .ok (.isub, 1) := by decide +kernel
theorem dX4_singleAt_40 : decode cX4_singleAt 40 = .ok (.istore 5, 2) := by decide +kernel
theorem dX4_singleAt_42 : decode cX4_singleAt 42 = .ok (.ldc 27, 2) := by decide +kernel
theorem dX4_singleAt_44 : decode cX4_singleAt 44 = .ok (.aload_n 0, 1) := by decide +kernel
theorem dX4_singleAt_45 : decode cX4_singleAt 45 = .ok (.getfield 11, 3) := by decide +kernel
theorem dX4_singleAt_48 : decode cX4_singleAt 48 = .ok (.iload_n 2, 1) := by decide +kernel
theorem dX4_singleAt_49 : decode cX4_singleAt 49 = .ok (.iaload, 1) := by decide +kernel
theorem dX4_singleAt_50 : decode cX4_singleAt 50 = .ok (.i2c, 1) := by decide +kernel
theorem dX4_singleAt_51 : decode cX4_singleAt 51 = .ok (.invokevirtual 29, 3) := by decide +kernel
theorem dX4_singleAt_54 : decode cX4_singleAt 54 = .ok (.tableswitch 82 1 4 #[30, 43, 56, 69], 30) := by decide +kernel
theorem dX4_singleAt_84 : decode cX4_singleAt 84 = .ok (.new 35, 3) := by decide +kernel
theorem dX4_singleAt_87 : decode cX4_singleAt 87 = .ok (.dup, 1) := by decide +kernel
theorem dX4_singleAt_88 : decode cX4_singleAt 88 = .ok (.iload_n 3, 1) := by decide +kernel
theorem dX4_singleAt_89 : decode cX4_singleAt 89 = .ok (.iload 4, 2) := by decide +kernel
theorem dX4_singleAt_91 : decode cX4_singleAt 91 = .ok (.iload 5, 2) := by decide +kernel
theorem dX4_singleAt_93 : decode cX4_singleAt 93 = .ok (.invokespecial 37, 3) := by decide +kernel
theorem dX4_singleAt_96 : decode cX4_singleAt 96 = .ok (.areturn, 1) := by decide +kernel
theorem dX4_singleAt_97 : decode cX4_singleAt 97 = .ok (.new 40, 3) := by decide +kernel
theorem dX4_singleAt_100 : decode cX4_singleAt 100 = .ok (.dup, 1) := by decide +kernel
theorem dX4_singleAt_101 : decode cX4_singleAt 101 = .ok (.iload_n 3, 1) := by decide +kernel
theorem dX4_singleAt_102 : decode cX4_singleAt 102 = .ok (.iload 4, 2) := by decide +kernel
theorem dX4_singleAt_104 : decode cX4_singleAt 104 = .ok (.iload 5, 2) := by decide +kernel
theorem dX4_singleAt_106 : decode cX4_singleAt 106 = .ok (.invokespecial 42, 3) := by decide +kernel
theorem dX4_singleAt_109 : decode cX4_singleAt 109 = .ok (.areturn, 1) := by decide +kernel
theorem dX4_singleAt_110 : decode cX4_singleAt 110 = .ok (.new 43, 3) := by decide +kernel
theorem dX4_singleAt_113 : decode cX4_singleAt 113 = .ok (.dup, 1) := by decide +kernel
theorem dX4_singleAt_114 : decode cX4_singleAt 114 = .ok (.iload_n 3, 1) := by decide +kernel
theorem dX4_singleAt_115 : decode cX4_singleAt 115 = .ok (.iload 4, 2) := by decide +kernel
theorem dX4_singleAt_117 : decode cX4_singleAt 117 = .ok (.iload 5, 2) := by decide +kernel
theorem dX4_singleAt_119 : decode cX4_singleAt 119 = .ok (.invokespecial 45, 3) := by decide +kernel
theorem dX4_singleAt_122 : decode cX4_singleAt 122 = .ok (.areturn, 1) := by decide +kernel
theorem dX4_singleAt_123 : decode cX4_singleAt 123 = .ok (.new 46, 3) := by decide +kernel
theorem dX4_singleAt_126 : decode cX4_singleAt 126 = .ok (.dup, 1) := by decide +kernel
theorem dX4_singleAt_127 : decode cX4_singleAt 127 = .ok (.iload_n 3, 1) := by decide +kernel
theorem dX4_singleAt_128 : decode cX4_singleAt 128 = .ok (.iload 4, 2) := by decide +kernel
theorem dX4_singleAt_130 : decode cX4_singleAt 130 = .ok (.iload 5, 2) := by decide +kernel
theorem dX4_singleAt_132 : decode cX4_singleAt 132 = .ok (.invokespecial 48, 3) := by decide +kernel
theorem dX4_singleAt_135 : decode cX4_singleAt 135 = .ok (.areturn, 1) := by decide +kernel
theorem dX4_singleAt_136 : decode cX4_singleAt 136 = .ok (.new 49, 3) := by decide +kernel
theorem dX4_singleAt_139 : decode cX4_singleAt 139 = .ok (.dup, 1) := by decide +kernel
theorem dX4_singleAt_140 : decode cX4_singleAt 140 = .ok (.iload_n 3, 1) := by decide +kernel
theorem dX4_singleAt_141 : decode cX4_singleAt 141 = .ok (.iload 4, 2) := by decide +kernel
theorem dX4_singleAt_143 : decode cX4_singleAt 143 = .ok (.iload 5, 2) := by decide +kernel
theorem dX4_singleAt_145 : decode cX4_singleAt 145 = .ok (.invokespecial 51, 3) := by decide +kernel
theorem dX4_singleAt_148 : decode cX4_singleAt 148 = .ok (.areturn, 1) := by decide +kernel
theorem dX4_mayStandAt_0 : decode cX4_mayStandAt 0 = .ok (.iload_n 0, 1) := by decide +kernel
theorem dX4_mayStandAt_1 : decode cX4_mayStandAt 1 = .ok (.bipush 34, 2) := by decide +kernel
theorem dX4_mayStandAt_3 : decode cX4_mayStandAt 3 = .ok (.if_icmp .lt 5, 3) := by decide +kernel
theorem dX4_mayStandAt_6 : decode cX4_mayStandAt 6 = .ok (.iconst 0, 1) := by decide +kernel
theorem dX4_mayStandAt_7 : decode cX4_mayStandAt 7 = .ok (.ireturn, 1) := by decide +kernel
theorem dX4_mayStandAt_8 : decode cX4_mayStandAt 8 = .ok (.iload_n 0, 1) := by decide +kernel
theorem dX4_mayStandAt_9 : decode cX4_mayStandAt 9 = .ok (.iconst 5, 1) := by decide +kernel
theorem dX4_mayStandAt_10 : decode cX4_mayStandAt 10 = .ok (.irem, 1) := by decide +kernel
theorem dX4_mayStandAt_11 : decode cX4_mayStandAt 11 = .ok (.tableswitch 99 0 3 #[29, 45, 63, 81], 29) := by decide +kernel
theorem dX4_mayStandAt_40 : decode cX4_mayStandAt 40 = .ok (.ldc 27, 2) := by decide +kernel
theorem dX4_mayStandAt_42 : decode cX4_mayStandAt 42 = .ok (.iload_n 1, 1) := by decide +kernel
theorem dX4_mayStandAt_43 : decode cX4_mayStandAt 43 = .ok (.i2c, 1) := by decide +kernel
theorem dX4_mayStandAt_44 : decode cX4_mayStandAt 44 = .ok (.invokevirtual 29, 3) := by decide +kernel
theorem dX4_mayStandAt_47 : decode cX4_mayStandAt 47 = .ok (.ifCond .lt 7, 3) := by decide +kernel
theorem dX4_mayStandAt_50 : decode cX4_mayStandAt 50 = .ok (.iconst 1, 1) := by decide +kernel
theorem dX4_mayStandAt_51 : decode cX4_mayStandAt 51 = .ok (.goto 4, 3) := by decide +kernel
theorem dX4_mayStandAt_54 : decode cX4_mayStandAt 54 = .ok (.iconst 0, 1) := by decide +kernel
theorem dX4_mayStandAt_55 : decode cX4_mayStandAt 55 = .ok (.ireturn, 1) := by decide +kernel
theorem dX4_mayStandAt_56 : decode cX4_mayStandAt 56 = .ok (.iload_n 1, 1) := by decide +kernel
theorem dX4_mayStandAt_57 : decode cX4_mayStandAt 57 = .ok (.bipush 48, 2) := by decide +kernel
theorem dX4_mayStandAt_59 : decode cX4_mayStandAt 59 = .ok (.if_icmp .lt 13, 3) := by decide +kernel
theorem dX4_mayStandAt_62 : decode cX4_mayStandAt 62 = .ok (.iload_n 1, 1) := by decide +kernel
theorem dX4_mayStandAt_63 : decode cX4_mayStandAt 63 = .ok (.bipush 49, 2) := by decide +kernel
theorem dX4_mayStandAt_65 : decode cX4_mayStandAt 65 = .ok (.if_icmp .gt 7, 3) := by decide +kernel
theorem dX4_mayStandAt_68 : decode cX4_mayStandAt 68 = .ok (.iconst 1, 1) := by decide +kernel
theorem dX4_mayStandAt_69 : decode cX4_mayStandAt 69 = .ok (.goto 4, 3) := by decide +kernel
theorem dX4_mayStandAt_72 : decode cX4_mayStandAt 72 = .ok (.iconst 0, 1) := by decide +kernel
theorem dX4_mayStandAt_73 : decode cX4_mayStandAt 73 = .ok (.ireturn, 1) := by decide +kernel
theorem dX4_mayStandAt_74 : decode cX4_mayStandAt 74 = .ok (.iload_n 1, 1) := by decide +kernel
theorem dX4_mayStandAt_75 : decode cX4_mayStandAt 75 = .ok (.bipush 48, 2) := by decide +kernel
theorem dX4_mayStandAt_77 : decode cX4_mayStandAt 77 = .ok (.if_icmp .lt 13, 3) := by decide +kernel
theorem dX4_mayStandAt_80 : decode cX4_mayStandAt 80 = .ok (.iload_n 1, 1) := by decide +kernel
theorem dX4_mayStandAt_81 : decode cX4_mayStandAt 81 = .ok (.bipush 58, 2) := by decide +kernel
theorem dX4_mayStandAt_83 : decode cX4_mayStandAt 83 = .ok (.if_icmp .ge 7, 3) := by decide +kernel
theorem dX4_mayStandAt_86 : decode cX4_mayStandAt 86 = .ok (.iconst 1, 1) := by decide +kernel
theorem dX4_mayStandAt_87 : decode cX4_mayStandAt 87 = .ok (.goto 4, 3) := by decide +kernel
theorem dX4_mayStandAt_90 : decode cX4_mayStandAt 90 = .ok (.iconst 0, 1) := by decide +kernel
theorem dX4_mayStandAt_91 : decode cX4_mayStandAt 91 = .ok (.ireturn, 1) := by decide +kernel
theorem dX4_mayStandAt_92 : decode cX4_mayStandAt 92 = .ok (.iload_n 1, 1) := by decide +kernel
theorem dX4_mayStandAt_93 : decode cX4_mayStandAt 93 = .ok (.bipush 48, 2) := by decide +kernel
theorem dX4_mayStandAt_95 : decode cX4_mayStandAt 95 = .ok (.if_icmp .lt 13, 3) := by decide +kernel
theorem dX4_mayStandAt_98 : decode cX4_mayStandAt 98 = .ok (.iload_n 1, 1) := by decide +kernel
theorem dX4_mayStandAt_99 : decode cX4_mayStandAt 99 = .ok (.bipush 54, 2) := by decide +kernel
theorem dX4_mayStandAt_101 : decode cX4_mayStandAt 101 = .ok (.if_icmp .ge 7, 3) := by decide +kernel
theorem dX4_mayStandAt_104 : decode cX4_mayStandAt 104 = .ok (.iconst 1, 1) := by decide +kernel
theorem dX4_mayStandAt_105 : decode cX4_mayStandAt 105 = .ok (.goto 4, 3) := by decide +kernel
theorem dX4_mayStandAt_108 : decode cX4_mayStandAt 108 = .ok (.iconst 0, 1) := by decide +kernel
theorem dX4_mayStandAt_109 : decode cX4_mayStandAt 109 = .ok (.ireturn, 1) := by decide +kernel
theorem dX4_mayStandAt_110 : decode cX4_mayStandAt 110 = .ok (.iload_n 1, 1) := by decide +kernel
theorem dX4_mayStandAt_111 : decode cX4_mayStandAt 111 = .ok (.bipush 44, 2) := by decide +kernel
theorem dX4_mayStandAt_113 : decode cX4_mayStandAt 113 = .ok (.if_icmp .ne 7, 3) := by decide +kernel
theorem dX4_mayStandAt_116 : decode cX4_mayStandAt 116 = .ok (.iconst 1, 1) := by decide +kernel
theorem dX4_mayStandAt_117 : decode cX4_mayStandAt 117 = .ok (.goto 4, 3) := by decide +kernel
theorem dX4_mayStandAt_120 : decode cX4_mayStandAt 120 = .ok (.iconst 0, 1) := by decide +kernel
theorem dX4_mayStandAt_121 : decode cX4_mayStandAt 121 = .ok (.ireturn, 1) := by decide +kernel
theorem dX5_init_0 : decode cX5_init 0 = .ok (.aload_n 0, 1) := by decide +kernel
theorem dX5_init_1 : decode cX5_init 1 = .ok (.iload_n 1, 1) := by decide +kernel
theorem dX5_init_2 : decode cX5_init 2 = .ok (.iload_n 2, 1) := by decide +kernel
theorem dX5_init_3 : decode cX5_init 3 = .ok (.iload_n 3, 1) := by decide +kernel
theorem dX5_init_4 : decode cX5_init 4 = .ok (.invokespecial 3, 3) := by decide +kernel
theorem dX5_init_7 : decode cX5_init 7 = .ok (.return_, 1) := by decide +kernel
theorem dX5_kindNumber_0 : decode cX5_kindNumber 0 = .ok (.iconst 3, 1) := by decide +kernel
theorem dX5_kindNumber_1 : decode cX5_kindNumber 1 = .ok (.ireturn, 1) := by decide +kernel
theorem dX5_takes_0 : decode cX5_takes 0 = .ok (.aload_n 0, 1) := by decide +kernel
theorem dX5_takes_1 : decode cX5_takes 1 = .ok (.getfield 9, 3) := by decide +kernel
theorem dX5_takes_4 : decode cX5_takes 4 = .ok (.aload_n 1, 1) := by decide +kernel
theorem dX5_takes_5 : decode cX5_takes 5 = .ok (.getfield 15, 3) := by decide +kernel
theorem dX5_takes_8 : decode cX5_takes 8 = .ok (.if_icmp .eq 18, 3) := by decide +kernel
theorem dX5_takes_11 : decode cX5_takes 11 = .ok (.aload_n 0, 1) := by decide +kernel
theorem dX5_takes_12 : decode cX5_takes 12 = .ok (.getfield 16, 3) := by decide +kernel
theorem dX5_takes_15 : decode cX5_takes 15 = .ok (.aload_n 1, 1) := by decide +kernel
theorem dX5_takes_16 : decode cX5_takes 16 = .ok (.getfield 19, 3) := by decide +kernel
theorem dX5_takes_19 : decode cX5_takes 19 = .ok (.if_icmp .ne 7, 3) := by decide +kernel
theorem dX5_takes_22 : decode cX5_takes 22 = .ok (.iconst 1, 1) := by decide +kernel
theorem dX5_takes_23 : decode cX5_takes 23 = .ok (.goto 4, 3) := by decide +kernel
theorem dX5_takes_26 : decode cX5_takes 26 = .ok (.iconst 0, 1) := by decide +kernel
theorem dX5_takes_27 : decode cX5_takes 27 = .ok (.ireturn, 1) := by decide +kernel
theorem dX6_init_0 : decode cX6_init 0 = .ok (.aload_n 0, 1) := by decide +kernel
theorem dX6_init_1 : decode cX6_init 1 = .ok (.invokespecial 3, 3) := by decide +kernel
theorem dX6_init_4 : decode cX6_init 4 = .ok (.aload_n 0, 1) := by decide +kernel
theorem dX6_init_5 : decode cX6_init 5 = .ok (.bipush 7, 2) := by decide +kernel
theorem dX6_init_7 : decode cX6_init 7 = .ok (.newarray .int, 2) := by decide +kernel
theorem dX6_init_9 : decode cX6_init 9 = .ok (.putfield 9, 3) := by decide +kernel
theorem dX6_init_12 : decode cX6_init 12 = .ok (.aload_n 0, 1) := by decide +kernel
theorem dX6_init_13 : decode cX6_init 13 = .ok (.bipush 7, 2) := by decide +kernel
theorem dX6_init_15 : decode cX6_init 15 = .ok (.newarray .int, 2) := by decide +kernel
theorem dX6_init_17 : decode cX6_init 17 = .ok (.putfield 15, 3) := by decide +kernel
theorem dX6_init_20 : decode cX6_init 20 = .ok (.aload_n 0, 1) := by decide +kernel
theorem dX6_init_21 : decode cX6_init 21 = .ok (.bipush 7, 2) := by decide +kernel
theorem dX6_init_23 : decode cX6_init 23 = .ok (.bipush 7, 2) := by decide +kernel
theorem dX6_init_25 : decode cX6_init 25 = .ok (.multianewarray 18 2, 4) := by decide +kernel
theorem dX6_init_29 : decode cX6_init 29 = .ok (.putfield 20, 3) := by decide +kernel
theorem dX6_init_32 : decode cX6_init 32 = .ok (.aload_n 0, 1) := by decide +kernel
theorem dX6_init_33 : decode cX6_init 33 = .ok (.bipush 7, 2) := by decide +kernel
theorem dX6_init_35 : decode cX6_init 35 = .ok (.newarray .int, 2) := by decide +kernel
theorem dX6_init_37 : decode cX6_init 37 = .ok (.putfield 23, 3) := by decide +kernel
theorem dX6_init_40 : decode cX6_init 40 = .ok (.return_, 1) := by decide +kernel
theorem dX6_mateOf_0 : decode cX6_mateOf 0 = .ok (.iload_n 1, 1) := by decide +kernel
theorem dX6_mateOf_1 : decode cX6_mateOf 1 = .ok (.ifCond .lt 18, 3) := by decide +kernel
theorem dX6_mateOf_4 : decode cX6_mateOf 4 = .ok (.iload_n 1, 1) := by decide +kernel
theorem dX6_mateOf_5 : decode cX6_mateOf 5 = .ok (.bipush 7, 2) := by decide +kernel
theorem dX6_mateOf_7 : decode cX6_mateOf 7 = .ok (.if_icmp .ge 12, 3) := by decide +kernel
theorem dX6_mateOf_10 : decode cX6_mateOf 10 = .ok (.aload_n 0, 1) := by decide +kernel
theorem dX6_mateOf_11 : decode cX6_mateOf 11 = .ok (.getfield 9, 3) := by decide +kernel
theorem dX6_mateOf_14 : decode cX6_mateOf 14 = .ok (.iload_n 1, 1) := by decide +kernel
theorem dX6_mateOf_15 : decode cX6_mateOf 15 = .ok (.iaload, 1) := by decide +kernel
theorem dX6_mateOf_16 : decode cX6_mateOf 16 = .ok (.goto 4, 3) := by decide +kernel
theorem dX6_mateOf_19 : decode cX6_mateOf 19 = .ok (.iconst (-1), 1) := by decide +kernel
theorem dX6_mateOf_20 : decode cX6_mateOf 20 = .ok (.ireturn, 1) := by decide +kernel
theorem dX6_seek_0 : decode cX6_seek 0 = .ok (.aload_n 0, 1) := by decide +kernel
theorem dX6_seek_1 : decode cX6_seek 1 = .ok (.iload_n 2, 1) := by decide +kernel
theorem dX6_seek_2 : decode cX6_seek 2 = .ok (.putfield 26, 3) := by decide +kernel
theorem dX6_seek_5 : decode cX6_seek 5 = .ok (.aload_n 0, 1) := by decide +kernel
theorem dX6_seek_6 : decode cX6_seek 6 = .ok (.iload_n 3, 1) := by decide +kernel
theorem dX6_seek_7 : decode cX6_seek 7 = .ok (.putfield 30, 3) := by decide +kernel
theorem dX6_seek_10 : decode cX6_seek 10 = .ok (.aload_n 0, 1) := by decide +kernel
theorem dX6_seek_11 : decode cX6_seek 11 = .ok (.iconst 0, 1) := by decide +kernel
theorem dX6_seek_12 : decode cX6_seek 12 = .ok (.putfield 33, 3) := by decide +kernel
theorem dX6_seek_15 : decode cX6_seek 15 = .ok (.aload_n 0, 1) := by decide +kernel
theorem dX6_seek_16 : decode cX6_seek 16 = .ok (.iconst 0, 1) := by decide +kernel
theorem dX6_seek_17 : decode cX6_seek 17 = .ok (.putfield 36, 3) := by decide +kernel
theorem dX6_seek_20 : decode cX6_seek 20 = .ok (.aload_n 0, 1) := by decide +kernel
theorem dX6_seek_21 : decode cX6_seek 21 = .ok (.iconst 0, 1) := by decide +kernel
theorem dX6_seek_22 : decode cX6_seek 22 = .ok (.putfield 39, 3) := by decide +kernel
theorem dX6_seek_25 : decode cX6_seek 25 = .ok (.aload_n 0, 1) := by decide +kernel
theorem dX6_seek_26 : decode cX6_seek 26 = .ok (.iconst 0, 1) := by decide +kernel
theorem dX6_seek_27 : decode cX6_seek 27 = .ok (.putfield 42, 3) := by decide +kernel
theorem dX6_seek_30 : decode cX6_seek 30 = .ok (.aload_n 0, 1) := by decide +kernel
theorem dX6_seek_31 : decode cX6_seek 31 = .ok (.iconst 0, 1) := by decide +kernel
theorem dX6_seek_32 : decode cX6_seek 32 = .ok (.putfield 45, 3) := by decide +kernel
theorem dX6_seek_35 : decode cX6_seek 35 = .ok (.aload_n 0, 1) := by decide +kernel
theorem dX6_seek_36 : decode cX6_seek 36 = .ok (.getfield 9, 3) := by decide +kernel
theorem dX6_seek_39 : decode cX6_seek 39 = .ok (.iconst (-1), 1) := by decide +kernel
theorem dX6_seek_40 : decode cX6_seek 40 = .ok (.invokestatic 48, 3) := by decide +kernel
theorem dX6_seek_43 : decode cX6_seek 43 = .ok (.aload_n 0, 1) := by decide +kernel
theorem dX6_seek_44 : decode cX6_seek 44 = .ok (.getfield 15, 3) := by decide +kernel
theorem dX6_seek_47 : decode cX6_seek 47 = .ok (.iconst (-1), 1) := by decide +kernel
theorem dX6_seek_48 : decode cX6_seek 48 = .ok (.invokestatic 48, 3) := by decide +kernel
theorem dX6_seek_51 : decode cX6_seek 51 = .ok (.aload_n 0, 1) := by decide +kernel
theorem dX6_seek_52 : decode cX6_seek 52 = .ok (.aload_n 1, 1) := by decide +kernel
theorem dX6_seek_53 : decode cX6_seek 53 = .ok (.invokevirtual 54, 3) := by decide +kernel
theorem dX6_seek_56 : decode cX6_seek 56 = .ok (.aload_n 0, 1) := by decide +kernel
theorem dX6_seek_57 : decode cX6_seek 57 = .ok (.iconst 0, 1) := by decide +kernel
theorem dX6_seek_58 : decode cX6_seek 58 = .ok (.iconst 0, 1) := by decide +kernel
theorem dX6_seek_59 : decode cX6_seek 59 = .ok (.iconst 0, 1) := by decide +kernel
theorem dX6_seek_60 : decode cX6_seek 60 = .ok (.iconst 0, 1) := by decide +kernel
theorem dX6_seek_61 : decode cX6_seek 61 = .ok (.invokevirtual 58, 3) := by decide +kernel
theorem dX6_seek_64 : decode cX6_seek 64 = .ok (.return_, 1) := by decide +kernel
theorem dX6_learn_0 : decode cX6_learn 0 = .ok (.aload_n 0, 1) := by decide +kernel
theorem dX6_learn_1 : decode cX6_learn 1 = .ok (.aload_n 1, 1) := by decide +kernel
theorem dX6_learn_2 : decode cX6_learn 2 = .ok (.getfield 62, 3) := by decide +kernel
theorem dX6_learn_5 : decode cX6_learn 5 = .ok (.putfield 67, 3) := by decide +kernel
theorem dX6_learn_8 : decode cX6_learn 8 = .ok (.iconst 0, 1) := by decide +kernel
theorem dX6_learn_9 : decode cX6_learn 9 = .ok (.istore_n 2, 1) := by decide +kernel
theorem dX6_learn_10 : decode cX6_learn 10 = .ok (.iload_n 2, 1) := by decide +kernel
theorem dX6_learn_11 : decode cX6_learn 11 = .ok (.aload_n 0, 1) := by decide +kernel
theorem dX6_learn_12 : decode cX6_learn 12 = .ok (.getfield 67, 3) := by decide +kernel
theorem dX6_learn_15 : decode cX6_learn 15 = .ok (.if_icmp .ge 86, 3) := by decide +kernel
theorem dX6_learn_18 : decode cX6_learn 18 = .ok (.aload_n 0, 1) := by decide +kernel
theorem dX6_learn_19 : decode cX6_learn 19 = .ok (.getfield 23, 3) := by decide +kernel
theorem dX6_learn_22 : decode cX6_learn 22 = .ok (.iload_n 2, 1) := by decide +kernel
theorem dX6_learn_23 : decode cX6_learn 23 = .ok (.aload_n 1, 1) := by decide +kernel
theorem dX6_learn_24 : decode cX6_learn 24 = .ok (.getfield 68, 3) := by decide +kernel
theorem dX6_learn_27 : decode cX6_learn 27 = .ok (.iload_n 2, 1) := by decide +kernel
theorem dX6_learn_28 : decode cX6_learn 28 = .ok (.aaload, 1) := by decide +kernel
theorem dX6_learn_29 : decode cX6_learn 29 = .ok (.getfield 72, 3) := by decide +kernel
theorem dX6_learn_32 : decode cX6_learn 32 = .ok (.iastore, 1) := by decide +kernel
theorem dX6_learn_33 : decode cX6_learn 33 = .ok (.iconst 0, 1) := by decide +kernel
theorem dX6_learn_34 : decode cX6_learn 34 = .ok (.istore_n 3, 1) := by decide +kernel
theorem dX6_learn_35 : decode cX6_learn 35 = .ok (.iload_n 3, 1) := by decide +kernel
theorem dX6_learn_36 : decode cX6_learn 36 = .ok (.aload_n 0, 1) := by decide +kernel
theorem dX6_learn_37 : decode cX6_learn 37 = .ok (.getfield 67, 3) := by decide +kernel
theorem dX6_learn_40 : decode cX6_learn 40 = .ok (.if_icmp .ge 55, 3) := by decide +kernel
theorem dX6_learn_43 : decode cX6_learn 43 = .ok (.aload_n 1, 1) := by decide +kernel
theorem dX6_learn_44 : decode cX6_learn 44 = .ok (.iload_n 2, 1) := by decide +kernel
theorem dX6_learn_45 : decode cX6_learn 45 = .ok (.invokevirtual 77, 3) := by decide +kernel
theorem dX6_learn_48 : decode cX6_learn 48 = .ok (.ifCond .ne 11, 3) := by decide +kernel
theorem dX6_learn_51 : decode cX6_learn 51 = .ok (.aload_n 1, 1) := by decide +kernel
theorem dX6_learn_52 : decode cX6_learn 52 = .ok (.iload_n 3, 1) := by decide +kernel
theorem dX6_learn_53 : decode cX6_learn 53 = .ok (.invokevirtual 77, 3) := by decide +kernel
theorem dX6_learn_56 : decode cX6_learn 56 = .ok (.ifCond .eq 7, 3) := by decide +kernel
theorem dX6_learn_59 : decode cX6_learn 59 = .ok (.iconst 1, 1) := by decide +kernel
theorem dX6_learn_60 : decode cX6_learn 60 = .ok (.goto 4, 3) := by decide +kernel
theorem dX6_learn_63 : decode cX6_learn 63 = .ok (.iconst 0, 1) := by decide +kernel
theorem dX6_learn_64 : decode cX6_learn 64 = .ok (.istore 4, 2) := by decide +kernel
theorem dX6_learn_66 : decode cX6_learn 66 = .ok (.aload_n 0, 1) := by decide +kernel
theorem dX6_learn_67 : decode cX6_learn 67 = .ok (.getfield 20, 3) := by decide +kernel
theorem dX6_learn_70 : decode cX6_learn 70 = .ok (.iload_n 2, 1) := by decide +kernel
theorem dX6_learn_71 : decode cX6_learn 71 = .ok (.aaload, 1) := by decide +kernel
theorem dX6_learn_72 : decode cX6_learn 72 = .ok (.iload_n 3, 1) := by decide +kernel
theorem dX6_learn_73 : decode cX6_learn 73 = .ok (.iload 4, 2) := by decide +kernel
theorem dX6_learn_75 : decode cX6_learn 75 = .ok (.ifCond .eq 7, 3) := by decide +kernel
theorem dX6_learn_78 : decode cX6_learn 78 = .ok (.iconst (-1), 1) := by decide +kernel
theorem dX6_learn_79 : decode cX6_learn 79 = .ok (.goto 9, 3) := by decide +kernel
theorem dX6_learn_82 : decode cX6_learn 82 = .ok (.aload_n 1, 1) := by decide +kernel
theorem dX6_learn_83 : decode cX6_learn 83 = .ok (.iload_n 2, 1) := by decide +kernel
theorem dX6_learn_84 : decode cX6_learn 84 = .ok (.iload_n 3, 1) := by decide +kernel
theorem dX6_learn_85 : decode cX6_learn 85 = .ok (.invokevirtual 81, 3) := by decide +kernel
theorem dX6_learn_88 : decode cX6_learn 88 = .ok (.iastore, 1) := by decide +kernel
theorem dX6_learn_89 : decode cX6_learn 89 = .ok (.iinc 3 1, 3) := by decide +kernel
theorem dX6_learn_92 : decode cX6_learn 92 = .ok (.goto (-57), 3) := by decide +kernel
theorem dX6_learn_95 : decode cX6_learn 95 = .ok (.iinc 2 1, 3) := by decide +kernel
theorem dX6_learn_98 : decode cX6_learn 98 = .ok (.goto (-88), 3) := by decide +kernel
theorem dX6_learn_101 : decode cX6_learn 101 = .ok (.return_, 1) := by decide +kernel
theorem dX6_place_0 : decode cX6_place 0 = .ok (.iload 4, 2) := by decide +kernel
theorem dX6_place_2 : decode cX6_place 2 = .ok (.aload_n 0, 1) := by decide +kernel
theorem dX6_place_3 : decode cX6_place 3 = .ok (.getfield 30, 3) := by decide +kernel
theorem dX6_place_6 : decode cX6_place 6 = .ok (.if_icmp .le 4, 3) := by decide +kernel
theorem dX6_place_9 : decode cX6_place 9 = .ok (.return_, 1) := by decide +kernel
theorem dX6_place_10 : decode cX6_place 10 = .ok (.iload_n 1, 1) := by decide +kernel
theorem dX6_place_11 : decode cX6_place 11 = .ok (.aload_n 0, 1) := by decide +kernel
theorem dX6_place_12 : decode cX6_place 12 = .ok (.getfield 67, 3) := by decide +kernel
theorem dX6_place_15 : decode cX6_place 15 = .ok (.if_icmp .lt 12, 3) := by decide +kernel
theorem dX6_place_18 : decode cX6_place 18 = .ok (.aload_n 0, 1) := by decide +kernel
theorem dX6_place_19 : decode cX6_place 19 = .ok (.iload_n 2, 1) := by decide +kernel
theorem dX6_place_20 : decode cX6_place 20 = .ok (.iload_n 3, 1) := by decide +kernel
theorem dX6_place_21 : decode cX6_place 21 = .ok (.iload 4, 2) := by decide +kernel
theorem dX6_place_23 : decode cX6_place 23 = .ok (.invokevirtual 85, 3) := by decide +kernel
theorem dX6_place_26 : decode cX6_place 26 = .ok (.return_, 1) := by decide +kernel
theorem dX6_place_27 : decode cX6_place 27 = .ok (.aload_n 0, 1) := by decide +kernel
theorem dX6_place_28 : decode cX6_place 28 = .ok (.iload_n 1, 1) := by decide +kernel
theorem dX6_place_29 : decode cX6_place 29 = .ok (.iconst 1, 1) := by decide +kernel
theorem dX6_place_30 : decode cX6_place 30 = .ok (.iadd, 1) := by decide +kernel
theorem dX6_place_31 : decode cX6_place 31 = .ok (.iload_n 2, 1) := by decide +kernel
theorem dX6_place_32 : decode cX6_place 32 = .ok (.iload_n 3, 1) := by decide +kernel
theorem dX6_place_33 : decode cX6_place 33 = .ok (.iload 4, 2) := by decide +kernel
theorem dX6_place_35 : decode cX6_place 35 = .ok (.invokevirtual 58, 3) := by decide +kernel
theorem dX6_place_38 : decode cX6_place 38 = .ok (.aload_n 0, 1) := by decide +kernel
theorem dX6_place_39 : decode cX6_place 39 = .ok (.getfield 15, 3) := by decide +kernel
theorem dX6_place_42 : decode cX6_place 42 = .ok (.iload_n 1, 1) := by decide +kernel
theorem dX6_place_43 : decode cX6_place 43 = .ok (.iaload, 1) := by decide +kernel
theorem dX6_place_44 : decode cX6_place 44 = .ok (.iconst (-1), 1) := by decide +kernel
theorem dX6_place_45 : decode cX6_place 45 = .ok (.if_icmp .eq 4, 3) := by decide +kernel
theorem dX6_place_48 : decode cX6_place 48 = .ok (.return_, 1) := by decide +kernel
theorem dX6_place_49 : decode cX6_place 49 = .ok (.iload_n 1, 1) := by decide +kernel
theorem dX6_place_50 : decode cX6_place 50 = .ok (.iconst 1, 1) := by decide +kernel
theorem dX6_place_51 : decode cX6_place 51 = .ok (.iadd, 1) := by decide +kernel
theorem dX6_place_52 : decode cX6_place 52 = .ok (.istore 5, 2) := by decide +kernel
theorem dX6_place_54 : decode cX6_place 54 = .ok (.iload 5, 2) := by decide +kernel
theorem dX6_place_56 : decode cX6_place 56 = .ok (.aload_n 0, 1) := by decide +kernel
theorem dX6_place_57 : decode cX6_place 57 = .ok (.getfield 67, 3) := by decide +kernel
theorem dX6_place_60 : decode cX6_place 60 = .ok (.if_icmp .ge 109, 3) := by decide +kernel
theorem dX6_place_63 : decode cX6_place 63 = .ok (.aload_n 0, 1) := by decide +kernel
theorem dX6_place_64 : decode cX6_place 64 = .ok (.getfield 15, 3) := by decide +kernel
theorem dX6_place_67 : decode cX6_place 67 = .ok (.iload 5, 2) := by decide +kernel
theorem dX6_place_69 : decode cX6_place 69 = .ok (.iaload, 1) := by decide +kernel
theorem dX6_place_70 : decode cX6_place 70 = .ok (.iconst (-1), 1) := by decide +kernel
theorem dX6_place_71 : decode cX6_place 71 = .ok (.if_icmp .ne 92, 3) := by decide +kernel
theorem dX6_place_74 : decode cX6_place 74 = .ok (.aload_n 0, 1) := by decide +kernel
theorem dX6_place_75 : decode cX6_place 75 = .ok (.getfield 20, 3) := by decide +kernel
theorem dX6_place_78 : decode cX6_place 78 = .ok (.iload_n 1, 1) := by decide +kernel
theorem dX6_place_79 : decode cX6_place 79 = .ok (.aaload, 1) := by decide +kernel
theorem dX6_place_80 : decode cX6_place 80 = .ok (.iload 5, 2) := by decide +kernel
theorem dX6_place_82 : decode cX6_place 82 = .ok (.iaload, 1) := by decide +kernel
theorem dX6_place_83 : decode cX6_place 83 = .ok (.iconst (-1), 1) := by decide +kernel
theorem dX6_place_84 : decode cX6_place 84 = .ok (.if_icmp .eq 79, 3) := by decide +kernel
theorem dX6_place_87 : decode cX6_place 87 = .ok (.aload_n 0, 1) := by decide +kernel
theorem dX6_place_88 : decode cX6_place 88 = .ok (.getfield 23, 3) := by decide +kernel
theorem dX6_place_91 : decode cX6_place 91 = .ok (.iload_n 1, 1) := by decide +kernel
theorem dX6_place_92 : decode cX6_place 92 = .ok (.iaload, 1) := by decide +kernel
theorem dX6_place_93 : decode cX6_place 93 = .ok (.aload_n 0, 1) := by decide +kernel
theorem dX6_place_94 : decode cX6_place 94 = .ok (.getfield 23, 3) := by decide +kernel
theorem dX6_place_97 : decode cX6_place 97 = .ok (.iload 5, 2) := by decide +kernel
theorem dX6_place_99 : decode cX6_place 99 = .ok (.iaload, 1) := by decide +kernel
theorem dX6_place_100 : decode cX6_place 100 = .ok (.isub, 1) := by decide +kernel
theorem dX6_place_101 : decode cX6_place 101 = .ok (.invokestatic 89, 3) := by decide +kernel
theorem dX6_place_104 : decode cX6_place 104 = .ok (.istore 6, 2) := by decide +kernel
theorem dX6_place_106 : decode cX6_place 106 = .ok (.aload_n 0, 1) := by decide +kernel
theorem dX6_place_107 : decode cX6_place 107 = .ok (.getfield 15, 3) := by decide +kernel
theorem dX6_place_110 : decode cX6_place 110 = .ok (.iload_n 1, 1) := by decide +kernel
theorem dX6_place_111 : decode cX6_place 111 = .ok (.iload 5, 2) := by decide +kernel
theorem dX6_place_113 : decode cX6_place 113 = .ok (.iastore, 1) := by decide +kernel
theorem dX6_place_114 : decode cX6_place 114 = .ok (.aload_n 0, 1) := by decide +kernel
theorem dX6_place_115 : decode cX6_place 115 = .ok (.getfield 15, 3) := by decide +kernel
theorem dX6_place_118 : decode cX6_place 118 = .ok (.iload 5, 2) := by decide +kernel
theorem dX6_place_120 : decode cX6_place 120 = .ok (.iload_n 1, 1) := by decide +kernel
theorem dX6_place_121 : decode cX6_place 121 = .ok (.iastore, 1) := by decide +kernel
theorem dX6_place_122 : decode cX6_place 122 = .ok (.aload_n 0, 1) := by decide +kernel
theorem dX6_place_123 : decode cX6_place 123 = .ok (.iload_n 1, 1) := by decide +kernel
theorem dX6_place_124 : decode cX6_place 124 = .ok (.iconst 1, 1) := by decide +kernel
theorem dX6_place_125 : decode cX6_place 125 = .ok (.iadd, 1) := by decide +kernel
theorem dX6_place_126 : decode cX6_place 126 = .ok (.iload_n 2, 1) := by decide +kernel
theorem dX6_place_127 : decode cX6_place 127 = .ok (.iconst 1, 1) := by decide +kernel
theorem dX6_place_128 : decode cX6_place 128 = .ok (.iadd, 1) := by decide +kernel
theorem dX6_place_129 : decode cX6_place 129 = .ok (.iload_n 3, 1) := by decide +kernel
theorem dX6_place_130 : decode cX6_place 130 = .ok (.aload_n 0, 1) := by decide +kernel
theorem dX6_place_131 : decode cX6_place 131 = .ok (.getfield 20, 3) := by decide +kernel
theorem dX6_place_134 : decode cX6_place 134 = .ok (.iload_n 1, 1) := by decide +kernel
theorem dX6_place_135 : decode cX6_place 135 = .ok (.aaload, 1) := by decide +kernel
theorem dX6_place_136 : decode cX6_place 136 = .ok (.iload 5, 2) := by decide +kernel
theorem dX6_place_138 : decode cX6_place 138 = .ok (.iaload, 1) := by decide +kernel
theorem dX6_place_139 : decode cX6_place 139 = .ok (.iadd, 1) := by decide +kernel
theorem dX6_place_140 : decode cX6_place 140 = .ok (.iload 4, 2) := by decide +kernel
theorem dX6_place_142 : decode cX6_place 142 = .ok (.iload 6, 2) := by decide +kernel
theorem dX6_place_144 : decode cX6_place 144 = .ok (.iadd, 1) := by decide +kernel
theorem dX6_place_145 : decode cX6_place 145 = .ok (.invokevirtual 58, 3) := by decide +kernel
theorem dX6_place_148 : decode cX6_place 148 = .ok (.aload_n 0, 1) := by decide +kernel
theorem dX6_place_149 : decode cX6_place 149 = .ok (.getfield 15, 3) := by decide +kernel
theorem dX6_place_152 : decode cX6_place 152 = .ok (.iload_n 1, 1) := by decide +kernel
theorem dX6_place_153 : decode cX6_place 153 = .ok (.iconst (-1), 1) := by decide +kernel
theorem dX6_place_154 : decode cX6_place 154 = .ok (.iastore, 1) := by decide +kernel
theorem dX6_place_155 : decode cX6_place 155 = .ok (.aload_n 0, 1) := by decide +kernel
theorem dX6_place_156 : decode cX6_place 156 = .ok (.getfield 15, 3) := by decide +kernel
theorem dX6_place_159 : decode cX6_place 159 = .ok (.iload 5, 2) := by decide +kernel
theorem dX6_place_161 : decode cX6_place 161 = .ok (.iconst (-1), 1) := by decide +kernel
theorem dX6_place_162 : decode cX6_place 162 = .ok (.iastore, 1) := by decide +kernel
theorem dX6_place_163 : decode cX6_place 163 = .ok (.iinc 5 1, 3) := by decide +kernel
theorem dX6_place_166 : decode cX6_place 166 = .ok (.goto (-112), 3) := by decide +kernel
theorem dX6_place_169 : decode cX6_place 169 = .ok (.return_, 1) := by decide +kernel
theorem dX6_judge_0 : decode cX6_judge 0 = .ok (.aload_n 0, 1) := by decide +kernel
theorem dX6_judge_1 : decode cX6_judge 1 = .ok (.getfield 26, 3) := by decide +kernel
theorem dX6_judge_4 : decode cX6_judge 4 = .ok (.iconst 2, 1) := by decide +kernel
theorem dX6_judge_5 : decode cX6_judge 5 = .ok (.if_icmp .ne 11, 3) := by decide +kernel
theorem dX6_judge_8 : decode cX6_judge 8 = .ok (.aload_n 0, 1) := by decide +kernel
theorem dX6_judge_9 : decode cX6_judge 9 = .ok (.invokevirtual 95, 3) := by decide +kernel
theorem dX6_judge_12 : decode cX6_judge 12 = .ok (.ifCond .eq 4, 3) := by decide +kernel
theorem dX6_judge_15 : decode cX6_judge 15 = .ok (.return_, 1) := by decide +kernel
theorem dX6_judge_16 : decode cX6_judge 16 = .ok (.aload_n 0, 1) := by decide +kernel
theorem dX6_judge_17 : decode cX6_judge 17 = .ok (.dup, 1) := by decide +kernel
theorem dX6_judge_18 : decode cX6_judge 18 = .ok (.getfield 33, 3) := by decide +kernel
theorem dX6_judge_21 : decode cX6_judge 21 = .ok (.iconst 1, 1) := by decide +kernel
theorem dX6_judge_22 : decode cX6_judge 22 = .ok (.iadd, 1) := by decide +kernel
theorem dX6_judge_23 : decode cX6_judge 23 = .ok (.putfield 33, 3) := by decide +kernel
theorem dX6_judge_26 : decode cX6_judge 26 = .ok (.aload_n 0, 1) := by decide +kernel
theorem dX6_judge_27 : decode cX6_judge 27 = .ok (.iload_n 1, 1) := by decide +kernel
theorem dX6_judge_28 : decode cX6_judge 28 = .ok (.iload_n 2, 1) := by decide +kernel
theorem dX6_judge_29 : decode cX6_judge 29 = .ok (.iload_n 3, 1) := by decide +kernel
theorem dX6_judge_30 : decode cX6_judge 30 = .ok (.invokevirtual 99, 3) := by decide +kernel
theorem dX6_judge_33 : decode cX6_judge 33 = .ok (.istore 4, 2) := by decide +kernel
theorem dX6_judge_35 : decode cX6_judge 35 = .ok (.aload_n 0, 1) := by decide +kernel
theorem dX6_judge_36 : decode cX6_judge 36 = .ok (.getfield 33, 3) := by decide +kernel
theorem dX6_judge_39 : decode cX6_judge 39 = .ok (.iconst 1, 1) := by decide +kernel
theorem dX6_judge_40 : decode cX6_judge 40 = .ok (.if_icmp .eq 12, 3) := by decide +kernel
theorem dX6_judge_43 : decode cX6_judge 43 = .ok (.iload 4, 2) := by decide +kernel
theorem dX6_judge_45 : decode cX6_judge 45 = .ok (.aload_n 0, 1) := by decide +kernel
theorem dX6_judge_46 : decode cX6_judge 46 = .ok (.getfield 45, 3) := by decide +kernel
theorem dX6_judge_49 : decode cX6_judge 49 = .ok (.if_icmp .le 39, 3) := by decide +kernel
theorem dX6_judge_52 : decode cX6_judge 52 = .ok (.aload_n 0, 1) := by decide +kernel
theorem dX6_judge_53 : decode cX6_judge 53 = .ok (.iload 4, 2) := by decide +kernel
theorem dX6_judge_55 : decode cX6_judge 55 = .ok (.putfield 45, 3) := by decide +kernel
theorem dX6_judge_58 : decode cX6_judge 58 = .ok (.aload_n 0, 1) := by decide +kernel
theorem dX6_judge_59 : decode cX6_judge 59 = .ok (.iload_n 1, 1) := by decide +kernel
theorem dX6_judge_60 : decode cX6_judge 60 = .ok (.putfield 36, 3) := by decide +kernel
theorem dX6_judge_63 : decode cX6_judge 63 = .ok (.aload_n 0, 1) := by decide +kernel
theorem dX6_judge_64 : decode cX6_judge 64 = .ok (.iload_n 2, 1) := by decide +kernel
theorem dX6_judge_65 : decode cX6_judge 65 = .ok (.putfield 39, 3) := by decide +kernel
theorem dX6_judge_68 : decode cX6_judge 68 = .ok (.aload_n 0, 1) := by decide +kernel
theorem dX6_judge_69 : decode cX6_judge 69 = .ok (.iload_n 3, 1) := by decide +kernel
theorem dX6_judge_70 : decode cX6_judge 70 = .ok (.putfield 42, 3) := by decide +kernel
theorem dX6_judge_73 : decode cX6_judge 73 = .ok (.aload_n 0, 1) := by decide +kernel
theorem dX6_judge_74 : decode cX6_judge 74 = .ok (.getfield 15, 3) := by decide +kernel
theorem dX6_judge_77 : decode cX6_judge 77 = .ok (.iconst 0, 1) := by decide +kernel
theorem dX6_judge_78 : decode cX6_judge 78 = .ok (.aload_n 0, 1) := by decide +kernel
theorem dX6_judge_79 : decode cX6_judge 79 = .ok (.getfield 9, 3) := by decide +kernel
theorem dX6_judge_82 : decode cX6_judge 82 = .ok (.iconst 0, 1) := by decide +kernel
theorem dX6_judge_83 : decode cX6_judge 83 = .ok (.bipush 7, 2) := by decide +kernel
theorem dX6_judge_85 : decode cX6_judge 85 = .ok (.invokestatic 103, 3) := by decide +kernel
theorem dX6_judge_88 : decode cX6_judge 88 = .ok (.return_, 1) := by decide +kernel
theorem dX6_rankOf_0 : decode cX6_rankOf 0 = .ok (.aload_n 0, 1) := by decide +kernel
theorem dX6_rankOf_1 : decode cX6_rankOf 1 = .ok (.getfield 26, 3) := by decide +kernel
theorem dX6_rankOf_4 : decode cX6_rankOf 4 = .ok (.lookupswitch 44 #[(0, 28), (1, 36)], 28) := by decide +kernel
theorem dX6_rankOf_32 : decode cX6_rankOf 32 = .ok (.iload_n 1, 1) := by decide +kernel
theorem dX6_rankOf_33 : decode cX6_rankOf 33 = .ok (.sipush 1000, 3) := by decide +kernel
theorem dX6_rankOf_36 : decode cX6_rankOf 36 = .ok (.imul, 1) := by decide +kernel
theorem dX6_rankOf_37 : decode cX6_rankOf 37 = .ok (.iload_n 2, 1) := by decide +kernel
theorem dX6_rankOf_38 : decode cX6_rankOf 38 = .ok (.iadd, 1) := by decide +kernel
theorem dX6_rankOf_39 : decode cX6_rankOf 39 = .ok (.ireturn, 1) := by decide +kernel
theorem dX6_rankOf_40 : decode cX6_rankOf 40 = .ok (.iload_n 2, 1) := by decide +kernel
theorem dX6_rankOf_41 : decode cX6_rankOf 41 = .ok (.sipush 1000, 3) := by decide +kernel
theorem dX6_rankOf_44 : decode cX6_rankOf 44 = .ok (.imul, 1) := by decide +kernel
theorem dX6_rankOf_45 : decode cX6_rankOf 45 = .ok (.iload_n 3, 1) := by decide +kernel
theorem dX6_rankOf_46 : decode cX6_rankOf 46 = .ok (.isub, 1) := by decide +kernel
theorem dX6_rankOf_47 : decode cX6_rankOf 47 = .ok (.ireturn, 1) := by decide +kernel
theorem dX6_rankOf_48 : decode cX6_rankOf 48 = .ok (.iconst 0, 1) := by decide +kernel
theorem dX6_rankOf_49 : decode cX6_rankOf 49 = .ok (.ireturn, 1) := by decide +kernel
theorem dX6_isBlocked_0 : decode cX6_isBlocked 0 = .ok (.iconst 0, 1) := by decide +kernel
theorem dX6_isBlocked_1 : decode cX6_isBlocked 1 = .ok (.istore_n 1, 1) := by decide +kernel
theorem dX6_isBlocked_2 : decode cX6_isBlocked 2 = .ok (.iload_n 1, 1) := by decide +kernel
theorem dX6_isBlocked_3 : decode cX6_isBlocked 3 = .ok (.aload_n 0, 1) := by decide +kernel
theorem dX6_isBlocked_4 : decode cX6_isBlocked 4 = .ok (.getfield 67, 3) := by decide +kernel
theorem dX6_isBlocked_7 : decode cX6_isBlocked 7 = .ok (.if_icmp .ge 69, 3) := by decide +kernel
theorem dX6_isBlocked_10 : decode cX6_isBlocked 10 = .ok (.iload_n 1, 1) := by decide +kernel
theorem dX6_isBlocked_11 : decode cX6_isBlocked 11 = .ok (.iconst 1, 1) := by decide +kernel
theorem dX6_isBlocked_12 : decode cX6_isBlocked 12 = .ok (.iadd, 1) := by decide +kernel
theorem dX6_isBlocked_13 : decode cX6_isBlocked 13 = .ok (.istore_n 2, 1) := by decide +kernel
theorem dX6_isBlocked_14 : decode cX6_isBlocked 14 = .ok (.iload_n 2, 1) := by decide +kernel
theorem dX6_isBlocked_15 : decode cX6_isBlocked 15 = .ok (.aload_n 0, 1) := by decide +kernel
theorem dX6_isBlocked_16 : decode cX6_isBlocked 16 = .ok (.getfield 67, 3) := by decide +kernel
theorem dX6_isBlocked_19 : decode cX6_isBlocked 19 = .ok (.if_icmp .ge 51, 3) := by decide +kernel
theorem dX6_isBlocked_22 : decode cX6_isBlocked 22 = .ok (.aload_n 0, 1) := by decide +kernel
theorem dX6_isBlocked_23 : decode cX6_isBlocked 23 = .ok (.getfield 20, 3) := by decide +kernel
theorem dX6_isBlocked_26 : decode cX6_isBlocked 26 = .ok (.iload_n 1, 1) := by decide +kernel
theorem dX6_isBlocked_27 : decode cX6_isBlocked 27 = .ok (.aaload, 1) := by decide +kernel
theorem dX6_isBlocked_28 : decode cX6_isBlocked 28 = .ok (.iload_n 2, 1) := by decide +kernel
theorem dX6_isBlocked_29 : decode cX6_isBlocked 29 = .ok (.iaload, 1) := by decide +kernel
theorem dX6_isBlocked_30 : decode cX6_isBlocked 30 = .ok (.iconst (-1), 1) := by decide +kernel
theorem dX6_isBlocked_31 : decode cX6_isBlocked 31 = .ok (.if_icmp .eq 33, 3) := by decide +kernel
theorem dX6_isBlocked_34 : decode cX6_isBlocked 34 = .ok (.aload_n 0, 1) := by decide +kernel
theorem dX6_isBlocked_35 : decode cX6_isBlocked 35 = .ok (.getfield 15, 3) := by decide +kernel
theorem dX6_isBlocked_38 : decode cX6_isBlocked 38 = .ok (.iload_n 1, 1) := by decide +kernel
theorem dX6_isBlocked_39 : decode cX6_isBlocked 39 = .ok (.iaload, 1) := by decide +kernel
theorem dX6_isBlocked_40 : decode cX6_isBlocked 40 = .ok (.iload_n 2, 1) := by decide +kernel
theorem dX6_isBlocked_41 : decode cX6_isBlocked 41 = .ok (.if_icmp .eq 23, 3) := by decide +kernel
theorem dX6_isBlocked_44 : decode cX6_isBlocked 44 = .ok (.aload_n 0, 1) := by decide +kernel
theorem dX6_isBlocked_45 : decode cX6_isBlocked 45 = .ok (.iload_n 1, 1) := by decide +kernel
theorem dX6_isBlocked_46 : decode cX6_isBlocked 46 = .ok (.iload_n 2, 1) := by decide +kernel
theorem dX6_isBlocked_47 : decode cX6_isBlocked 47 = .ok (.invokevirtual 109, 3) := by decide +kernel
theorem dX6_isBlocked_50 : decode cX6_isBlocked 50 = .ok (.ifCond .eq 14, 3) := by decide +kernel
theorem dX6_isBlocked_53 : decode cX6_isBlocked 53 = .ok (.aload_n 0, 1) := by decide +kernel
theorem dX6_isBlocked_54 : decode cX6_isBlocked 54 = .ok (.iload_n 2, 1) := by decide +kernel
theorem dX6_isBlocked_55 : decode cX6_isBlocked 55 = .ok (.iload_n 1, 1) := by decide +kernel
theorem dX6_isBlocked_56 : decode cX6_isBlocked 56 = .ok (.invokevirtual 109, 3) := by decide +kernel
theorem dX6_isBlocked_59 : decode cX6_isBlocked 59 = .ok (.ifCond .eq 5, 3) := by decide +kernel
theorem dX6_isBlocked_62 : decode cX6_isBlocked 62 = .ok (.iconst 1, 1) := by decide +kernel
theorem dX6_isBlocked_63 : decode cX6_isBlocked 63 = .ok (.ireturn, 1) := by decide +kernel
theorem dX6_isBlocked_64 : decode cX6_isBlocked 64 = .ok (.iinc 2 1, 3) := by decide +kernel
theorem dX6_isBlocked_67 : decode cX6_isBlocked 67 = .ok (.goto (-53), 3) := by decide +kernel
theorem dX6_isBlocked_70 : decode cX6_isBlocked 70 = .ok (.iinc 1 1, 3) := by decide +kernel
theorem dX6_isBlocked_73 : decode cX6_isBlocked 73 = .ok (.goto (-71), 3) := by decide +kernel
theorem dX6_isBlocked_76 : decode cX6_isBlocked 76 = .ok (.iconst 0, 1) := by decide +kernel
theorem dX6_isBlocked_77 : decode cX6_isBlocked 77 = .ok (.ireturn, 1) := by decide +kernel
theorem dX6_wouldLeaveFor_0 : decode cX6_wouldLeaveFor 0 = .ok (.aload_n 0, 1) := by decide +kernel
theorem dX6_wouldLeaveFor_1 : decode cX6_wouldLeaveFor 1 = .ok (.getfield 15, 3) := by decide +kernel
theorem dX6_wouldLeaveFor_4 : decode cX6_wouldLeaveFor 4 = .ok (.iload_n 1, 1) := by decide +kernel
theorem dX6_wouldLeaveFor_5 : decode cX6_wouldLeaveFor 5 = .ok (.iaload, 1) := by decide +kernel
theorem dX6_wouldLeaveFor_6 : decode cX6_wouldLeaveFor 6 = .ok (.istore_n 3, 1) := by decide +kernel
theorem dX6_wouldLeaveFor_7 : decode cX6_wouldLeaveFor 7 = .ok (.iload_n 3, 1) := by decide +kernel
theorem dX6_wouldLeaveFor_8 : decode cX6_wouldLeaveFor 8 = .ok (.ifCond .lt 11, 3) := by decide +kernel
theorem dX6_wouldLeaveFor_11 : decode cX6_wouldLeaveFor 11 = .ok (.iload_n 3, 1) := by decide +kernel
theorem dX6_wouldLeaveFor_12 : decode cX6_wouldLeaveFor 12 = .ok (.aload_n 0, 1) := by decide +kernel
theorem dX6_wouldLeaveFor_13 : decode cX6_wouldLeaveFor 13 = .ok (.getfield 67, 3) := by decide +kernel
theorem dX6_wouldLeaveFor_16 : decode cX6_wouldLeaveFor 16 = .ok (.if_icmp .lt 5, 3) := by decide +kernel
theorem dX6_wouldLeaveFor_19 : decode cX6_wouldLeaveFor 19 = .ok (.iconst 1, 1) := by decide +kernel
theorem dX6_wouldLeaveFor_20 : decode cX6_wouldLeaveFor 20 = .ok (.ireturn, 1) := by decide +kernel
theorem dX6_wouldLeaveFor_21 : decode cX6_wouldLeaveFor 21 = .ok (.aload_n 0, 1) := by decide +kernel
theorem dX6_wouldLeaveFor_22 : decode cX6_wouldLeaveFor 22 = .ok (.getfield 20, 3) := by decide +kernel
theorem dX6_wouldLeaveFor_25 : decode cX6_wouldLeaveFor 25 = .ok (.iload_n 1, 1) := by decide +kernel
theorem dX6_wouldLeaveFor_26 : decode cX6_wouldLeaveFor 26 = .ok (.aaload, 1) := by decide +kernel
theorem dX6_wouldLeaveFor_27 : decode cX6_wouldLeaveFor 27 = .ok (.iload_n 2, 1) := by decide +kernel
theorem dX6_wouldLeaveFor_28 : decode cX6_wouldLeaveFor 28 = .ok (.iaload, 1) := by decide +kernel
theorem dX6_wouldLeaveFor_29 : decode cX6_wouldLeaveFor 29 = .ok (.aload_n 0, 1) := by decide +kernel
theorem dX6_wouldLeaveFor_30 : decode cX6_wouldLeaveFor 30 = .ok (.getfield 20, 3) := by decide +kernel
theorem dX6_wouldLeaveFor_33 : decode cX6_wouldLeaveFor 33 = .ok (.iload_n 1, 1) := by decide +kernel
theorem dX6_wouldLeaveFor_34 : decode cX6_wouldLeaveFor 34 = .ok (.aaload, 1) := by decide +kernel
theorem dX6_wouldLeaveFor_35 : decode cX6_wouldLeaveFor 35 = .ok (.iload_n 3, 1) := by decide +kernel
theorem dX6_wouldLeaveFor_36 : decode cX6_wouldLeaveFor 36 = .ok (.iaload, 1) := by decide +kernel
theorem dX6_wouldLeaveFor_37 : decode cX6_wouldLeaveFor 37 = .ok (.isub, 1) := by decide +kernel
theorem dX6_wouldLeaveFor_38 : decode cX6_wouldLeaveFor 38 = .ok (.istore 4, 2) := by decide +kernel
theorem dX6_wouldLeaveFor_40 : decode cX6_wouldLeaveFor 40 = .ok (.iload 4, 2) := by decide +kernel
theorem dX6_wouldLeaveFor_42 : decode cX6_wouldLeaveFor 42 = .ok (.ifCond .gt 13, 3) := by decide +kernel
theorem dX6_wouldLeaveFor_45 : decode cX6_wouldLeaveFor 45 = .ok (.iload 4, 2) := by decide +kernel
theorem dX6_wouldLeaveFor_47 : decode cX6_wouldLeaveFor 47 = .ok (.ifCond .ne 12, 3) := by decide +kernel
theorem dX6_wouldLeaveFor_50 : decode cX6_wouldLeaveFor 50 = .ok (.iload_n 2, 1) := by decide +kernel
theorem dX6_wouldLeaveFor_51 : decode cX6_wouldLeaveFor 51 = .ok (.iload_n 3, 1) := by decide +kernel
theorem dX6_wouldLeaveFor_52 : decode cX6_wouldLeaveFor 52 = .ok (.if_icmp .ge 7, 3) := by decide +kernel
theorem dX6_wouldLeaveFor_55 : decode cX6_wouldLeaveFor 55 = .ok (.iconst 1, 1) := by decide +kernel
theorem dX6_wouldLeaveFor_56 : decode cX6_wouldLeaveFor 56 = .ok (.goto 4, 3) := by decide +kernel
theorem dX6_wouldLeaveFor_59 : decode cX6_wouldLeaveFor 59 = .ok (.iconst 0, 1) := by decide +kernel
theorem dX6_wouldLeaveFor_60 : decode cX6_wouldLeaveFor 60 = .ok (.ireturn, 1) := by decide +kernel
theorem dX7_init_0 : decode cX7_init 0 = .ok (.aload_n 0, 1) := by decide +kernel
theorem dX7_init_1 : decode cX7_init 1 = .ok (.invokespecial 3, 3) := by decide +kernel
theorem dX7_init_4 : decode cX7_init 4 = .ok (.aload_n 0, 1) := by decide +kernel
theorem dX7_init_5 : decode cX7_init 5 = .ok (.iconst 0, 1) := by decide +kernel
theorem dX7_init_6 : decode cX7_init 6 = .ok (.putfield 9, 3) := by decide +kernel
theorem dX7_init_9 : decode cX7_init 9 = .ok (.aload_n 0, 1) := by decide +kernel
theorem dX7_init_10 : decode cX7_init 10 = .ok (.bipush 8, 2) := by decide +kernel
theorem dX7_init_12 : decode cX7_init 12 = .ok (.newarray .int, 2) := by decide +kernel
theorem dX7_init_14 : decode cX7_init 14 = .ok (.putfield 15, 3) := by decide +kernel
theorem dX7_init_17 : decode cX7_init 17 = .ok (.aload_n 0, 1) := by decide +kernel
theorem dX7_init_18 : decode cX7_init 18 = .ok (.bipush 8, 2) := by decide +kernel
theorem dX7_init_20 : decode cX7_init 20 = .ok (.newarray .int, 2) := by decide +kernel
theorem dX7_init_22 : decode cX7_init 22 = .ok (.putfield 19, 3) := by decide +kernel
theorem dX7_init_25 : decode cX7_init 25 = .ok (.aload_n 0, 1) := by decide +kernel
theorem dX7_init_26 : decode cX7_init 26 = .ok (.bipush 8, 2) := by decide +kernel
theorem dX7_init_28 : decode cX7_init 28 = .ok (.newarray .int, 2) := by decide +kernel
theorem dX7_init_30 : decode cX7_init 30 = .ok (.putfield 22, 3) := by decide +kernel
theorem dX7_init_33 : decode cX7_init 33 = .ok (.aload_n 0, 1) := by decide +kernel
theorem dX7_init_34 : decode cX7_init 34 = .ok (.bipush 20, 2) := by decide +kernel
theorem dX7_init_36 : decode cX7_init 36 = .ok (.newarray .int, 2) := by decide +kernel
theorem dX7_init_38 : decode cX7_init 38 = .ok (.putfield 25, 3) := by decide +kernel
theorem dX7_init_41 : decode cX7_init 41 = .ok (.return_, 1) := by decide +kernel
theorem dX7_note_0 : decode cX7_note 0 = .ok (.aload_n 0, 1) := by decide +kernel
theorem dX7_note_1 : decode cX7_note 1 = .ok (.getfield 9, 3) := by decide +kernel
theorem dX7_note_4 : decode cX7_note 4 = .ok (.bipush 8, 2) := by decide +kernel
theorem dX7_note_6 : decode cX7_note 6 = .ok (.if_icmp .lt 5, 3) := by decide +kernel
theorem dX7_note_9 : decode cX7_note 9 = .ok (.iconst 0, 1) := by decide +kernel
theorem dX7_note_10 : decode cX7_note 10 = .ok (.ireturn, 1) := by decide +kernel
theorem dX7_note_11 : decode cX7_note 11 = .ok (.aload_n 0, 1) := by decide +kernel
theorem dX7_note_12 : decode cX7_note 12 = .ok (.getfield 15, 3) := by decide +kernel
theorem dX7_note_15 : decode cX7_note 15 = .ok (.aload_n 0, 1) := by decide +kernel
theorem dX7_note_16 : decode cX7_note 16 = .ok (.getfield 9, 3) := by decide +kernel
theorem dX7_note_19 : decode cX7_note 19 = .ok (.iload_n 1, 1) := by decide +kernel
theorem dX7_note_20 : decode cX7_note 20 = .ok (.iastore, 1) := by decide +kernel
theorem dX7_note_21 : decode cX7_note 21 = .ok (.aload_n 0, 1) := by decide +kernel
theorem dX7_note_22 : decode cX7_note 22 = .ok (.getfield 19, 3) := by decide +kernel
theorem dX7_note_25 : decode cX7_note 25 = .ok (.aload_n 0, 1) := by decide +kernel
theorem dX7_note_26 : decode cX7_note 26 = .ok (.getfield 9, 3) := by decide +kernel
theorem dX7_note_29 : decode cX7_note 29 = .ok (.iload_n 2, 1) := by decide +kernel
theorem dX7_note_30 : decode cX7_note 30 = .ok (.iastore, 1) := by decide +kernel
theorem dX7_note_31 : decode cX7_note 31 = .ok (.aload_n 0, 1) := by decide +kernel
theorem dX7_note_32 : decode cX7_note 32 = .ok (.getfield 22, 3) := by decide +kernel
theorem dX7_note_35 : decode cX7_note 35 = .ok (.aload_n 0, 1) := by decide +kernel
theorem dX7_note_36 : decode cX7_note 36 = .ok (.getfield 9, 3) := by decide +kernel
theorem dX7_note_39 : decode cX7_note 39 = .ok (.iload_n 3, 1) := by decide +kernel
theorem dX7_note_40 : decode cX7_note 40 = .ok (.iastore, 1) := by decide +kernel
theorem dX7_note_41 : decode cX7_note 41 = .ok (.aload_n 0, 1) := by decide +kernel
theorem dX7_note_42 : decode cX7_note 42 = .ok (.dup, 1) := by decide +kernel
theorem dX7_note_43 : decode cX7_note 43 = .ok (.getfield 9, 3) := by decide +kernel
theorem dX7_note_46 : decode cX7_note 46 = .ok (.iconst 1, 1) := by decide +kernel
theorem dX7_note_47 : decode cX7_note 47 = .ok (.iadd, 1) := by decide +kernel
theorem dX7_note_48 : decode cX7_note 48 = .ok (.putfield 9, 3) := by decide +kernel
theorem dX7_note_51 : decode cX7_note 51 = .ok (.iconst 1, 1) := by decide +kernel
theorem dX7_note_52 : decode cX7_note 52 = .ok (.ireturn, 1) := by decide +kernel
theorem dX7_clear_0 : decode cX7_clear 0 = .ok (.aload_n 0, 1) := by decide +kernel
theorem dX7_clear_1 : decode cX7_clear 1 = .ok (.iconst 0, 1) := by decide +kernel
theorem dX7_clear_2 : decode cX7_clear 2 = .ok (.putfield 9, 3) := by decide +kernel
theorem dX7_clear_5 : decode cX7_clear 5 = .ok (.return_, 1) := by decide +kernel
theorem dX7_copyFrom_0 : decode cX7_copyFrom 0 = .ok (.aload_n 0, 1) := by decide +kernel
theorem dX7_copyFrom_1 : decode cX7_copyFrom 1 = .ok (.aload_n 1, 1) := by decide +kernel
theorem dX7_copyFrom_2 : decode cX7_copyFrom 2 = .ok (.getfield 9, 3) := by decide +kernel
theorem dX7_copyFrom_5 : decode cX7_copyFrom 5 = .ok (.putfield 9, 3) := by decide +kernel
theorem dX7_copyFrom_8 : decode cX7_copyFrom 8 = .ok (.iconst 0, 1) := by decide +kernel
theorem dX7_copyFrom_9 : decode cX7_copyFrom 9 = .ok (.istore_n 2, 1) := by decide +kernel
theorem dX7_copyFrom_10 : decode cX7_copyFrom 10 = .ok (.iload_n 2, 1) := by decide +kernel
theorem dX7_copyFrom_11 : decode cX7_copyFrom 11 = .ok (.aload_n 0, 1) := by decide +kernel
theorem dX7_copyFrom_12 : decode cX7_copyFrom 12 = .ok (.getfield 9, 3) := by decide +kernel
theorem dX7_copyFrom_15 : decode cX7_copyFrom 15 = .ok (.if_icmp .ge 45, 3) := by decide +kernel
theorem dX7_copyFrom_18 : decode cX7_copyFrom 18 = .ok (.aload_n 0, 1) := by decide +kernel
theorem dX7_copyFrom_19 : decode cX7_copyFrom 19 = .ok (.getfield 15, 3) := by decide +kernel
theorem dX7_copyFrom_22 : decode cX7_copyFrom 22 = .ok (.iload_n 2, 1) := by decide +kernel
theorem dX7_copyFrom_23 : decode cX7_copyFrom 23 = .ok (.aload_n 1, 1) := by decide +kernel
theorem dX7_copyFrom_24 : decode cX7_copyFrom 24 = .ok (.getfield 15, 3) := by decide +kernel
theorem dX7_copyFrom_27 : decode cX7_copyFrom 27 = .ok (.iload_n 2, 1) := by decide +kernel
theorem dX7_copyFrom_28 : decode cX7_copyFrom 28 = .ok (.iaload, 1) := by decide +kernel
theorem dX7_copyFrom_29 : decode cX7_copyFrom 29 = .ok (.iastore, 1) := by decide +kernel
theorem dX7_copyFrom_30 : decode cX7_copyFrom 30 = .ok (.aload_n 0, 1) := by decide +kernel
theorem dX7_copyFrom_31 : decode cX7_copyFrom 31 = .ok (.getfield 19, 3) := by decide +kernel
theorem dX7_copyFrom_34 : decode cX7_copyFrom 34 = .ok (.iload_n 2, 1) := by decide +kernel
theorem dX7_copyFrom_35 : decode cX7_copyFrom 35 = .ok (.aload_n 1, 1) := by decide +kernel
theorem dX7_copyFrom_36 : decode cX7_copyFrom 36 = .ok (.getfield 19, 3) := by decide +kernel
theorem dX7_copyFrom_39 : decode cX7_copyFrom 39 = .ok (.iload_n 2, 1) := by decide +kernel
theorem dX7_copyFrom_40 : decode cX7_copyFrom 40 = .ok (.iaload, 1) := by decide +kernel
theorem dX7_copyFrom_41 : decode cX7_copyFrom 41 = .ok (.iastore, 1) := by decide +kernel
theorem dX7_copyFrom_42 : decode cX7_copyFrom 42 = .ok (.aload_n 0, 1) := by decide +kernel
theorem dX7_copyFrom_43 : decode cX7_copyFrom 43 = .ok (.getfield 22, 3) := by decide +kernel
theorem dX7_copyFrom_46 : decode cX7_copyFrom 46 = .ok (.iload_n 2, 1) := by decide +kernel
theorem dX7_copyFrom_47 : decode cX7_copyFrom 47 = .ok (.aload_n 1, 1) := by decide +kernel
theorem dX7_copyFrom_48 : decode cX7_copyFrom 48 = .ok (.getfield 22, 3) := by decide +kernel
theorem dX7_copyFrom_51 : decode cX7_copyFrom 51 = .ok (.iload_n 2, 1) := by decide +kernel
theorem dX7_copyFrom_52 : decode cX7_copyFrom 52 = .ok (.iaload, 1) := by decide +kernel
theorem dX7_copyFrom_53 : decode cX7_copyFrom 53 = .ok (.iastore, 1) := by decide +kernel
theorem dX7_copyFrom_54 : decode cX7_copyFrom 54 = .ok (.iinc 2 1, 3) := by decide +kernel
theorem dX7_copyFrom_57 : decode cX7_copyFrom 57 = .ok (.goto (-47), 3) := by decide +kernel
theorem dX7_copyFrom_60 : decode cX7_copyFrom 60 = .ok (.return_, 1) := by decide +kernel
theorem dX7_sizesOf_0 : decode cX7_sizesOf 0 = .ok (.iconst 0, 1) := by decide +kernel
theorem dX7_sizesOf_1 : decode cX7_sizesOf 1 = .ok (.istore_n 3, 1) := by decide +kernel
theorem dX7_sizesOf_2 : decode cX7_sizesOf 2 = .ok (.iconst 0, 1) := by decide +kernel
theorem dX7_sizesOf_3 : decode cX7_sizesOf 3 = .ok (.istore 4, 2) := by decide +kernel
theorem dX7_sizesOf_5 : decode cX7_sizesOf 5 = .ok (.iload 4, 2) := by decide +kernel
theorem dX7_sizesOf_7 : decode cX7_sizesOf 7 = .ok (.bipush 10, 2) := by decide +kernel
theorem dX7_sizesOf_9 : decode cX7_sizesOf 9 = .ok (.if_icmp .ge 27, 3) := by decide +kernel
theorem dX7_sizesOf_12 : decode cX7_sizesOf 12 = .ok (.aload_n 0, 1) := by decide +kernel
theorem dX7_sizesOf_13 : decode cX7_sizesOf 13 = .ok (.aload_n 1, 1) := by decide +kernel
theorem dX7_sizesOf_14 : decode cX7_sizesOf 14 = .ok (.iload_n 2, 1) := by decide +kernel
theorem dX7_sizesOf_15 : decode cX7_sizesOf 15 = .ok (.iload 4, 2) := by decide +kernel
theorem dX7_sizesOf_17 : decode cX7_sizesOf 17 = .ok (.invokevirtual 28, 3) := by decide +kernel
theorem dX7_sizesOf_20 : decode cX7_sizesOf 20 = .ok (.ifCond .eq 10, 3) := by decide +kernel
theorem dX7_sizesOf_23 : decode cX7_sizesOf 23 = .ok (.iload_n 3, 1) := by decide +kernel
theorem dX7_sizesOf_24 : decode cX7_sizesOf 24 = .ok (.iconst 1, 1) := by decide +kernel
theorem dX7_sizesOf_25 : decode cX7_sizesOf 25 = .ok (.iload 4, 2) := by decide +kernel
theorem dX7_sizesOf_27 : decode cX7_sizesOf 27 = .ok (.ishl, 1) := by decide +kernel
theorem dX7_sizesOf_28 : decode cX7_sizesOf 28 = .ok (.ior, 1) := by decide +kernel
theorem dX7_sizesOf_29 : decode cX7_sizesOf 29 = .ok (.istore_n 3, 1) := by decide +kernel
theorem dX7_sizesOf_30 : decode cX7_sizesOf 30 = .ok (.iinc 4 1, 3) := by decide +kernel
theorem dX7_sizesOf_33 : decode cX7_sizesOf 33 = .ok (.goto (-28), 3) := by decide +kernel
theorem dX7_sizesOf_36 : decode cX7_sizesOf 36 = .ok (.iload_n 3, 1) := by decide +kernel
theorem dX7_sizesOf_37 : decode cX7_sizesOf 37 = .ok (.ireturn, 1) := by decide +kernel
theorem dX7_agrees_0 : decode cX7_agrees 0 = .ok (.iconst 0, 1) := by decide +kernel
theorem dX7_agrees_1 : decode cX7_agrees 1 = .ok (.istore 4, 2) := by decide +kernel
theorem dX7_agrees_3 : decode cX7_agrees 3 = .ok (.iload 4, 2) := by decide +kernel
theorem dX7_agrees_5 : decode cX7_agrees 5 = .ok (.aload_n 0, 1) := by decide +kernel
theorem dX7_agrees_6 : decode cX7_agrees 6 = .ok (.getfield 9, 3) := by decide +kernel
theorem dX7_agrees_9 : decode cX7_agrees 9 = .ok (.if_icmp .ge 45, 3) := by decide +kernel
theorem dX7_agrees_12 : decode cX7_agrees 12 = .ok (.aload_n 0, 1) := by decide +kernel
theorem dX7_agrees_13 : decode cX7_agrees 13 = .ok (.getfield 15, 3) := by decide +kernel
theorem dX7_agrees_16 : decode cX7_agrees 16 = .ok (.iload 4, 2) := by decide +kernel
theorem dX7_agrees_18 : decode cX7_agrees 18 = .ok (.iaload, 1) := by decide +kernel
theorem dX7_agrees_19 : decode cX7_agrees 19 = .ok (.iload_n 2, 1) := by decide +kernel
theorem dX7_agrees_20 : decode cX7_agrees 20 = .ok (.if_icmp .ne 28, 3) := by decide +kernel
theorem dX7_agrees_23 : decode cX7_agrees 23 = .ok (.aload_n 1, 1) := by decide +kernel
theorem dX7_agrees_24 : decode cX7_agrees 24 = .ok (.iload_n 2, 1) := by decide +kernel
theorem dX7_agrees_25 : decode cX7_agrees 25 = .ok (.iload_n 3, 1) := by decide +kernel
theorem dX7_agrees_26 : decode cX7_agrees 26 = .ok (.aload_n 0, 1) := by decide +kernel
theorem dX7_agrees_27 : decode cX7_agrees 27 = .ok (.getfield 19, 3) := by decide +kernel
theorem dX7_agrees_30 : decode cX7_agrees 30 = .ok (.iload 4, 2) := by decide +kernel
theorem dX7_agrees_32 : decode cX7_agrees 32 = .ok (.iaload, 1) := by decide +kernel
theorem dX7_agrees_33 : decode cX7_agrees 33 = .ok (.invokevirtual 32, 3) := by decide +kernel
theorem dX7_agrees_36 : decode cX7_agrees 36 = .ok (.aload_n 0, 1) := by decide +kernel
theorem dX7_agrees_37 : decode cX7_agrees 37 = .ok (.getfield 22, 3) := by decide +kernel
theorem dX7_agrees_40 : decode cX7_agrees 40 = .ok (.iload 4, 2) := by decide +kernel
theorem dX7_agrees_42 : decode cX7_agrees 42 = .ok (.iaload, 1) := by decide +kernel
theorem dX7_agrees_43 : decode cX7_agrees 43 = .ok (.if_icmp .eq 5, 3) := by decide +kernel
theorem dX7_agrees_46 : decode cX7_agrees 46 = .ok (.iconst 0, 1) := by decide +kernel
theorem dX7_agrees_47 : decode cX7_agrees 47 = .ok (.ireturn, 1) := by decide +kernel
theorem dX7_agrees_48 : decode cX7_agrees 48 = .ok (.iinc 4 1, 3) := by decide +kernel
theorem dX7_agrees_51 : decode cX7_agrees 51 = .ok (.goto (-48), 3) := by decide +kernel
theorem dX7_agrees_54 : decode cX7_agrees 54 = .ok (.iconst 1, 1) := by decide +kernel
theorem dX7_agrees_55 : decode cX7_agrees 55 = .ok (.ireturn, 1) := by decide +kernel
theorem dX7_lookOf_0 : decode cX7_lookOf 0 = .ok (.iload_n 3, 1) := by decide +kernel
theorem dX7_lookOf_1 : decode cX7_lookOf 1 = .ok (.ifCond .ne 5, 3) := by decide +kernel
theorem dX7_lookOf_4 : decode cX7_lookOf 4 = .ok (.iconst (-1), 1) := by decide +kernel
theorem dX7_lookOf_5 : decode cX7_lookOf 5 = .ok (.ireturn, 1) := by decide +kernel
theorem dX7_lookOf_6 : decode cX7_lookOf 6 = .ok (.iconst (-1), 1) := by decide +kernel
theorem dX7_lookOf_7 : decode cX7_lookOf 7 = .ok (.istore 4, 2) := by decide +kernel
theorem dX7_lookOf_9 : decode cX7_lookOf 9 = .ok (.bipush 11, 2) := by decide +kernel
theorem dX7_lookOf_11 : decode cX7_lookOf 11 = .ok (.istore 5, 2) := by decide +kernel
theorem dX7_lookOf_13 : decode cX7_lookOf 13 = .ok (.iconst 0, 1) := by decide +kernel
theorem dX7_lookOf_14 : decode cX7_lookOf 14 = .ok (.istore 6, 2) := by decide +kernel
theorem dX7_lookOf_16 : decode cX7_lookOf 16 = .ok (.iload 6, 2) := by decide +kernel
theorem dX7_lookOf_18 : decode cX7_lookOf 18 = .ok (.aload_n 1, 1) := by decide +kernel
theorem dX7_lookOf_19 : decode cX7_lookOf 19 = .ok (.getfield 38, 3) := by decide +kernel
theorem dX7_lookOf_22 : decode cX7_lookOf 22 = .ok (.if_icmp .ge 46, 3) := by decide +kernel
theorem dX7_lookOf_25 : decode cX7_lookOf 25 = .ok (.iload 6, 2) := by decide +kernel
theorem dX7_lookOf_27 : decode cX7_lookOf 27 = .ok (.iload_n 2, 1) := by decide +kernel
theorem dX7_lookOf_28 : decode cX7_lookOf 28 = .ok (.if_icmp .ne 8, 3) := by decide +kernel
theorem dX7_lookOf_31 : decode cX7_lookOf 31 = .ok (.bipush 11, 2) := by decide +kernel
theorem dX7_lookOf_33 : decode cX7_lookOf 33 = .ok (.goto 12, 3) := by decide +kernel
theorem dX7_lookOf_36 : decode cX7_lookOf 36 = .ok (.aload_n 0, 1) := by decide +kernel
theorem dX7_lookOf_37 : decode cX7_lookOf 37 = .ok (.aload_n 1, 1) := by decide +kernel
theorem dX7_lookOf_38 : decode cX7_lookOf 38 = .ok (.iload_n 2, 1) := by decide +kernel
theorem dX7_lookOf_39 : decode cX7_lookOf 39 = .ok (.iload 6, 2) := by decide +kernel
theorem dX7_lookOf_41 : decode cX7_lookOf 41 = .ok (.iload_n 3, 1) := by decide +kernel
theorem dX7_lookOf_42 : decode cX7_lookOf 42 = .ok (.invokevirtual 39, 3) := by decide +kernel
theorem dX7_lookOf_45 : decode cX7_lookOf 45 = .ok (.istore 7, 2) := by decide +kernel
theorem dX7_lookOf_47 : decode cX7_lookOf 47 = .ok (.iload 7, 2) := by decide +kernel
theorem dX7_lookOf_49 : decode cX7_lookOf 49 = .ok (.iload 5, 2) := by decide +kernel
theorem dX7_lookOf_51 : decode cX7_lookOf 51 = .ok (.if_icmp .ge 11, 3) := by decide +kernel
theorem dX7_lookOf_54 : decode cX7_lookOf 54 = .ok (.iload 7, 2) := by decide +kernel
theorem dX7_lookOf_56 : decode cX7_lookOf 56 = .ok (.istore 5, 2) := by decide +kernel
theorem dX7_lookOf_58 : decode cX7_lookOf 58 = .ok (.iload 6, 2) := by decide +kernel
theorem dX7_lookOf_60 : decode cX7_lookOf 60 = .ok (.istore 4, 2) := by decide +kernel
theorem dX7_lookOf_62 : decode cX7_lookOf 62 = .ok (.iinc 6 1, 3) := by decide +kernel
theorem dX7_lookOf_65 : decode cX7_lookOf 65 = .ok (.goto (-49), 3) := by decide +kernel
theorem dX7_lookOf_68 : decode cX7_lookOf 68 = .ok (.iload 4, 2) := by decide +kernel
theorem dX7_lookOf_70 : decode cX7_lookOf 70 = .ok (.ireturn, 1) := by decide +kernel
theorem dX7_leftAtWorst_0 : decode cX7_leftAtWorst 0 = .ok (.aload_n 0, 1) := by decide +kernel
theorem dX7_leftAtWorst_1 : decode cX7_leftAtWorst 1 = .ok (.getfield 25, 3) := by decide +kernel
theorem dX7_leftAtWorst_4 : decode cX7_leftAtWorst 4 = .ok (.iconst 0, 1) := by decide +kernel
theorem dX7_leftAtWorst_5 : decode cX7_leftAtWorst 5 = .ok (.invokestatic 43, 3) := by decide +kernel
theorem dX7_leftAtWorst_8 : decode cX7_leftAtWorst 8 = .ok (.iconst 0, 1) := by decide +kernel
theorem dX7_leftAtWorst_9 : decode cX7_leftAtWorst 9 = .ok (.istore 5, 2) := by decide +kernel
theorem dX7_leftAtWorst_11 : decode cX7_leftAtWorst 11 = .ok (.iconst 0, 1) := by decide +kernel
theorem dX7_leftAtWorst_12 : decode cX7_leftAtWorst 12 = .ok (.istore 6, 2) := by decide +kernel
theorem dX7_leftAtWorst_14 : decode cX7_leftAtWorst 14 = .ok (.iload 6, 2) := by decide +kernel
theorem dX7_leftAtWorst_16 : decode cX7_leftAtWorst 16 = .ok (.bipush 10, 2) := by decide +kernel
theorem dX7_leftAtWorst_18 : decode cX7_leftAtWorst 18 = .ok (.if_icmp .ge 69, 3) := by decide +kernel
theorem dX7_leftAtWorst_21 : decode cX7_leftAtWorst 21 = .ok (.aload_n 1, 1) := by decide +kernel
theorem dX7_leftAtWorst_22 : decode cX7_leftAtWorst 22 = .ok (.iload_n 2, 1) := by decide +kernel
theorem dX7_leftAtWorst_23 : decode cX7_leftAtWorst 23 = .ok (.iload 6, 2) := by decide +kernel
theorem dX7_leftAtWorst_25 : decode cX7_leftAtWorst 25 = .ok (.iload_n 3, 1) := by decide +kernel
theorem dX7_leftAtWorst_26 : decode cX7_leftAtWorst 26 = .ok (.invokevirtual 32, 3) := by decide +kernel
theorem dX7_leftAtWorst_29 : decode cX7_leftAtWorst 29 = .ok (.iconst (-1), 1) := by decide +kernel
theorem dX7_leftAtWorst_30 : decode cX7_leftAtWorst 30 = .ok (.isub, 1) := by decide +kernel
theorem dX7_leftAtWorst_31 : decode cX7_leftAtWorst 31 = .ok (.istore 7, 2) := by decide +kernel
theorem dX7_leftAtWorst_33 : decode cX7_leftAtWorst 33 = .ok (.iload 4, 2) := by decide +kernel
theorem dX7_leftAtWorst_35 : decode cX7_leftAtWorst 35 = .ok (.iload 6, 2) := by decide +kernel
theorem dX7_leftAtWorst_37 : decode cX7_leftAtWorst 37 = .ok (.ishr, 1) := by decide +kernel
theorem dX7_leftAtWorst_38 : decode cX7_leftAtWorst 38 = .ok (.iconst 1, 1) := by decide +kernel
theorem dX7_leftAtWorst_39 : decode cX7_leftAtWorst 39 = .ok (.iand, 1) := by decide +kernel
theorem dX7_leftAtWorst_40 : decode cX7_leftAtWorst 40 = .ok (.iconst 1, 1) := by decide +kernel
theorem dX7_leftAtWorst_41 : decode cX7_leftAtWorst 41 = .ok (.if_icmp .ne 40, 3) := by decide +kernel
theorem dX7_leftAtWorst_44 : decode cX7_leftAtWorst 44 = .ok (.iload 7, 2) := by decide +kernel
theorem dX7_leftAtWorst_46 : decode cX7_leftAtWorst 46 = .ok (.ifCond .lt 35, 3) := by decide +kernel
theorem dX7_leftAtWorst_49 : decode cX7_leftAtWorst 49 = .ok (.iload 7, 2) := by decide +kernel
theorem dX7_leftAtWorst_51 : decode cX7_leftAtWorst 51 = .ok (.bipush 20, 2) := by decide +kernel
theorem dX7_leftAtWorst_53 : decode cX7_leftAtWorst 53 = .ok (.if_icmp .ge 28, 3) := by decide +kernel
theorem dX7_leftAtWorst_56 : decode cX7_leftAtWorst 56 = .ok (.aload_n 0, 1) := by decide +kernel
theorem dX7_leftAtWorst_57 : decode cX7_leftAtWorst 57 = .ok (.getfield 25, 3) := by decide +kernel
theorem dX7_leftAtWorst_60 : decode cX7_leftAtWorst 60 = .ok (.iload 7, 2) := by decide +kernel
theorem dX7_leftAtWorst_62 : decode cX7_leftAtWorst 62 = .ok (.dup2, 1) := by decide +kernel
theorem dX7_leftAtWorst_63 : decode cX7_leftAtWorst 63 = .ok (.iaload, 1) := by decide +kernel
theorem dX7_leftAtWorst_64 : decode cX7_leftAtWorst 64 = .ok (.iconst 1, 1) := by decide +kernel
theorem dX7_leftAtWorst_65 : decode cX7_leftAtWorst 65 = .ok (.iadd, 1) := by decide +kernel
theorem dX7_leftAtWorst_66 : decode cX7_leftAtWorst 66 = .ok (.iastore, 1) := by decide +kernel
theorem dX7_leftAtWorst_67 : decode cX7_leftAtWorst 67 = .ok (.iload 5, 2) := by decide +kernel
theorem dX7_leftAtWorst_69 : decode cX7_leftAtWorst 69 = .ok (.aload_n 0, 1) := by decide +kernel
theorem dX7_leftAtWorst_70 : decode cX7_leftAtWorst 70 = .ok (.getfield 25, 3) := by decide +kernel
theorem dX7_leftAtWorst_73 : decode cX7_leftAtWorst 73 = .ok (.iload 7, 2) := by decide +kernel
theorem dX7_leftAtWorst_75 : decode cX7_leftAtWorst 75 = .ok (.iaload, 1) := by decide +kernel
theorem dX7_leftAtWorst_76 : decode cX7_leftAtWorst 76 = .ok (.invokestatic 49, 3) := by decide +kernel
theorem dX7_leftAtWorst_79 : decode cX7_leftAtWorst 79 = .ok (.istore 5, 2) := by decide +kernel
theorem dX7_leftAtWorst_81 : decode cX7_leftAtWorst 81 = .ok (.iinc 6 1, 3) := by decide +kernel
theorem dX7_leftAtWorst_84 : decode cX7_leftAtWorst 84 = .ok (.goto (-70), 3) := by decide +kernel
theorem dX7_leftAtWorst_87 : decode cX7_leftAtWorst 87 = .ok (.iload 5, 2) := by decide +kernel
theorem dX7_leftAtWorst_89 : decode cX7_leftAtWorst 89 = .ok (.ireturn, 1) := by decide +kernel
theorem dX8_init_0 : decode cX8_init 0 = .ok (.aload_n 0, 1) := by decide +kernel
theorem dX8_init_1 : decode cX8_init 1 = .ok (.invokespecial 3, 3) := by decide +kernel
theorem dX8_init_4 : decode cX8_init 4 = .ok (.aload_n 0, 1) := by decide +kernel
theorem dX8_init_5 : decode cX8_init 5 = .ok (.iconst (-1), 1) := by decide +kernel
theorem dX8_init_6 : decode cX8_init 6 = .ok (.putfield 9, 3) := by decide +kernel
theorem dX8_init_9 : decode cX8_init 9 = .ok (.aload_n 0, 1) := by decide +kernel
theorem dX8_init_10 : decode cX8_init 10 = .ok (.iload_n 1, 1) := by decide +kernel
theorem dX8_init_11 : decode cX8_init 11 = .ok (.putfield 15, 3) := by decide +kernel
theorem dX8_init_14 : decode cX8_init 14 = .ok (.aload_n 0, 1) := by decide +kernel
theorem dX8_init_15 : decode cX8_init 15 = .ok (.iload_n 2, 1) := by decide +kernel
theorem dX8_init_16 : decode cX8_init 16 = .ok (.putfield 18, 3) := by decide +kernel
theorem dX8_init_19 : decode cX8_init 19 = .ok (.aload_n 0, 1) := by decide +kernel
theorem dX8_init_20 : decode cX8_init 20 = .ok (.iload_n 3, 1) := by decide +kernel
theorem dX8_init_21 : decode cX8_init 21 = .ok (.putfield 21, 3) := by decide +kernel
theorem dX8_init_24 : decode cX8_init 24 = .ok (.return_, 1) := by decide +kernel
theorem dX8_kindNumber_0 : decode cX8_kindNumber 0 = .ok (.iconst 0, 1) := by decide +kernel
theorem dX8_kindNumber_1 : decode cX8_kindNumber 1 = .ok (.ireturn, 1) := by decide +kernel
theorem dX8_takes_0 : decode cX8_takes 0 = .ok (.aload_n 0, 1) := by decide +kernel
theorem dX8_takes_1 : decode cX8_takes 1 = .ok (.getfield 15, 3) := by decide +kernel
theorem dX8_takes_4 : decode cX8_takes 4 = .ok (.aload_n 1, 1) := by decide +kernel
theorem dX8_takes_5 : decode cX8_takes 5 = .ok (.getfield 15, 3) := by decide +kernel
theorem dX8_takes_8 : decode cX8_takes 8 = .ok (.if_icmp .eq 7, 3) := by decide +kernel
theorem dX8_takes_11 : decode cX8_takes 11 = .ok (.iconst 1, 1) := by decide +kernel
theorem dX8_takes_12 : decode cX8_takes 12 = .ok (.goto 4, 3) := by decide +kernel
theorem dX8_takes_15 : decode cX8_takes 15 = .ok (.iconst 0, 1) := by decide +kernel
theorem dX8_takes_16 : decode cX8_takes 16 = .ok (.ireturn, 1) := by decide +kernel
theorem dX8_distanceTo_0 : decode cX8_distanceTo 0 = .ok (.aload_n 0, 1) := by decide +kernel
theorem dX8_distanceTo_1 : decode cX8_distanceTo 1 = .ok (.getfield 18, 3) := by decide +kernel
theorem dX8_distanceTo_4 : decode cX8_distanceTo 4 = .ok (.aload_n 1, 1) := by decide +kernel
theorem dX8_distanceTo_5 : decode cX8_distanceTo 5 = .ok (.getfield 18, 3) := by decide +kernel
theorem dX8_distanceTo_8 : decode cX8_distanceTo 8 = .ok (.isub, 1) := by decide +kernel
theorem dX8_distanceTo_9 : decode cX8_distanceTo 9 = .ok (.invokestatic 24, 3) := by decide +kernel
theorem dX8_distanceTo_12 : decode cX8_distanceTo 12 = .ok (.ireturn, 1) := by decide +kernel
theorem dX9_init_0 : decode cX9_init 0 = .ok (.aload_n 0, 1) := by decide +kernel
theorem dX9_init_1 : decode cX9_init 1 = .ok (.iload_n 1, 1) := by decide +kernel
theorem dX9_init_2 : decode cX9_init 2 = .ok (.iload_n 2, 1) := by decide +kernel
theorem dX9_init_3 : decode cX9_init 3 = .ok (.iload_n 3, 1) := by decide +kernel
theorem dX9_init_4 : decode cX9_init 4 = .ok (.invokespecial 3, 3) := by decide +kernel
theorem dX9_init_7 : decode cX9_init 7 = .ok (.return_, 1) := by decide +kernel
theorem dX9_kindNumber_0 : decode cX9_kindNumber 0 = .ok (.iconst 2, 1) := by decide +kernel
theorem dX9_kindNumber_1 : decode cX9_kindNumber 1 = .ok (.ireturn, 1) := by decide +kernel
theorem dX9_takes_0 : decode cX9_takes 0 = .ok (.aload_n 1, 1) := by decide +kernel
theorem dX9_takes_1 : decode cX9_takes 1 = .ok (.instanceof 9, 3) := by decide +kernel
theorem dX9_takes_4 : decode cX9_takes 4 = .ok (.ireturn, 1) := by decide +kernel
theorem dX10_init_0 : decode cX10_init 0 = .ok (.aload_n 0, 1) := by decide +kernel
theorem dX10_init_1 : decode cX10_init 1 = .ok (.invokespecial 3, 3) := by decide +kernel
theorem dX10_init_4 : decode cX10_init 4 = .ok (.aload_n 0, 1) := by decide +kernel
theorem dX10_init_5 : decode cX10_init 5 = .ok (.bipush 7, 2) := by decide +kernel
theorem dX10_init_7 : decode cX10_init 7 = .ok (.newarray .boolean, 2) := by decide +kernel
theorem dX10_init_9 : decode cX10_init 9 = .ok (.putfield 9, 3) := by decide +kernel
theorem dX10_init_12 : decode cX10_init 12 = .ok (.return_, 1) := by decide +kernel
theorem dX10_pass_0 : decode cX10_pass 0 = .ok (.aload_n 0, 1) := by decide +kernel
theorem dX10_pass_1 : decode cX10_pass 1 = .ok (.iconst 0, 1) := by decide +kernel
theorem dX10_pass_2 : decode cX10_pass 2 = .ok (.putfield 15, 3) := by decide +kernel
theorem dX10_pass_5 : decode cX10_pass 5 = .ok (.aload_n 0, 1) := by decide +kernel
theorem dX10_pass_6 : decode cX10_pass 6 = .ok (.iconst 0, 1) := by decide +kernel
theorem dX10_pass_7 : decode cX10_pass 7 = .ok (.putfield 19, 3) := by decide +kernel
theorem dX10_pass_10 : decode cX10_pass 10 = .ok (.aload_n 0, 1) := by decide +kernel
theorem dX10_pass_11 : decode cX10_pass 11 = .ok (.iload_n 3, 1) := by decide +kernel
theorem dX10_pass_12 : decode cX10_pass 12 = .ok (.i2l, 1) := by decide +kernel
theorem dX10_pass_13 : decode cX10_pass 13 = .ok (.putfield 22, 3) := by decide +kernel
theorem dX10_pass_16 : decode cX10_pass 16 = .ok (.iconst 0, 1) := by decide +kernel
theorem dX10_pass_17 : decode cX10_pass 17 = .ok (.istore 4, 2) := by decide +kernel
theorem dX10_pass_19 : decode cX10_pass 19 = .ok (.iload 4, 2) := by decide +kernel
theorem dX10_pass_21 : decode cX10_pass 21 = .ok (.aload_n 1, 1) := by decide +kernel
theorem dX10_pass_22 : decode cX10_pass 22 = .ok (.getfield 26, 3) := by decide +kernel
theorem dX10_pass_25 : decode cX10_pass 25 = .ok (.if_icmp .ge 22, 3) := by decide +kernel
theorem dX10_pass_28 : decode cX10_pass 28 = .ok (.aload_n 0, 1) := by decide +kernel
theorem dX10_pass_29 : decode cX10_pass 29 = .ok (.getfield 9, 3) := by decide +kernel
theorem dX10_pass_32 : decode cX10_pass 32 = .ok (.iload 4, 2) := by decide +kernel
theorem dX10_pass_34 : decode cX10_pass 34 = .ok (.aload_n 1, 1) := by decide +kernel
theorem dX10_pass_35 : decode cX10_pass 35 = .ok (.iload 4, 2) := by decide +kernel
theorem dX10_pass_37 : decode cX10_pass 37 = .ok (.invokevirtual 31, 3) := by decide +kernel
theorem dX10_pass_40 : decode cX10_pass 40 = .ok (.bastore, 1) := by decide +kernel
theorem dX10_pass_41 : decode cX10_pass 41 = .ok (.iinc 4 1, 3) := by decide +kernel
theorem dX10_pass_44 : decode cX10_pass 44 = .ok (.goto (-25), 3) := by decide +kernel
theorem dX10_pass_47 : decode cX10_pass 47 = .ok (.iconst 0, 1) := by decide +kernel
theorem dX10_pass_48 : decode cX10_pass 48 = .ok (.istore 4, 2) := by decide +kernel
theorem dX10_pass_50 : decode cX10_pass 50 = .ok (.iload 4, 2) := by decide +kernel
theorem dX10_pass_52 : decode cX10_pass 52 = .ok (.iload_n 2, 1) := by decide +kernel
theorem dX10_pass_53 : decode cX10_pass 53 = .ok (.if_icmp .ge 38, 3) := by decide +kernel
theorem dX10_pass_56 : decode cX10_pass 56 = .ok (.aload_n 0, 1) := by decide +kernel
theorem dX10_pass_57 : decode cX10_pass 57 = .ok (.aload_n 1, 1) := by decide +kernel
theorem dX10_pass_58 : decode cX10_pass 58 = .ok (.getfield 26, 3) := by decide +kernel
theorem dX10_pass_61 : decode cX10_pass 61 = .ok (.invokevirtual 35, 3) := by decide +kernel
theorem dX10_pass_64 : decode cX10_pass 64 = .ok (.istore 5, 2) := by decide +kernel
theorem dX10_pass_66 : decode cX10_pass 66 = .ok (.aload_n 0, 1) := by decide +kernel
theorem dX10_pass_67 : decode cX10_pass 67 = .ok (.aload_n 1, 1) := by decide +kernel
theorem dX10_pass_68 : decode cX10_pass 68 = .ok (.getfield 26, 3) := by decide +kernel
theorem dX10_pass_71 : decode cX10_pass 71 = .ok (.invokevirtual 35, 3) := by decide +kernel
theorem dX10_pass_74 : decode cX10_pass 74 = .ok (.istore 6, 2) := by decide +kernel
theorem dX10_pass_76 : decode cX10_pass 76 = .ok (.aload_n 0, 1) := by decide +kernel
theorem dX10_pass_77 : decode cX10_pass 77 = .ok (.aload_n 1, 1) := by decide +kernel
theorem dX10_pass_78 : decode cX10_pass 78 = .ok (.iload 5, 2) := by decide +kernel
theorem dX10_pass_80 : decode cX10_pass 80 = .ok (.iload 6, 2) := by decide +kernel
theorem dX10_pass_82 : decode cX10_pass 82 = .ok (.invokevirtual 39, 3) := by decide +kernel
theorem dX10_pass_85 : decode cX10_pass 85 = .ok (.iinc 4 1, 3) := by decide +kernel
theorem dX10_pass_88 : decode cX10_pass 88 = .ok (.goto (-38), 3) := by decide +kernel
theorem dX10_pass_91 : decode cX10_pass 91 = .ok (.return_, 1) := by decide +kernel
theorem dX10_meet_0 : decode cX10_meet 0 = .ok (.aload_n 1, 1) := by decide +kernel
theorem dX10_meet_1 : decode cX10_meet 1 = .ok (.iload_n 2, 1) := by decide +kernel
theorem dX10_meet_2 : decode cX10_meet 2 = .ok (.iload_n 3, 1) := by decide +kernel
theorem dX10_meet_3 : decode cX10_meet 3 = .ok (.invokevirtual 43, 3) := by decide +kernel
theorem dX10_meet_6 : decode cX10_meet 6 = .ok (.ifCond .eq 21, 3) := by decide +kernel
theorem dX10_meet_9 : decode cX10_meet 9 = .ok (.aload_n 0, 1) := by decide +kernel
theorem dX10_meet_10 : decode cX10_meet 10 = .ok (.getfield 9, 3) := by decide +kernel
theorem dX10_meet_13 : decode cX10_meet 13 = .ok (.iload_n 2, 1) := by decide +kernel
theorem dX10_meet_14 : decode cX10_meet 14 = .ok (.baload, 1) := by decide +kernel
theorem dX10_meet_15 : decode cX10_meet 15 = .ok (.ifCond .ne 12, 3) := by decide +kernel
theorem dX10_meet_18 : decode cX10_meet 18 = .ok (.aload_n 0, 1) := by decide +kernel
theorem dX10_meet_19 : decode cX10_meet 19 = .ok (.getfield 9, 3) := by decide +kernel
theorem dX10_meet_22 : decode cX10_meet 22 = .ok (.iload_n 3, 1) := by decide +kernel
theorem dX10_meet_23 : decode cX10_meet 23 = .ok (.baload, 1) := by decide +kernel
theorem dX10_meet_24 : decode cX10_meet 24 = .ok (.ifCond .eq 4, 3) := by decide +kernel
theorem dX10_meet_27 : decode cX10_meet 27 = .ok (.return_, 1) := by decide +kernel
theorem dX10_meet_28 : decode cX10_meet 28 = .ok (.aload_n 1, 1) := by decide +kernel
theorem dX10_meet_29 : decode cX10_meet 29 = .ok (.iload_n 2, 1) := by decide +kernel
theorem dX10_meet_30 : decode cX10_meet 30 = .ok (.iload_n 3, 1) := by decide +kernel
theorem dX10_meet_31 : decode cX10_meet 31 = .ok (.invokevirtual 47, 3) := by decide +kernel
theorem dX10_meet_34 : decode cX10_meet 34 = .ok (.istore 4, 2) := by decide +kernel
theorem dX10_meet_36 : decode cX10_meet 36 = .ok (.iload 4, 2) := by decide +kernel
theorem dX10_meet_38 : decode cX10_meet 38 = .ok (.iconst (-1), 1) := by decide +kernel
theorem dX10_meet_39 : decode cX10_meet 39 = .ok (.if_icmp .eq 38, 3) := by decide +kernel
theorem dX10_meet_42 : decode cX10_meet 42 = .ok (.aload_n 0, 1) := by decide +kernel
theorem dX10_meet_43 : decode cX10_meet 43 = .ok (.getfield 9, 3) := by decide +kernel
theorem dX10_meet_46 : decode cX10_meet 46 = .ok (.iload_n 2, 1) := by decide +kernel
theorem dX10_meet_47 : decode cX10_meet 47 = .ok (.iconst 1, 1) := by decide +kernel
theorem dX10_meet_48 : decode cX10_meet 48 = .ok (.bastore, 1) := by decide +kernel
theorem dX10_meet_49 : decode cX10_meet 49 = .ok (.aload_n 0, 1) := by decide +kernel
theorem dX10_meet_50 : decode cX10_meet 50 = .ok (.getfield 9, 3) := by decide +kernel
theorem dX10_meet_53 : decode cX10_meet 53 = .ok (.iload_n 3, 1) := by decide +kernel
theorem dX10_meet_54 : decode cX10_meet 54 = .ok (.iconst 1, 1) := by decide +kernel
theorem dX10_meet_55 : decode cX10_meet 55 = .ok (.bastore, 1) := by decide +kernel
theorem dX10_meet_56 : decode cX10_meet 56 = .ok (.aload_n 0, 1) := by decide +kernel
theorem dX10_meet_57 : decode cX10_meet 57 = .ok (.dup, 1) := by decide +kernel
theorem dX10_meet_58 : decode cX10_meet 58 = .ok (.getfield 15, 3) := by decide +kernel
theorem dX10_meet_61 : decode cX10_meet 61 = .ok (.iconst 1, 1) := by decide +kernel
theorem dX10_meet_62 : decode cX10_meet 62 = .ok (.iadd, 1) := by decide +kernel
theorem dX10_meet_63 : decode cX10_meet 63 = .ok (.putfield 15, 3) := by decide +kernel
theorem dX10_meet_66 : decode cX10_meet 66 = .ok (.aload_n 0, 1) := by decide +kernel
theorem dX10_meet_67 : decode cX10_meet 67 = .ok (.dup, 1) := by decide +kernel
theorem dX10_meet_68 : decode cX10_meet 68 = .ok (.getfield 19, 3) := by decide +kernel
theorem dX10_meet_71 : decode cX10_meet 71 = .ok (.iload 4, 2) := by decide +kernel
theorem dX10_meet_73 : decode cX10_meet 73 = .ok (.iadd, 1) := by decide +kernel
theorem dX10_meet_74 : decode cX10_meet 74 = .ok (.putfield 19, 3) := by decide +kernel
theorem dX10_meet_77 : decode cX10_meet 77 = .ok (.return_, 1) := by decide +kernel
theorem dX10_draw_0 : decode cX10_draw 0 = .ok (.aload_n 0, 1) := by decide +kernel
theorem dX10_draw_1 : decode cX10_draw 1 = .ok (.ldc2_w 51, 3) := by decide +kernel
theorem dX10_draw_4 : decode cX10_draw 4 = .ok (.aload_n 0, 1) := by decide +kernel
theorem dX10_draw_5 : decode cX10_draw 5 = .ok (.getfield 22, 3) := by decide +kernel
theorem dX10_draw_8 : decode cX10_draw 8 = .ok (.lmul, 1) := by decide +kernel
theorem dX10_draw_9 : decode cX10_draw 9 = .ok (.ldc2_w 53, 3) := by decide +kernel
theorem dX10_draw_12 : decode cX10_draw 12 = .ok (.ladd, 1) := by decide +kernel
theorem dX10_draw_13 : decode cX10_draw 13 = .ok (.ldc2_w 55, 3) := by decide +kernel
theorem dX10_draw_16 : decode cX10_draw 16 = .ok (.lrem, 1) := by decide +kernel
theorem dX10_draw_17 : decode cX10_draw 17 = .ok (.putfield 22, 3) := by decide +kernel
theorem dX10_draw_20 : decode cX10_draw 20 = .ok (.iload_n 1, 1) := by decide +kernel
theorem dX10_draw_21 : decode cX10_draw 21 = .ok (.ifCond .le 18, 3) := by decide +kernel
theorem dX10_draw_24 : decode cX10_draw 24 = .ok (.aload_n 0, 1) := by decide +kernel
theorem dX10_draw_25 : decode cX10_draw 25 = .ok (.getfield 22, 3) := by decide +kernel
theorem dX10_draw_28 : decode cX10_draw 28 = .ok (.ldc2_w 57, 3) := by decide +kernel
theorem dX10_draw_31 : decode cX10_draw 31 = .ok (.ldiv, 1) := by decide +kernel
theorem dX10_draw_32 : decode cX10_draw 32 = .ok (.iload_n 1, 1) := by decide +kernel
theorem dX10_draw_33 : decode cX10_draw 33 = .ok (.i2l, 1) := by decide +kernel
theorem dX10_draw_34 : decode cX10_draw 34 = .ok (.lrem, 1) := by decide +kernel
theorem dX10_draw_35 : decode cX10_draw 35 = .ok (.l2i, 1) := by decide +kernel
theorem dX10_draw_36 : decode cX10_draw 36 = .ok (.goto 4, 3) := by decide +kernel
theorem dX10_draw_39 : decode cX10_draw 39 = .ok (.iconst (-1), 1) := by decide +kernel
theorem dX10_draw_40 : decode cX10_draw 40 = .ok (.ireturn, 1) := by decide +kernel
theorem dX11_init_0 : decode cX11_init 0 = .ok (.aload_n 0, 1) := by decide +kernel
theorem dX11_init_1 : decode cX11_init 1 = .ok (.invokespecial 1, 3) := by decide +kernel
theorem dX11_init_4 : decode cX11_init 4 = .ok (.aload_n 0, 1) := by decide +kernel
theorem dX11_init_5 : decode cX11_init 5 = .ok (.new 7, 3) := by decide +kernel
theorem dX11_init_8 : decode cX11_init 8 = .ok (.dup, 1) := by decide +kernel
theorem dX11_init_9 : decode cX11_init 9 = .ok (.invokespecial 9, 3) := by decide +kernel
theorem dX11_init_12 : decode cX11_init 12 = .ok (.putfield 10, 3) := by decide +kernel
theorem dX11_init_15 : decode cX11_init 15 = .ok (.aload_n 0, 1) := by decide +kernel
theorem dX11_init_16 : decode cX11_init 16 = .ok (.new 16, 3) := by decide +kernel
theorem dX11_init_19 : decode cX11_init 19 = .ok (.dup, 1) := by decide +kernel
theorem dX11_init_20 : decode cX11_init 20 = .ok (.invokespecial 18, 3) := by decide +kernel
theorem dX11_init_23 : decode cX11_init 23 = .ok (.putfield 19, 3) := by decide +kernel
theorem dX11_init_26 : decode cX11_init 26 = .ok (.aload_n 0, 1) := by decide +kernel
theorem dX11_init_27 : decode cX11_init 27 = .ok (.new 23, 3) := by decide +kernel
theorem dX11_init_30 : decode cX11_init 30 = .ok (.dup, 1) := by decide +kernel
theorem dX11_init_31 : decode cX11_init 31 = .ok (.invokespecial 25, 3) := by decide +kernel
theorem dX11_init_34 : decode cX11_init 34 = .ok (.putfield 26, 3) := by decide +kernel
theorem dX11_init_37 : decode cX11_init 37 = .ok (.aload_n 0, 1) := by decide +kernel
theorem dX11_init_38 : decode cX11_init 38 = .ok (.new 30, 3) := by decide +kernel
theorem dX11_init_41 : decode cX11_init 41 = .ok (.dup, 1) := by decide +kernel
theorem dX11_init_42 : decode cX11_init 42 = .ok (.invokespecial 32, 3) := by decide +kernel
theorem dX11_init_45 : decode cX11_init 45 = .ok (.putfield 33, 3) := by decide +kernel
theorem dX11_init_48 : decode cX11_init 48 = .ok (.aload_n 0, 1) := by decide +kernel
theorem dX11_init_49 : decode cX11_init 49 = .ok (.new 37, 3) := by decide +kernel
theorem dX11_init_52 : decode cX11_init 52 = .ok (.dup, 1) := by decide +kernel
theorem dX11_init_53 : decode cX11_init 53 = .ok (.invokespecial 39, 3) := by decide +kernel
theorem dX11_init_56 : decode cX11_init 56 = .ok (.putfield 40, 3) := by decide +kernel
theorem dX11_init_59 : decode cX11_init 59 = .ok (.aload_n 0, 1) := by decide +kernel
theorem dX11_init_60 : decode cX11_init 60 = .ok (.iconst 0, 1) := by decide +kernel
theorem dX11_init_61 : decode cX11_init 61 = .ok (.putfield 44, 3) := by decide +kernel
theorem dX11_init_64 : decode cX11_init 64 = .ok (.return_, 1) := by decide +kernel
theorem dX11_letter_0 : decode cX11_letter 0 = .ok (.iload_n 1, 1) := by decide +kernel
theorem dX11_letter_1 : decode cX11_letter 1 = .ok (.iconst 1, 1) := by decide +kernel
theorem dX11_letter_2 : decode cX11_letter 2 = .ok (.if_icmp .lt 9, 3) := by decide +kernel
theorem dX11_letter_5 : decode cX11_letter 5 = .ok (.iload_n 1, 1) := by decide +kernel
theorem dX11_letter_6 : decode cX11_letter 6 = .ok (.bipush 126, 2) := by decide +kernel
theorem dX11_letter_8 : decode cX11_letter 8 = .ok (.if_icmp .le 6, 3) := by decide +kernel
theorem dX11_letter_11 : decode cX11_letter 11 = .ok (.bipush (-102), 2) := by decide +kernel
theorem dX11_letter_13 : decode cX11_letter 13 = .ok (.ireturn, 1) := by decide +kernel
theorem dX11_letter_14 : decode cX11_letter 14 = .ok (.aload_n 0, 1) := by decide +kernel
theorem dX11_letter_15 : decode cX11_letter 15 = .ok (.getfield 10, 3) := by decide +kernel
theorem dX11_letter_18 : decode cX11_letter 18 = .ok (.iload_n 1, 1) := by decide +kernel
theorem dX11_letter_19 : decode cX11_letter 19 = .ok (.invokevirtual 48, 3) := by decide +kernel
theorem dX11_letter_22 : decode cX11_letter 22 = .ok (.ifCond .eq 13, 3) := by decide +kernel
theorem dX11_letter_25 : decode cX11_letter 25 = .ok (.aload_n 0, 1) := by decide +kernel
theorem dX11_letter_26 : decode cX11_letter 26 = .ok (.getfield 10, 3) := by decide +kernel
theorem dX11_letter_29 : decode cX11_letter 29 = .ok (.getfield 52, 3) := by decide +kernel
theorem dX11_letter_32 : decode cX11_letter 32 = .ok (.goto 5, 3) := by decide +kernel
theorem dX11_letter_35 : decode cX11_letter 35 = .ok (.bipush (-104), 2) := by decide +kernel
theorem dX11_letter_37 : decode cX11_letter 37 = .ok (.ireturn, 1) := by decide +kernel
theorem dX11_blank_0 : decode cX11_blank 0 = .ok (.aload_n 0, 1) := by decide +kernel
theorem dX11_blank_1 : decode cX11_blank 1 = .ok (.getfield 10, 3) := by decide +kernel
theorem dX11_blank_4 : decode cX11_blank 4 = .ok (.getfield 52, 3) := by decide +kernel
theorem dX11_blank_7 : decode cX11_blank 7 = .ok (.istore_n 1, 1) := by decide +kernel
theorem dX11_blank_8 : decode cX11_blank 8 = .ok (.aload_n 0, 1) := by decide +kernel
theorem dX11_blank_9 : decode cX11_blank 9 = .ok (.getfield 10, 3) := by decide +kernel
theorem dX11_blank_12 : decode cX11_blank 12 = .ok (.invokevirtual 55, 3) := by decide +kernel
theorem dX11_blank_15 : decode cX11_blank 15 = .ok (.iload_n 1, 1) := by decide +kernel
theorem dX11_blank_16 : decode cX11_blank 16 = .ok (.ireturn, 1) := by decide +kernel
theorem dX11_fault_0 : decode cX11_fault 0 = .ok (.aload_n 0, 1) := by decide +kernel
theorem dX11_fault_1 : decode cX11_fault 1 = .ok (.getfield 10, 3) := by decide +kernel
theorem dX11_fault_4 : decode cX11_fault 4 = .ok (.invokevirtual 58, 3) := by decide +kernel
theorem dX11_fault_7 : decode cX11_fault 7 = .ok (.ireturn, 1) := by decide +kernel
theorem dX11_drawer_0 : decode cX11_drawer 0 = .ok (.aload_n 0, 1) := by decide +kernel
theorem dX11_drawer_1 : decode cX11_drawer 1 = .ok (.getfield 10, 3) := by decide +kernel
theorem dX11_drawer_4 : decode cX11_drawer 4 = .ok (.invokevirtual 62, 3) := by decide +kernel
theorem dX11_drawer_7 : decode cX11_drawer 7 = .ok (.ifCond .ne 6, 3) := by decide +kernel
theorem dX11_drawer_10 : decode cX11_drawer 10 = .ok (.bipush (-103), 2) := by decide +kernel
theorem dX11_drawer_12 : decode cX11_drawer 12 = .ok (.ireturn, 1) := by decide +kernel
theorem dX11_drawer_13 : decode cX11_drawer 13 = .ok (.aload_n 0, 1) := by decide +kernel
theorem dX11_drawer_14 : decode cX11_drawer 14 = .ok (.getfield 19, 3) := by decide +kernel
theorem dX11_drawer_17 : decode cX11_drawer 17 = .ok (.aload_n 0, 1) := by decide +kernel
theorem dX11_drawer_18 : decode cX11_drawer 18 = .ok (.getfield 10, 3) := by decide +kernel
theorem dX11_drawer_21 : decode cX11_drawer 21 = .ok (.invokevirtual 66, 3) := by decide +kernel
theorem dX11_drawer_24 : decode cX11_drawer 24 = .ok (.aload_n 0, 1) := by decide +kernel
theorem dX11_drawer_25 : decode cX11_drawer 25 = .ok (.getfield 10, 3) := by decide +kernel
theorem dX11_drawer_28 : decode cX11_drawer 28 = .ok (.invokevirtual 55, 3) := by decide +kernel
theorem dX11_drawer_31 : decode cX11_drawer 31 = .ok (.aload_n 0, 1) := by decide +kernel
theorem dX11_drawer_32 : decode cX11_drawer 32 = .ok (.getfield 26, 3) := by decide +kernel
theorem dX11_drawer_35 : decode cX11_drawer 35 = .ok (.iconst 0, 1) := by decide +kernel
theorem dX11_drawer_36 : decode cX11_drawer 36 = .ok (.putfield 70, 3) := by decide +kernel
theorem dX11_drawer_39 : decode cX11_drawer 39 = .ok (.aload_n 0, 1) := by decide +kernel
theorem dX11_drawer_40 : decode cX11_drawer 40 = .ok (.dup, 1) := by decide +kernel
theorem dX11_drawer_41 : decode cX11_drawer 41 = .ok (.getfield 44, 3) := by decide +kernel
theorem dX11_drawer_44 : decode cX11_drawer 44 = .ok (.iconst 1, 1) := by decide +kernel
theorem dX11_drawer_45 : decode cX11_drawer 45 = .ok (.iadd, 1) := by decide +kernel
theorem dX11_drawer_46 : decode cX11_drawer 46 = .ok (.putfield 44, 3) := by decide +kernel
theorem dX11_drawer_49 : decode cX11_drawer 49 = .ok (.aload_n 0, 1) := by decide +kernel
theorem dX11_drawer_50 : decode cX11_drawer 50 = .ok (.getfield 19, 3) := by decide +kernel
theorem dX11_drawer_53 : decode cX11_drawer 53 = .ok (.getfield 74, 3) := by decide +kernel
theorem dX11_drawer_56 : decode cX11_drawer 56 = .ok (.ireturn, 1) := by decide +kernel
theorem dX11_single_0 : decode cX11_single 0 = .ok (.aload_n 0, 1) := by decide +kernel
theorem dX11_single_1 : decode cX11_single 1 = .ok (.getfield 19, 3) := by decide +kernel
theorem dX11_single_4 : decode cX11_single 4 = .ok (.iload_n 1, 1) := by decide +kernel
theorem dX11_single_5 : decode cX11_single 5 = .ok (.invokevirtual 77, 3) := by decide +kernel
theorem dX11_single_8 : decode cX11_single 8 = .ok (.ifCond .ne 6, 3) := by decide +kernel
theorem dX11_single_11 : decode cX11_single 11 = .ok (.bipush (-101), 2) := by decide +kernel
theorem dX11_single_13 : decode cX11_single 13 = .ok (.ireturn, 1) := by decide +kernel
theorem dX11_single_14 : decode cX11_single 14 = .ok (.aload_n 0, 1) := by decide +kernel
theorem dX11_single_15 : decode cX11_single 15 = .ok (.getfield 19, 3) := by decide +kernel
theorem dX11_single_18 : decode cX11_single 18 = .ok (.getfield 80, 3) := by decide +kernel
theorem dX11_single_21 : decode cX11_single 21 = .ok (.iload_n 1, 1) := by decide +kernel
theorem dX11_single_22 : decode cX11_single 22 = .ok (.aaload, 1) := by decide +kernel
theorem dX11_single_23 : decode cX11_single 23 = .ok (.astore_n 3, 1) := by decide +kernel
theorem dX11_single_24 : decode cX11_single 24 = .ok (.iload_n 2, 1) := by decide +kernel
theorem dX11_single_25 : decode cX11_single 25 = .ok (.tableswitch 175 0 10 #[59, 64, 69, 74, 79, 84, 93, 102, 111, 128, 144], 59) := by decide +kernel
theorem dX11_single_84 : decode cX11_single 84 = .ok (.aload_n 3, 1) := by decide +kernel
theorem dX11_single_85 : decode cX11_single 85 = .ok (.invokevirtual 84, 3) := by decide +kernel
theorem dX11_single_88 : decode cX11_single 88 = .ok (.ireturn, 1) := by decide +kernel
theorem dX11_single_89 : decode cX11_single 89 = .ok (.aload_n 3, 1) := by decide +kernel
theorem dX11_single_90 : decode cX11_single 90 = .ok (.getfield 89, 3) := by decide +kernel
theorem dX11_single_93 : decode cX11_single 93 = .ok (.ireturn, 1) := by decide +kernel
theorem dX11_single_94 : decode cX11_single 94 = .ok (.aload_n 3, 1) := by decide +kernel
theorem dX11_single_95 : decode cX11_single 95 = .ok (.getfield 92, 3) := by decide +kernel
theorem dX11_single_98 : decode cX11_single 98 = .ok (.ireturn, 1) := by decide +kernel
theorem dX11_single_99 : decode cX11_single 99 = .ok (.aload_n 3, 1) := by decide +kernel
theorem dX11_single_100 : decode cX11_single 100 = .ok (.getfield 93, 3) := by decide +kernel
theorem dX11_single_103 : decode cX11_single 103 = .ok (.ireturn, 1) := by decide +kernel
theorem dX11_single_104 : decode cX11_single 104 = .ok (.aload_n 3, 1) := by decide +kernel
theorem dX11_single_105 : decode cX11_single 105 = .ok (.getfield 96, 3) := by decide +kernel
theorem dX11_single_108 : decode cX11_single 108 = .ok (.ireturn, 1) := by decide +kernel
theorem dX11_single_109 : decode cX11_single 109 = .ok (.aload_n 0, 1) := by decide +kernel
theorem dX11_single_110 : decode cX11_single 110 = .ok (.getfield 19, 3) := by decide +kernel
theorem dX11_single_113 : decode cX11_single 113 = .ok (.iload_n 1, 1) := by decide +kernel
theorem dX11_single_114 : decode cX11_single 114 = .ok (.invokevirtual 99, 3) := by decide +kernel
theorem dX11_single_117 : decode cX11_single 117 = .ok (.ireturn, 1) := by decide +kernel
theorem dX11_single_118 : decode cX11_single 118 = .ok (.aload_n 0, 1) := by decide +kernel
theorem dX11_single_119 : decode cX11_single 119 = .ok (.getfield 19, 3) := by decide +kernel
theorem dX11_single_122 : decode cX11_single 122 = .ok (.iload_n 1, 1) := by decide +kernel
theorem dX11_single_123 : decode cX11_single 123 = .ok (.invokevirtual 103, 3) := by decide +kernel
theorem dX11_single_126 : decode cX11_single 126 = .ok (.ireturn, 1) := by decide +kernel
theorem dX11_single_127 : decode cX11_single 127 = .ok (.aload_n 0, 1) := by decide +kernel
theorem dX11_single_128 : decode cX11_single 128 = .ok (.getfield 19, 3) := by decide +kernel
theorem dX11_single_131 : decode cX11_single 131 = .ok (.iload_n 1, 1) := by decide +kernel
theorem dX11_single_132 : decode cX11_single 132 = .ok (.invokevirtual 106, 3) := by decide +kernel
theorem dX11_single_135 : decode cX11_single 135 = .ok (.ireturn, 1) := by decide +kernel
theorem dX11_single_136 : decode cX11_single 136 = .ok (.aload_n 0, 1) := by decide +kernel
theorem dX11_single_137 : decode cX11_single 137 = .ok (.getfield 19, 3) := by decide +kernel
theorem dX11_single_140 : decode cX11_single 140 = .ok (.iload_n 1, 1) := by decide +kernel
theorem dX11_single_141 : decode cX11_single 141 = .ok (.aload_n 0, 1) := by decide +kernel
theorem dX11_single_142 : decode cX11_single 142 = .ok (.getfield 19, 3) := by decide +kernel
theorem dX11_single_145 : decode cX11_single 145 = .ok (.iload_n 1, 1) := by decide +kernel
theorem dX11_single_146 : decode cX11_single 146 = .ok (.invokevirtual 106, 3) := by decide +kernel
theorem dX11_single_149 : decode cX11_single 149 = .ok (.invokevirtual 109, 3) := by decide +kernel
theorem dX11_single_152 : decode cX11_single 152 = .ok (.ireturn, 1) := by decide +kernel
theorem dX11_single_153 : decode cX11_single 153 = .ok (.aload_n 0, 1) := by decide +kernel
theorem dX11_single_154 : decode cX11_single 154 = .ok (.getfield 19, 3) := by decide +kernel
theorem dX11_single_157 : decode cX11_single 157 = .ok (.getfield 113, 3) := by decide +kernel
theorem dX11_single_160 : decode cX11_single 160 = .ok (.aload_n 0, 1) := by decide +kernel
theorem dX11_single_161 : decode cX11_single 161 = .ok (.getfield 19, 3) := by decide +kernel
theorem dX11_single_164 : decode cX11_single 164 = .ok (.iload_n 1, 1) := by decide +kernel
theorem dX11_single_165 : decode cX11_single 165 = .ok (.invokevirtual 117, 3) := by decide +kernel
theorem dX11_single_168 : decode cX11_single 168 = .ok (.ireturn, 1) := by decide +kernel
theorem dX11_single_169 : decode cX11_single 169 = .ok (.aload_n 0, 1) := by decide +kernel
theorem dX11_single_170 : decode cX11_single 170 = .ok (.getfield 19, 3) := by decide +kernel
theorem dX11_single_173 : decode cX11_single 173 = .ok (.getfield 113, 3) := by decide +kernel
theorem dX11_single_176 : decode cX11_single 176 = .ok (.aload_n 0, 1) := by decide +kernel
theorem dX11_single_177 : decode cX11_single 177 = .ok (.getfield 19, 3) := by decide +kernel
theorem dX11_single_180 : decode cX11_single 180 = .ok (.iload_n 1, 1) := by decide +kernel
theorem dX11_single_181 : decode cX11_single 181 = .ok (.aload_n 0, 1) := by decide +kernel
theorem dX11_single_182 : decode cX11_single 182 = .ok (.getfield 19, 3) := by decide +kernel
theorem dX11_single_185 : decode cX11_single 185 = .ok (.getfield 113, 3) := by decide +kernel
theorem dX11_single_188 : decode cX11_single 188 = .ok (.aload_n 0, 1) := by decide +kernel
theorem dX11_single_189 : decode cX11_single 189 = .ok (.getfield 19, 3) := by decide +kernel
theorem dX11_single_192 : decode cX11_single 192 = .ok (.iload_n 1, 1) := by decide +kernel
theorem dX11_single_193 : decode cX11_single 193 = .ok (.invokevirtual 117, 3) := by decide +kernel
theorem dX11_single_196 : decode cX11_single 196 = .ok (.invokevirtual 123, 3) := by decide +kernel
theorem dX11_single_199 : decode cX11_single 199 = .ok (.ireturn, 1) := by decide +kernel
theorem dX11_single_200 : decode cX11_single 200 = .ok (.bipush (-102), 2) := by decide +kernel
theorem dX11_single_202 : decode cX11_single 202 = .ok (.ireturn, 1) := by decide +kernel
theorem dX11_as_0 : decode cX11_as 0 = .ok (.aload_n 0, 1) := by decide +kernel
theorem dX11_as_1 : decode cX11_as 1 = .ok (.getfield 19, 3) := by decide +kernel
theorem dX11_as_4 : decode cX11_as 4 = .ok (.iload_n 1, 1) := by decide +kernel
theorem dX11_as_5 : decode cX11_as 5 = .ok (.invokevirtual 77, 3) := by decide +kernel
theorem dX11_as_8 : decode cX11_as 8 = .ok (.ifCond .ne 6, 3) := by decide +kernel
theorem dX11_as_11 : decode cX11_as 11 = .ok (.bipush (-101), 2) := by decide +kernel
theorem dX11_as_13 : decode cX11_as 13 = .ok (.ireturn, 1) := by decide +kernel
theorem dX11_as_14 : decode cX11_as 14 = .ok (.iload_n 2, 1) := by decide +kernel
theorem dX11_as_15 : decode cX11_as 15 = .ok (.ifCond .lt 8, 3) := by decide +kernel
theorem dX11_as_18 : decode cX11_as 18 = .ok (.iload_n 2, 1) := by decide +kernel
theorem dX11_as_19 : decode cX11_as 19 = .ok (.iconst 5, 1) := by decide +kernel
theorem dX11_as_20 : decode cX11_as 20 = .ok (.if_icmp .lt 6, 3) := by decide +kernel
theorem dX11_as_23 : decode cX11_as 23 = .ok (.bipush (-102), 2) := by decide +kernel
theorem dX11_as_25 : decode cX11_as 25 = .ok (.ireturn, 1) := by decide +kernel
theorem dX11_as_26 : decode cX11_as 26 = .ok (.aload_n 0, 1) := by decide +kernel
theorem dX11_as_27 : decode cX11_as 27 = .ok (.getfield 19, 3) := by decide +kernel
theorem dX11_as_30 : decode cX11_as 30 = .ok (.getfield 80, 3) := by decide +kernel
theorem dX11_as_33 : decode cX11_as 33 = .ok (.iload_n 1, 1) := by decide +kernel
theorem dX11_as_34 : decode cX11_as 34 = .ok (.aaload, 1) := by decide +kernel
theorem dX11_as_35 : decode cX11_as 35 = .ok (.iload_n 2, 1) := by decide +kernel
theorem dX11_as_36 : decode cX11_as 36 = .ok (.invokestatic 127, 3) := by decide +kernel
theorem dX11_as_39 : decode cX11_as 39 = .ok (.ifCond .eq 7, 3) := by decide +kernel
theorem dX11_as_42 : decode cX11_as 42 = .ok (.iload_n 1, 1) := by decide +kernel
theorem dX11_as_43 : decode cX11_as 43 = .ok (.goto 4, 3) := by decide +kernel
theorem dX11_as_46 : decode cX11_as 46 = .ok (.iconst (-1), 1) := by decide +kernel
theorem dX11_as_47 : decode cX11_as 47 = .ok (.ireturn, 1) := by decide +kernel
theorem dX11_likeness_0 : decode cX11_likeness 0 = .ok (.aload_n 0, 1) := by decide +kernel
theorem dX11_likeness_1 : decode cX11_likeness 1 = .ok (.getfield 19, 3) := by decide +kernel
theorem dX11_likeness_4 : decode cX11_likeness 4 = .ok (.iload_n 1, 1) := by decide +kernel
theorem dX11_likeness_5 : decode cX11_likeness 5 = .ok (.iload_n 2, 1) := by decide +kernel
theorem dX11_likeness_6 : decode cX11_likeness 6 = .ok (.invokevirtual 131, 3) := by decide +kernel
theorem dX11_likeness_9 : decode cX11_likeness 9 = .ok (.ifCond .eq 15, 3) := by decide +kernel
theorem dX11_likeness_12 : decode cX11_likeness 12 = .ok (.aload_n 0, 1) := by decide +kernel
theorem dX11_likeness_13 : decode cX11_likeness 13 = .ok (.getfield 19, 3) := by decide +kernel
theorem dX11_likeness_16 : decode cX11_likeness 16 = .ok (.iload_n 1, 1) := by decide +kernel
theorem dX11_likeness_17 : decode cX11_likeness 17 = .ok (.iload_n 2, 1) := by decide +kernel
theorem dX11_likeness_18 : decode cX11_likeness 18 = .ok (.invokevirtual 135, 3) := by decide +kernel
theorem dX11_likeness_21 : decode cX11_likeness 21 = .ok (.goto 5, 3) := by decide +kernel
theorem dX11_likeness_24 : decode cX11_likeness 24 = .ok (.bipush (-101), 2) := by decide +kernel
theorem dX11_likeness_26 : decode cX11_likeness 26 = .ok (.ireturn, 1) := by decide +kernel
theorem dX11_apart_0 : decode cX11_apart 0 = .ok (.aload_n 0, 1) := by decide +kernel
theorem dX11_apart_1 : decode cX11_apart 1 = .ok (.getfield 19, 3) := by decide +kernel
theorem dX11_apart_4 : decode cX11_apart 4 = .ok (.iload_n 1, 1) := by decide +kernel
theorem dX11_apart_5 : decode cX11_apart 5 = .ok (.iload_n 2, 1) := by decide +kernel
theorem dX11_apart_6 : decode cX11_apart 6 = .ok (.invokevirtual 131, 3) := by decide +kernel
theorem dX11_apart_9 : decode cX11_apart 9 = .ok (.ifCond .eq 27, 3) := by decide +kernel
theorem dX11_apart_12 : decode cX11_apart 12 = .ok (.aload_n 0, 1) := by decide +kernel
theorem dX11_apart_13 : decode cX11_apart 13 = .ok (.getfield 19, 3) := by decide +kernel
theorem dX11_apart_16 : decode cX11_apart 16 = .ok (.getfield 80, 3) := by decide +kernel
theorem dX11_apart_19 : decode cX11_apart 19 = .ok (.iload_n 1, 1) := by decide +kernel
theorem dX11_apart_20 : decode cX11_apart 20 = .ok (.aaload, 1) := by decide +kernel
theorem dX11_apart_21 : decode cX11_apart 21 = .ok (.aload_n 0, 1) := by decide +kernel
theorem dX11_apart_22 : decode cX11_apart 22 = .ok (.getfield 19, 3) := by decide +kernel
theorem dX11_apart_25 : decode cX11_apart 25 = .ok (.getfield 80, 3) := by decide +kernel
theorem dX11_apart_28 : decode cX11_apart 28 = .ok (.iload_n 2, 1) := by decide +kernel
theorem dX11_apart_29 : decode cX11_apart 29 = .ok (.aaload, 1) := by decide +kernel
theorem dX11_apart_30 : decode cX11_apart 30 = .ok (.invokevirtual 138, 3) := by decide +kernel
theorem dX11_apart_33 : decode cX11_apart 33 = .ok (.goto 5, 3) := by decide +kernel
theorem dX11_apart_36 : decode cX11_apart 36 = .ok (.bipush (-101), 2) := by decide +kernel
theorem dX11_apart_38 : decode cX11_apart 38 = .ok (.ireturn, 1) := by decide +kernel
theorem dX11_carry_0 : decode cX11_carry 0 = .ok (.aload_n 0, 1) := by decide +kernel
theorem dX11_carry_1 : decode cX11_carry 1 = .ok (.getfield 19, 3) := by decide +kernel
theorem dX11_carry_4 : decode cX11_carry 4 = .ok (.iload_n 1, 1) := by decide +kernel
theorem dX11_carry_5 : decode cX11_carry 5 = .ok (.invokevirtual 77, 3) := by decide +kernel
theorem dX11_carry_8 : decode cX11_carry 8 = .ok (.ifCond .eq 10, 3) := by decide +kernel
theorem dX11_carry_11 : decode cX11_carry 11 = .ok (.iload_n 2, 1) := by decide +kernel
theorem dX11_carry_12 : decode cX11_carry 12 = .ok (.invokestatic 142, 3) := by decide +kernel
theorem dX11_carry_15 : decode cX11_carry 15 = .ok (.ifCond .ne 6, 3) := by decide +kernel
theorem dX11_carry_18 : decode cX11_carry 18 = .ok (.bipush (-101), 2) := by decide +kernel
theorem dX11_carry_20 : decode cX11_carry 20 = .ok (.ireturn, 1) := by decide +kernel
theorem dX11_carry_21 : decode cX11_carry 21 = .ok (.aload_n 0, 1) := by decide +kernel
theorem dX11_carry_22 : decode cX11_carry 22 = .ok (.getfield 19, 3) := by decide +kernel
theorem dX11_carry_25 : decode cX11_carry 25 = .ok (.iload_n 1, 1) := by decide +kernel
theorem dX11_carry_26 : decode cX11_carry 26 = .ok (.invokevirtual 145, 3) := by decide +kernel
theorem dX11_carry_29 : decode cX11_carry 29 = .ok (.ifCond .eq 6, 3) := by decide +kernel
theorem dX11_carry_32 : decode cX11_carry 32 = .ok (.bipush (-103), 2) := by decide +kernel
theorem dX11_carry_34 : decode cX11_carry 34 = .ok (.ireturn, 1) := by decide +kernel
theorem dX11_carry_35 : decode cX11_carry 35 = .ok (.aload_n 0, 1) := by decide +kernel
theorem dX11_carry_36 : decode cX11_carry 36 = .ok (.getfield 19, 3) := by decide +kernel
theorem dX11_carry_39 : decode cX11_carry 39 = .ok (.iload_n 1, 1) := by decide +kernel
theorem dX11_carry_40 : decode cX11_carry 40 = .ok (.iload_n 2, 1) := by decide +kernel
theorem dX11_carry_41 : decode cX11_carry 41 = .ok (.invokevirtual 148, 3) := by decide +kernel
theorem dX11_carry_44 : decode cX11_carry 44 = .ok (.ireturn, 1) := by decide +kernel
theorem dX11_bring_0 : decode cX11_bring 0 = .ok (.aload_n 0, 1) := by decide +kernel
theorem dX11_bring_1 : decode cX11_bring 1 = .ok (.getfield 19, 3) := by decide +kernel
theorem dX11_bring_4 : decode cX11_bring 4 = .ok (.iload_n 1, 1) := by decide +kernel
theorem dX11_bring_5 : decode cX11_bring 5 = .ok (.iload_n 2, 1) := by decide +kernel
theorem dX11_bring_6 : decode cX11_bring 6 = .ok (.invokevirtual 131, 3) := by decide +kernel
theorem dX11_bring_9 : decode cX11_bring 9 = .ok (.ifCond .ne 6, 3) := by decide +kernel
theorem dX11_bring_12 : decode cX11_bring 12 = .ok (.bipush (-101), 2) := by decide +kernel
theorem dX11_bring_14 : decode cX11_bring 14 = .ok (.ireturn, 1) := by decide +kernel
theorem dX11_bring_15 : decode cX11_bring 15 = .ok (.aload_n 0, 1) := by decide +kernel
theorem dX11_bring_16 : decode cX11_bring 16 = .ok (.getfield 19, 3) := by decide +kernel
theorem dX11_bring_19 : decode cX11_bring 19 = .ok (.iload_n 1, 1) := by decide +kernel
theorem dX11_bring_20 : decode cX11_bring 20 = .ok (.iload_n 2, 1) := by decide +kernel
theorem dX11_bring_21 : decode cX11_bring 21 = .ok (.invokevirtual 151, 3) := by decide +kernel
theorem dX11_bring_24 : decode cX11_bring 24 = .ok (.ifCond .ne 6, 3) := by decide +kernel
theorem dX11_bring_27 : decode cX11_bring 27 = .ok (.bipush (-103), 2) := by decide +kernel
theorem dX11_bring_29 : decode cX11_bring 29 = .ok (.ireturn, 1) := by decide +kernel
theorem dX11_bring_30 : decode cX11_bring 30 = .ok (.aload_n 0, 1) := by decide +kernel
theorem dX11_bring_31 : decode cX11_bring 31 = .ok (.getfield 19, 3) := by decide +kernel
theorem dX11_bring_34 : decode cX11_bring 34 = .ok (.iload_n 1, 1) := by decide +kernel
theorem dX11_bring_35 : decode cX11_bring 35 = .ok (.iload_n 2, 1) := by decide +kernel
theorem dX11_bring_36 : decode cX11_bring 36 = .ok (.invokevirtual 154, 3) := by decide +kernel
theorem dX11_bring_39 : decode cX11_bring 39 = .ok (.aload_n 0, 1) := by decide +kernel
theorem dX11_bring_40 : decode cX11_bring 40 = .ok (.getfield 19, 3) := by decide +kernel
theorem dX11_bring_43 : decode cX11_bring 43 = .ok (.dup, 1) := by decide +kernel
theorem dX11_bring_44 : decode cX11_bring 44 = .ok (.getfield 158, 3) := by decide +kernel
theorem dX11_bring_47 : decode cX11_bring 47 = .ok (.iconst 1, 1) := by decide +kernel
theorem dX11_bring_48 : decode cX11_bring 48 = .ok (.iadd, 1) := by decide +kernel
theorem dX11_bring_49 : decode cX11_bring 49 = .ok (.putfield 158, 3) := by decide +kernel
theorem dX11_bring_52 : decode cX11_bring 52 = .ok (.aload_n 0, 1) := by decide +kernel
theorem dX11_bring_53 : decode cX11_bring 53 = .ok (.getfield 19, 3) := by decide +kernel
theorem dX11_bring_56 : decode cX11_bring 56 = .ok (.iload_n 1, 1) := by decide +kernel
theorem dX11_bring_57 : decode cX11_bring 57 = .ok (.iload_n 2, 1) := by decide +kernel
theorem dX11_bring_58 : decode cX11_bring 58 = .ok (.invokevirtual 135, 3) := by decide +kernel
theorem dX11_bring_61 : decode cX11_bring 61 = .ok (.ireturn, 1) := by decide +kernel
theorem dX11_part_0 : decode cX11_part 0 = .ok (.aload_n 0, 1) := by decide +kernel
theorem dX11_part_1 : decode cX11_part 1 = .ok (.getfield 19, 3) := by decide +kernel
theorem dX11_part_4 : decode cX11_part 4 = .ok (.iload_n 1, 1) := by decide +kernel
theorem dX11_part_5 : decode cX11_part 5 = .ok (.invokevirtual 77, 3) := by decide +kernel
theorem dX11_part_8 : decode cX11_part 8 = .ok (.ifCond .ne 6, 3) := by decide +kernel
theorem dX11_part_11 : decode cX11_part 11 = .ok (.bipush (-101), 2) := by decide +kernel
theorem dX11_part_13 : decode cX11_part 13 = .ok (.ireturn, 1) := by decide +kernel
theorem dX11_part_14 : decode cX11_part 14 = .ok (.aload_n 0, 1) := by decide +kernel
theorem dX11_part_15 : decode cX11_part 15 = .ok (.getfield 19, 3) := by decide +kernel
theorem dX11_part_18 : decode cX11_part 18 = .ok (.iload_n 1, 1) := by decide +kernel
theorem dX11_part_19 : decode cX11_part 19 = .ok (.invokevirtual 145, 3) := by decide +kernel
theorem dX11_part_22 : decode cX11_part 22 = .ok (.ifCond .ne 6, 3) := by decide +kernel
theorem dX11_part_25 : decode cX11_part 25 = .ok (.bipush (-103), 2) := by decide +kernel
theorem dX11_part_27 : decode cX11_part 27 = .ok (.ireturn, 1) := by decide +kernel
theorem dX11_part_28 : decode cX11_part 28 = .ok (.aload_n 0, 1) := by decide +kernel
theorem dX11_part_29 : decode cX11_part 29 = .ok (.getfield 19, 3) := by decide +kernel
theorem dX11_part_32 : decode cX11_part 32 = .ok (.getfield 80, 3) := by decide +kernel
theorem dX11_part_35 : decode cX11_part 35 = .ok (.iload_n 1, 1) := by decide +kernel
theorem dX11_part_36 : decode cX11_part 36 = .ok (.aaload, 1) := by decide +kernel
theorem dX11_part_37 : decode cX11_part 37 = .ok (.getfield 96, 3) := by decide +kernel
theorem dX11_part_40 : decode cX11_part 40 = .ok (.istore_n 2, 1) := by decide +kernel
theorem dX11_part_41 : decode cX11_part 41 = .ok (.aload_n 0, 1) := by decide +kernel
theorem dX11_part_42 : decode cX11_part 42 = .ok (.getfield 19, 3) := by decide +kernel
theorem dX11_part_45 : decode cX11_part 45 = .ok (.iload_n 1, 1) := by decide +kernel
theorem dX11_part_46 : decode cX11_part 46 = .ok (.invokevirtual 161, 3) := by decide +kernel
theorem dX11_part_49 : decode cX11_part 49 = .ok (.aload_n 0, 1) := by decide +kernel
theorem dX11_part_50 : decode cX11_part 50 = .ok (.getfield 19, 3) := by decide +kernel
theorem dX11_part_53 : decode cX11_part 53 = .ok (.dup, 1) := by decide +kernel
theorem dX11_part_54 : decode cX11_part 54 = .ok (.getfield 165, 3) := by decide +kernel
theorem dX11_part_57 : decode cX11_part 57 = .ok (.iconst 1, 1) := by decide +kernel
theorem dX11_part_58 : decode cX11_part 58 = .ok (.iadd, 1) := by decide +kernel
theorem dX11_part_59 : decode cX11_part 59 = .ok (.putfield 165, 3) := by decide +kernel
theorem dX11_part_62 : decode cX11_part 62 = .ok (.iload_n 2, 1) := by decide +kernel
theorem dX11_part_63 : decode cX11_part 63 = .ok (.ireturn, 1) := by decide +kernel
theorem dX11_shrink_0 : decode cX11_shrink 0 = .ok (.aload_n 0, 1) := by decide +kernel
theorem dX11_shrink_1 : decode cX11_shrink 1 = .ok (.getfield 19, 3) := by decide +kernel
theorem dX11_shrink_4 : decode cX11_shrink 4 = .ok (.iload_n 1, 1) := by decide +kernel
theorem dX11_shrink_5 : decode cX11_shrink 5 = .ok (.invokevirtual 77, 3) := by decide +kernel
theorem dX11_shrink_8 : decode cX11_shrink 8 = .ok (.ifCond .ne 6, 3) := by decide +kernel
theorem dX11_shrink_11 : decode cX11_shrink 11 = .ok (.bipush (-101), 2) := by decide +kernel
theorem dX11_shrink_13 : decode cX11_shrink 13 = .ok (.ireturn, 1) := by decide +kernel
theorem dX11_shrink_14 : decode cX11_shrink 14 = .ok (.iload_n 2, 1) := by decide +kernel
theorem dX11_shrink_15 : decode cX11_shrink 15 = .ok (.ifCond .lt 9, 3) := by decide +kernel
theorem dX11_shrink_18 : decode cX11_shrink 18 = .ok (.iload_n 2, 1) := by decide +kernel
theorem dX11_shrink_19 : decode cX11_shrink 19 = .ok (.bipush 10, 2) := by decide +kernel
theorem dX11_shrink_21 : decode cX11_shrink 21 = .ok (.if_icmp .lt 6, 3) := by decide +kernel
theorem dX11_shrink_24 : decode cX11_shrink 24 = .ok (.bipush (-102), 2) := by decide +kernel
theorem dX11_shrink_26 : decode cX11_shrink 26 = .ok (.ireturn, 1) := by decide +kernel
theorem dX11_shrink_27 : decode cX11_shrink 27 = .ok (.aload_n 0, 1) := by decide +kernel
theorem dX11_shrink_28 : decode cX11_shrink 28 = .ok (.getfield 19, 3) := by decide +kernel
theorem dX11_shrink_31 : decode cX11_shrink 31 = .ok (.iload_n 1, 1) := by decide +kernel
theorem dX11_shrink_32 : decode cX11_shrink 32 = .ok (.invokevirtual 145, 3) := by decide +kernel
theorem dX11_shrink_35 : decode cX11_shrink 35 = .ok (.ifCond .eq 6, 3) := by decide +kernel
theorem dX11_shrink_38 : decode cX11_shrink 38 = .ok (.bipush (-103), 2) := by decide +kernel
theorem dX11_shrink_40 : decode cX11_shrink 40 = .ok (.ireturn, 1) := by decide +kernel
theorem dX11_shrink_41 : decode cX11_shrink 41 = .ok (.aload_n 0, 1) := by decide +kernel
theorem dX11_shrink_42 : decode cX11_shrink 42 = .ok (.getfield 19, 3) := by decide +kernel
theorem dX11_shrink_45 : decode cX11_shrink 45 = .ok (.getfield 80, 3) := by decide +kernel
theorem dX11_shrink_48 : decode cX11_shrink 48 = .ok (.iload_n 1, 1) := by decide +kernel
theorem dX11_shrink_49 : decode cX11_shrink 49 = .ok (.aaload, 1) := by decide +kernel
theorem dX11_shrink_50 : decode cX11_shrink 50 = .ok (.getfield 92, 3) := by decide +kernel
theorem dX11_shrink_53 : decode cX11_shrink 53 = .ok (.istore_n 3, 1) := by decide +kernel
theorem dX11_shrink_54 : decode cX11_shrink 54 = .ok (.aload_n 0, 1) := by decide +kernel
theorem dX11_shrink_55 : decode cX11_shrink 55 = .ok (.getfield 19, 3) := by decide +kernel
theorem dX11_shrink_58 : decode cX11_shrink 58 = .ok (.getfield 80, 3) := by decide +kernel
theorem dX11_shrink_61 : decode cX11_shrink 61 = .ok (.iload_n 1, 1) := by decide +kernel
theorem dX11_shrink_62 : decode cX11_shrink 62 = .ok (.aaload, 1) := by decide +kernel
theorem dX11_shrink_63 : decode cX11_shrink 63 = .ok (.iload_n 2, 1) := by decide +kernel
theorem dX11_shrink_64 : decode cX11_shrink 64 = .ok (.putfield 92, 3) := by decide +kernel
theorem dX11_shrink_67 : decode cX11_shrink 67 = .ok (.iload_n 3, 1) := by decide +kernel
theorem dX11_shrink_68 : decode cX11_shrink 68 = .ok (.ireturn, 1) := by decide +kernel
theorem dX11_may_0 : decode cX11_may 0 = .ok (.aload_n 0, 1) := by decide +kernel
theorem dX11_may_1 : decode cX11_may 1 = .ok (.getfield 19, 3) := by decide +kernel
theorem dX11_may_4 : decode cX11_may 4 = .ok (.invokevirtual 168, 3) := by decide +kernel
theorem dX11_may_7 : decode cX11_may 7 = .ok (.ifCond .eq 6, 3) := by decide +kernel
theorem dX11_may_10 : decode cX11_may 10 = .ok (.bipush (-103), 2) := by decide +kernel
theorem dX11_may_12 : decode cX11_may 12 = .ok (.ireturn, 1) := by decide +kernel
theorem dX11_may_13 : decode cX11_may 13 = .ok (.aload_n 0, 1) := by decide +kernel
theorem dX11_may_14 : decode cX11_may 14 = .ok (.getfield 19, 3) := by decide +kernel
theorem dX11_may_17 : decode cX11_may 17 = .ok (.invokevirtual 171, 3) := by decide +kernel
theorem dX11_may_20 : decode cX11_may 20 = .ok (.aload_n 0, 1) := by decide +kernel
theorem dX11_may_21 : decode cX11_may 21 = .ok (.getfield 19, 3) := by decide +kernel
theorem dX11_may_24 : decode cX11_may 24 = .ok (.dup, 1) := by decide +kernel
theorem dX11_may_25 : decode cX11_may 25 = .ok (.getfield 174, 3) := by decide +kernel
theorem dX11_may_28 : decode cX11_may 28 = .ok (.iconst 1, 1) := by decide +kernel
theorem dX11_may_29 : decode cX11_may 29 = .ok (.iadd, 1) := by decide +kernel
theorem dX11_may_30 : decode cX11_may 30 = .ok (.putfield 174, 3) := by decide +kernel
theorem dX11_may_33 : decode cX11_may 33 = .ok (.aload_n 0, 1) := by decide +kernel
theorem dX11_may_34 : decode cX11_may 34 = .ok (.getfield 19, 3) := by decide +kernel
theorem dX11_may_37 : decode cX11_may 37 = .ok (.invokevirtual 177, 3) := by decide +kernel
theorem dX11_may_40 : decode cX11_may 40 = .ok (.ireturn, 1) := by decide +kernel
theorem dX11_most_0 : decode cX11_most 0 = .ok (.iload_n 1, 1) := by decide +kernel
theorem dX11_most_1 : decode cX11_most 1 = .ok (.invokestatic 180, 3) := by decide +kernel
theorem dX11_most_4 : decode cX11_most 4 = .ok (.ifCond .ne 6, 3) := by decide +kernel
theorem dX11_most_7 : decode cX11_most 7 = .ok (.bipush (-102), 2) := by decide +kernel
theorem dX11_most_9 : decode cX11_most 9 = .ok (.ireturn, 1) := by decide +kernel
theorem dX11_most_10 : decode cX11_most 10 = .ok (.aload_n 0, 1) := by decide +kernel
theorem dX11_most_11 : decode cX11_most 11 = .ok (.getfield 19, 3) := by decide +kernel
theorem dX11_most_14 : decode cX11_most 14 = .ok (.invokevirtual 168, 3) := by decide +kernel
theorem dX11_most_17 : decode cX11_most 17 = .ok (.ifCond .eq 6, 3) := by decide +kernel
theorem dX11_most_20 : decode cX11_most 20 = .ok (.bipush (-103), 2) := by decide +kernel
theorem dX11_most_22 : decode cX11_most 22 = .ok (.ireturn, 1) := by decide +kernel
theorem dX11_most_23 : decode cX11_most 23 = .ok (.aload_n 0, 1) := by decide +kernel
theorem dX11_most_24 : decode cX11_most 24 = .ok (.getfield 33, 3) := by decide +kernel
theorem dX11_most_27 : decode cX11_most 27 = .ok (.aload_n 0, 1) := by decide +kernel
theorem dX11_most_28 : decode cX11_most 28 = .ok (.getfield 19, 3) := by decide +kernel
theorem dX11_most_31 : decode cX11_most 31 = .ok (.iconst 0, 1) := by decide +kernel
theorem dX11_most_32 : decode cX11_most 32 = .ok (.bipush 30, 2) := by decide +kernel
theorem dX11_most_34 : decode cX11_most 34 = .ok (.invokevirtual 183, 3) := by decide +kernel
theorem dX11_most_37 : decode cX11_most 37 = .ok (.aload_n 0, 1) := by decide +kernel
theorem dX11_most_38 : decode cX11_most 38 = .ok (.iload_n 1, 1) := by decide +kernel
theorem dX11_most_39 : decode cX11_most 39 = .ok (.invokevirtual 187, 3) := by decide +kernel
theorem dX11_most_42 : decode cX11_most 42 = .ok (.ireturn, 1) := by decide +kernel
theorem dX11_best_0 : decode cX11_best 0 = .ok (.iload_n 1, 1) := by decide +kernel
theorem dX11_best_1 : decode cX11_best 1 = .ok (.ifCond .lt 16, 3) := by decide +kernel
theorem dX11_best_4 : decode cX11_best 4 = .ok (.iload_n 1, 1) := by decide +kernel
theorem dX11_best_5 : decode cX11_best 5 = .ok (.bipush 30, 2) := by decide +kernel
theorem dX11_best_7 : decode cX11_best 7 = .ok (.if_icmp .gt 10, 3) := by decide +kernel
theorem dX11_best_10 : decode cX11_best 10 = .ok (.iload_n 2, 1) := by decide +kernel
theorem dX11_best_11 : decode cX11_best 11 = .ok (.invokestatic 180, 3) := by decide +kernel
theorem dX11_best_14 : decode cX11_best 14 = .ok (.ifCond .ne 6, 3) := by decide +kernel
theorem dX11_best_17 : decode cX11_best 17 = .ok (.bipush (-102), 2) := by decide +kernel
theorem dX11_best_19 : decode cX11_best 19 = .ok (.ireturn, 1) := by decide +kernel
theorem dX11_best_20 : decode cX11_best 20 = .ok (.aload_n 0, 1) := by decide +kernel
theorem dX11_best_21 : decode cX11_best 21 = .ok (.getfield 19, 3) := by decide +kernel
theorem dX11_best_24 : decode cX11_best 24 = .ok (.invokevirtual 168, 3) := by decide +kernel
theorem dX11_best_27 : decode cX11_best 27 = .ok (.ifCond .eq 6, 3) := by decide +kernel
theorem dX11_best_30 : decode cX11_best 30 = .ok (.bipush (-103), 2) := by decide +kernel
theorem dX11_best_32 : decode cX11_best 32 = .ok (.ireturn, 1) := by decide +kernel
theorem dX11_best_33 : decode cX11_best 33 = .ok (.aload_n 0, 1) := by decide +kernel
theorem dX11_best_34 : decode cX11_best 34 = .ok (.getfield 33, 3) := by decide +kernel
theorem dX11_best_37 : decode cX11_best 37 = .ok (.aload_n 0, 1) := by decide +kernel
theorem dX11_best_38 : decode cX11_best 38 = .ok (.getfield 19, 3) := by decide +kernel
theorem dX11_best_41 : decode cX11_best 41 = .ok (.iconst 1, 1) := by decide +kernel
theorem dX11_best_42 : decode cX11_best 42 = .ok (.iload_n 1, 1) := by decide +kernel
theorem dX11_best_43 : decode cX11_best 43 = .ok (.invokevirtual 183, 3) := by decide +kernel
theorem dX11_best_46 : decode cX11_best 46 = .ok (.aload_n 0, 1) := by decide +kernel
theorem dX11_best_47 : decode cX11_best 47 = .ok (.iload_n 2, 1) := by decide +kernel
theorem dX11_best_48 : decode cX11_best 48 = .ok (.invokevirtual 190, 3) := by decide +kernel
theorem dX11_best_51 : decode cX11_best 51 = .ok (.ireturn, 1) := by decide +kernel
theorem dX11_stable_0 : decode cX11_stable 0 = .ok (.iload_n 1, 1) := by decide +kernel
theorem dX11_stable_1 : decode cX11_stable 1 = .ok (.invokestatic 180, 3) := by decide +kernel
theorem dX11_stable_4 : decode cX11_stable 4 = .ok (.ifCond .ne 6, 3) := by decide +kernel
theorem dX11_stable_7 : decode cX11_stable 7 = .ok (.bipush (-102), 2) := by decide +kernel
theorem dX11_stable_9 : decode cX11_stable 9 = .ok (.ireturn, 1) := by decide +kernel
theorem dX11_stable_10 : decode cX11_stable 10 = .ok (.aload_n 0, 1) := by decide +kernel
theorem dX11_stable_11 : decode cX11_stable 11 = .ok (.getfield 19, 3) := by decide +kernel
theorem dX11_stable_14 : decode cX11_stable 14 = .ok (.invokevirtual 168, 3) := by decide +kernel
theorem dX11_stable_17 : decode cX11_stable 17 = .ok (.ifCond .eq 6, 3) := by decide +kernel
theorem dX11_stable_20 : decode cX11_stable 20 = .ok (.bipush (-103), 2) := by decide +kernel
theorem dX11_stable_22 : decode cX11_stable 22 = .ok (.ireturn, 1) := by decide +kernel
theorem dX11_stable_23 : decode cX11_stable 23 = .ok (.aload_n 0, 1) := by decide +kernel
theorem dX11_stable_24 : decode cX11_stable 24 = .ok (.getfield 33, 3) := by decide +kernel
theorem dX11_stable_27 : decode cX11_stable 27 = .ok (.aload_n 0, 1) := by decide +kernel
theorem dX11_stable_28 : decode cX11_stable 28 = .ok (.getfield 19, 3) := by decide +kernel
theorem dX11_stable_31 : decode cX11_stable 31 = .ok (.iconst 2, 1) := by decide +kernel
theorem dX11_stable_32 : decode cX11_stable 32 = .ok (.bipush 30, 2) := by decide +kernel
theorem dX11_stable_34 : decode cX11_stable 34 = .ok (.invokevirtual 183, 3) := by decide +kernel
theorem dX11_stable_37 : decode cX11_stable 37 = .ok (.aload_n 0, 1) := by decide +kernel
theorem dX11_stable_38 : decode cX11_stable 38 = .ok (.iload_n 1, 1) := by decide +kernel
theorem dX11_stable_39 : decode cX11_stable 39 = .ok (.invokevirtual 193, 3) := by decide +kernel
theorem dX11_stable_42 : decode cX11_stable 42 = .ok (.ireturn, 1) := by decide +kernel
theorem dX11_happy_0 : decode cX11_happy 0 = .ok (.aload_n 0, 1) := by decide +kernel
theorem dX11_happy_1 : decode cX11_happy 1 = .ok (.getfield 19, 3) := by decide +kernel
theorem dX11_happy_4 : decode cX11_happy 4 = .ok (.iload_n 1, 1) := by decide +kernel
theorem dX11_happy_5 : decode cX11_happy 5 = .ok (.invokevirtual 77, 3) := by decide +kernel
theorem dX11_happy_8 : decode cX11_happy 8 = .ok (.ifCond .ne 6, 3) := by decide +kernel
theorem dX11_happy_11 : decode cX11_happy 11 = .ok (.bipush (-101), 2) := by decide +kernel
theorem dX11_happy_13 : decode cX11_happy 13 = .ok (.ireturn, 1) := by decide +kernel
theorem dX11_happy_14 : decode cX11_happy 14 = .ok (.aload_n 0, 1) := by decide +kernel
theorem dX11_happy_15 : decode cX11_happy 15 = .ok (.getfield 19, 3) := by decide +kernel
theorem dX11_happy_18 : decode cX11_happy 18 = .ok (.iload_n 1, 1) := by decide +kernel
theorem dX11_happy_19 : decode cX11_happy 19 = .ok (.invokevirtual 145, 3) := by decide +kernel
theorem dX11_happy_22 : decode cX11_happy 22 = .ok (.ifCond .ne 6, 3) := by decide +kernel
theorem dX11_happy_25 : decode cX11_happy 25 = .ok (.bipush (-103), 2) := by decide +kernel
theorem dX11_happy_27 : decode cX11_happy 27 = .ok (.ireturn, 1) := by decide +kernel
theorem dX11_happy_28 : decode cX11_happy 28 = .ok (.aload_n 0, 1) := by decide +kernel
theorem dX11_happy_29 : decode cX11_happy 29 = .ok (.getfield 19, 3) := by decide +kernel
theorem dX11_happy_32 : decode cX11_happy 32 = .ok (.getfield 80, 3) := by decide +kernel
theorem dX11_happy_35 : decode cX11_happy 35 = .ok (.iload_n 1, 1) := by decide +kernel
theorem dX11_happy_36 : decode cX11_happy 36 = .ok (.aaload, 1) := by decide +kernel
theorem dX11_happy_37 : decode cX11_happy 37 = .ok (.getfield 96, 3) := by decide +kernel
theorem dX11_happy_40 : decode cX11_happy 40 = .ok (.istore_n 2, 1) := by decide +kernel
theorem dX11_happy_41 : decode cX11_happy 41 = .ok (.aload_n 0, 1) := by decide +kernel
theorem dX11_happy_42 : decode cX11_happy 42 = .ok (.getfield 19, 3) := by decide +kernel
theorem dX11_happy_45 : decode cX11_happy 45 = .ok (.iload_n 1, 1) := by decide +kernel
theorem dX11_happy_46 : decode cX11_happy 46 = .ok (.invokevirtual 103, 3) := by decide +kernel
theorem dX11_happy_49 : decode cX11_happy 49 = .ok (.iload_n 2, 1) := by decide +kernel
theorem dX11_happy_50 : decode cX11_happy 50 = .ok (.if_icmp .ne 19, 3) := by decide +kernel
theorem dX11_happy_53 : decode cX11_happy 53 = .ok (.aload_n 0, 1) := by decide +kernel
theorem dX11_happy_54 : decode cX11_happy 54 = .ok (.getfield 19, 3) := by decide +kernel
theorem dX11_happy_57 : decode cX11_happy 57 = .ok (.iload_n 2, 1) := by decide +kernel
theorem dX11_happy_58 : decode cX11_happy 58 = .ok (.invokevirtual 103, 3) := by decide +kernel
theorem dX11_happy_61 : decode cX11_happy 61 = .ok (.iload_n 1, 1) := by decide +kernel
theorem dX11_happy_62 : decode cX11_happy 62 = .ok (.if_icmp .ne 7, 3) := by decide +kernel
theorem dX11_happy_65 : decode cX11_happy 65 = .ok (.iconst 1, 1) := by decide +kernel
theorem dX11_happy_66 : decode cX11_happy 66 = .ok (.goto 4, 3) := by decide +kernel
theorem dX11_happy_69 : decode cX11_happy 69 = .ok (.iconst 0, 1) := by decide +kernel
theorem dX11_happy_70 : decode cX11_happy 70 = .ok (.ireturn, 1) := by decide +kernel
theorem dX11_round_0 : decode cX11_round 0 = .ok (.iload_n 1, 1) := by decide +kernel
theorem dX11_round_1 : decode cX11_round 1 = .ok (.invokestatic 142, 3) := by decide +kernel
theorem dX11_round_4 : decode cX11_round 4 = .ok (.ifCond .eq 13, 3) := by decide +kernel
theorem dX11_round_7 : decode cX11_round 7 = .ok (.aload_n 0, 1) := by decide +kernel
theorem dX11_round_8 : decode cX11_round 8 = .ok (.getfield 19, 3) := by decide +kernel
theorem dX11_round_11 : decode cX11_round 11 = .ok (.invokevirtual 168, 3) := by decide +kernel
theorem dX11_round_14 : decode cX11_round 14 = .ok (.ifCond .eq 6, 3) := by decide +kernel
theorem dX11_round_17 : decode cX11_round 17 = .ok (.bipush (-101), 2) := by decide +kernel
theorem dX11_round_19 : decode cX11_round 19 = .ok (.ireturn, 1) := by decide +kernel
theorem dX11_round_20 : decode cX11_round 20 = .ok (.aload_n 0, 1) := by decide +kernel
theorem dX11_round_21 : decode cX11_round 21 = .ok (.getfield 19, 3) := by decide +kernel
theorem dX11_round_24 : decode cX11_round 24 = .ok (.iload_n 1, 1) := by decide +kernel
theorem dX11_round_25 : decode cX11_round 25 = .ok (.invokevirtual 196, 3) := by decide +kernel
theorem dX11_round_28 : decode cX11_round 28 = .ok (.ireturn, 1) := by decide +kernel
theorem dX11_odds_0 : decode cX11_odds 0 = .ok (.iload_n 1, 1) := by decide +kernel
theorem dX11_odds_1 : decode cX11_odds 1 = .ok (.ifCond .eq 11, 3) := by decide +kernel
theorem dX11_odds_4 : decode cX11_odds 4 = .ok (.iload_n 1, 1) := by decide +kernel
theorem dX11_odds_5 : decode cX11_odds 5 = .ok (.iconst 1, 1) := by decide +kernel
theorem dX11_odds_6 : decode cX11_odds 6 = .ok (.if_icmp .eq 6, 3) := by decide +kernel
theorem dX11_odds_9 : decode cX11_odds 9 = .ok (.bipush (-102), 2) := by decide +kernel
theorem dX11_odds_11 : decode cX11_odds 11 = .ok (.ireturn, 1) := by decide +kernel
theorem dX11_odds_12 : decode cX11_odds 12 = .ok (.aload_n 0, 1) := by decide +kernel
theorem dX11_odds_13 : decode cX11_odds 13 = .ok (.getfield 19, 3) := by decide +kernel
theorem dX11_odds_16 : decode cX11_odds 16 = .ok (.invokevirtual 168, 3) := by decide +kernel
theorem dX11_odds_19 : decode cX11_odds 19 = .ok (.ifCond .eq 6, 3) := by decide +kernel
theorem dX11_odds_22 : decode cX11_odds 22 = .ok (.bipush (-103), 2) := by decide +kernel
theorem dX11_odds_24 : decode cX11_odds 24 = .ok (.ireturn, 1) := by decide +kernel
theorem dX11_odds_25 : decode cX11_odds 25 = .ok (.aload_n 0, 1) := by decide +kernel
theorem dX11_odds_26 : decode cX11_odds 26 = .ok (.getfield 19, 3) := by decide +kernel
theorem dX11_odds_29 : decode cX11_odds 29 = .ok (.invokevirtual 199, 3) := by decide +kernel
theorem dX11_odds_32 : decode cX11_odds 32 = .ok (.istore_n 2, 1) := by decide +kernel
theorem dX11_odds_33 : decode cX11_odds 33 = .ok (.aload_n 0, 1) := by decide +kernel
theorem dX11_odds_34 : decode cX11_odds 34 = .ok (.getfield 19, 3) := by decide +kernel
theorem dX11_odds_37 : decode cX11_odds 37 = .ok (.invokevirtual 202, 3) := by decide +kernel
theorem dX11_odds_40 : decode cX11_odds 40 = .ok (.istore_n 3, 1) := by decide +kernel
theorem dX11_odds_41 : decode cX11_odds 41 = .ok (.iload_n 3, 1) := by decide +kernel
theorem dX11_odds_42 : decode cX11_odds 42 = .ok (.ifCond .ne 13, 3) := by decide +kernel
theorem dX11_odds_45 : decode cX11_odds 45 = .ok (.iload_n 1, 1) := by decide +kernel
theorem dX11_odds_46 : decode cX11_odds 46 = .ok (.ifCond .ne 7, 3) := by decide +kernel
theorem dX11_odds_49 : decode cX11_odds 49 = .ok (.iconst 0, 1) := by decide +kernel
theorem dX11_odds_50 : decode cX11_odds 50 = .ok (.goto 4, 3) := by decide +kernel
theorem dX11_odds_53 : decode cX11_odds 53 = .ok (.iconst 1, 1) := by decide +kernel
theorem dX11_odds_54 : decode cX11_odds 54 = .ok (.ireturn, 1) := by decide +kernel
theorem dX11_odds_55 : decode cX11_odds 55 = .ok (.iload_n 2, 1) := by decide +kernel
theorem dX11_odds_56 : decode cX11_odds 56 = .ok (.iload_n 3, 1) := by decide +kernel
theorem dX11_odds_57 : decode cX11_odds 57 = .ok (.invokestatic 205, 3) := by decide +kernel
theorem dX11_odds_60 : decode cX11_odds 60 = .ok (.istore 4, 2) := by decide +kernel
theorem dX11_odds_62 : decode cX11_odds 62 = .ok (.iload_n 1, 1) := by decide +kernel
theorem dX11_odds_63 : decode cX11_odds 63 = .ok (.ifCond .ne 10, 3) := by decide +kernel
theorem dX11_odds_66 : decode cX11_odds 66 = .ok (.iload_n 2, 1) := by decide +kernel
theorem dX11_odds_67 : decode cX11_odds 67 = .ok (.iload 4, 2) := by decide +kernel
theorem dX11_odds_69 : decode cX11_odds 69 = .ok (.idiv, 1) := by decide +kernel
theorem dX11_odds_70 : decode cX11_odds 70 = .ok (.goto 7, 3) := by decide +kernel
theorem dX11_odds_73 : decode cX11_odds 73 = .ok (.iload_n 3, 1) := by decide +kernel
theorem dX11_odds_74 : decode cX11_odds 74 = .ok (.iload 4, 2) := by decide +kernel
theorem dX11_odds_76 : decode cX11_odds 76 = .ok (.idiv, 1) := by decide +kernel
theorem dX11_odds_77 : decode cX11_odds 77 = .ok (.ireturn, 1) := by decide +kernel
theorem dX11_see_0 : decode cX11_see 0 = .ok (.aload_n 0, 1) := by decide +kernel
theorem dX11_see_1 : decode cX11_see 1 = .ok (.getfield 19, 3) := by decide +kernel
theorem dX11_see_4 : decode cX11_see 4 = .ok (.iload_n 1, 1) := by decide +kernel
theorem dX11_see_5 : decode cX11_see 5 = .ok (.iload_n 2, 1) := by decide +kernel
theorem dX11_see_6 : decode cX11_see 6 = .ok (.invokevirtual 131, 3) := by decide +kernel
theorem dX11_see_9 : decode cX11_see 9 = .ok (.ifCond .ne 6, 3) := by decide +kernel
theorem dX11_see_12 : decode cX11_see 12 = .ok (.bipush (-101), 2) := by decide +kernel
theorem dX11_see_14 : decode cX11_see 14 = .ok (.ireturn, 1) := by decide +kernel
theorem dX11_see_15 : decode cX11_see 15 = .ok (.iload_n 3, 1) := by decide +kernel
theorem dX11_see_16 : decode cX11_see 16 = .ok (.iconst (-1), 1) := by decide +kernel
theorem dX11_see_17 : decode cX11_see 17 = .ok (.if_icmp .eq 16, 3) := by decide +kernel
theorem dX11_see_20 : decode cX11_see 20 = .ok (.iload_n 3, 1) := by decide +kernel
theorem dX11_see_21 : decode cX11_see 21 = .ok (.ifCond .lt 9, 3) := by decide +kernel
theorem dX11_see_24 : decode cX11_see 24 = .ok (.iload_n 3, 1) := by decide +kernel
theorem dX11_see_25 : decode cX11_see 25 = .ok (.bipush 18, 2) := by decide +kernel
theorem dX11_see_27 : decode cX11_see 27 = .ok (.if_icmp .le 6, 3) := by decide +kernel
theorem dX11_see_30 : decode cX11_see 30 = .ok (.bipush (-102), 2) := by decide +kernel
theorem dX11_see_32 : decode cX11_see 32 = .ok (.ireturn, 1) := by decide +kernel
theorem dX11_see_33 : decode cX11_see 33 = .ok (.aload_n 0, 1) := by decide +kernel
theorem dX11_see_34 : decode cX11_see 34 = .ok (.getfield 19, 3) := by decide +kernel
theorem dX11_see_37 : decode cX11_see 37 = .ok (.getfield 113, 3) := by decide +kernel
theorem dX11_see_40 : decode cX11_see 40 = .ok (.iload_n 1, 1) := by decide +kernel
theorem dX11_see_41 : decode cX11_see 41 = .ok (.iload_n 2, 1) := by decide +kernel
theorem dX11_see_42 : decode cX11_see 42 = .ok (.iload_n 3, 1) := by decide +kernel
theorem dX11_see_43 : decode cX11_see 43 = .ok (.invokevirtual 208, 3) := by decide +kernel
theorem dX11_see_46 : decode cX11_see 46 = .ok (.ifCond .eq 16, 3) := by decide +kernel
theorem dX11_see_49 : decode cX11_see 49 = .ok (.aload_n 0, 1) := by decide +kernel
theorem dX11_see_50 : decode cX11_see 50 = .ok (.getfield 19, 3) := by decide +kernel
theorem dX11_see_53 : decode cX11_see 53 = .ok (.getfield 113, 3) := by decide +kernel
theorem dX11_see_56 : decode cX11_see 56 = .ok (.getfield 212, 3) := by decide +kernel
theorem dX11_see_59 : decode cX11_see 59 = .ok (.goto 5, 3) := by decide +kernel
theorem dX11_see_62 : decode cX11_see 62 = .ok (.bipush (-104), 2) := by decide +kernel
theorem dX11_see_64 : decode cX11_see 64 = .ok (.ireturn, 1) := by decide +kernel
theorem dX11_forget_0 : decode cX11_forget 0 = .ok (.aload_n 0, 1) := by decide +kernel
theorem dX11_forget_1 : decode cX11_forget 1 = .ok (.getfield 19, 3) := by decide +kernel
theorem dX11_forget_4 : decode cX11_forget 4 = .ok (.getfield 113, 3) := by decide +kernel
theorem dX11_forget_7 : decode cX11_forget 7 = .ok (.getfield 212, 3) := by decide +kernel
theorem dX11_forget_10 : decode cX11_forget 10 = .ok (.istore_n 1, 1) := by decide +kernel
theorem dX11_forget_11 : decode cX11_forget 11 = .ok (.aload_n 0, 1) := by decide +kernel
theorem dX11_forget_12 : decode cX11_forget 12 = .ok (.getfield 19, 3) := by decide +kernel
theorem dX11_forget_15 : decode cX11_forget 15 = .ok (.getfield 113, 3) := by decide +kernel
theorem dX11_forget_18 : decode cX11_forget 18 = .ok (.invokevirtual 213, 3) := by decide +kernel
theorem dX11_forget_21 : decode cX11_forget 21 = .ok (.iload_n 1, 1) := by decide +kernel
theorem dX11_forget_22 : decode cX11_forget 22 = .ok (.ireturn, 1) := by decide +kernel
theorem dX11_winters_0 : decode cX11_winters 0 = .ok (.iload_n 1, 1) := by decide +kernel
theorem dX11_winters_1 : decode cX11_winters 1 = .ok (.iconst 1, 1) := by decide +kernel
theorem dX11_winters_2 : decode cX11_winters 2 = .ok (.if_icmp .lt 22, 3) := by decide +kernel
theorem dX11_winters_5 : decode cX11_winters 5 = .ok (.iload_n 1, 1) := by decide +kernel
theorem dX11_winters_6 : decode cX11_winters 6 = .ok (.bipush 60, 2) := by decide +kernel
theorem dX11_winters_8 : decode cX11_winters 8 = .ok (.if_icmp .gt 16, 3) := by decide +kernel
theorem dX11_winters_11 : decode cX11_winters 11 = .ok (.iload_n 2, 1) := by decide +kernel
theorem dX11_winters_12 : decode cX11_winters 12 = .ok (.ifCond .lt 12, 3) := by decide +kernel
theorem dX11_winters_15 : decode cX11_winters 15 = .ok (.iload_n 3, 1) := by decide +kernel
theorem dX11_winters_16 : decode cX11_winters 16 = .ok (.ifCond .lt 8, 3) := by decide +kernel
theorem dX11_winters_19 : decode cX11_winters 19 = .ok (.iload_n 3, 1) := by decide +kernel
theorem dX11_winters_20 : decode cX11_winters 20 = .ok (.iconst 2, 1) := by decide +kernel
theorem dX11_winters_21 : decode cX11_winters 21 = .ok (.if_icmp .le 6, 3) := by decide +kernel
theorem dX11_winters_24 : decode cX11_winters 24 = .ok (.bipush (-102), 2) := by decide +kernel
theorem dX11_winters_26 : decode cX11_winters 26 = .ok (.ireturn, 1) := by decide +kernel
theorem dX11_winters_27 : decode cX11_winters 27 = .ok (.aload_n 0, 1) := by decide +kernel
theorem dX11_winters_28 : decode cX11_winters 28 = .ok (.getfield 19, 3) := by decide +kernel
theorem dX11_winters_31 : decode cX11_winters 31 = .ok (.invokevirtual 168, 3) := by decide +kernel
theorem dX11_winters_34 : decode cX11_winters 34 = .ok (.ifCond .eq 6, 3) := by decide +kernel
theorem dX11_winters_37 : decode cX11_winters 37 = .ok (.bipush (-103), 2) := by decide +kernel
theorem dX11_winters_39 : decode cX11_winters 39 = .ok (.ireturn, 1) := by decide +kernel
theorem dX11_winters_40 : decode cX11_winters 40 = .ok (.aload_n 0, 1) := by decide +kernel
theorem dX11_winters_41 : decode cX11_winters 41 = .ok (.getfield 40, 3) := by decide +kernel
theorem dX11_winters_44 : decode cX11_winters 44 = .ok (.aload_n 0, 1) := by decide +kernel
theorem dX11_winters_45 : decode cX11_winters 45 = .ok (.getfield 19, 3) := by decide +kernel
theorem dX11_winters_48 : decode cX11_winters 48 = .ok (.iload_n 1, 1) := by decide +kernel
theorem dX11_winters_49 : decode cX11_winters 49 = .ok (.iload_n 2, 1) := by decide +kernel
theorem dX11_winters_50 : decode cX11_winters 50 = .ok (.invokevirtual 214, 3) := by decide +kernel
theorem dX11_winters_53 : decode cX11_winters 53 = .ok (.iload_n 3, 1) := by decide +kernel
theorem dX11_winters_54 : decode cX11_winters 54 = .ok (.lookupswitch 42 #[(0, 26), (1, 34)], 26) := by decide +kernel
theorem dX11_winters_80 : decode cX11_winters 80 = .ok (.aload_n 0, 1) := by decide +kernel
theorem dX11_winters_81 : decode cX11_winters 81 = .ok (.getfield 40, 3) := by decide +kernel
theorem dX11_winters_84 : decode cX11_winters 84 = .ok (.getfield 217, 3) := by decide +kernel
theorem dX11_winters_87 : decode cX11_winters 87 = .ok (.ireturn, 1) := by decide +kernel
theorem dX11_winters_88 : decode cX11_winters 88 = .ok (.aload_n 0, 1) := by decide +kernel
theorem dX11_winters_89 : decode cX11_winters 89 = .ok (.getfield 40, 3) := by decide +kernel
theorem dX11_winters_92 : decode cX11_winters 92 = .ok (.getfield 219, 3) := by decide +kernel
theorem dX11_winters_95 : decode cX11_winters 95 = .ok (.ireturn, 1) := by decide +kernel
theorem dX11_winters_96 : decode cX11_winters 96 = .ok (.aload_n 0, 1) := by decide +kernel
theorem dX11_winters_97 : decode cX11_winters 97 = .ok (.getfield 40, 3) := by decide +kernel
theorem dX11_winters_100 : decode cX11_winters 100 = .ok (.getfield 222, 3) := by decide +kernel
theorem dX11_winters_103 : decode cX11_winters 103 = .ok (.l2i, 1) := by decide +kernel
theorem dX11_winters_104 : decode cX11_winters 104 = .ok (.ireturn, 1) := by decide +kernel
theorem dX11_image_0 : decode cX11_image 0 = .ok (.aload_n 0, 1) := by decide +kernel
theorem dX11_image_1 : decode cX11_image 1 = .ok (.getfield 19, 3) := by decide +kernel
theorem dX11_image_4 : decode cX11_image 4 = .ok (.invokevirtual 168, 3) := by decide +kernel
theorem dX11_image_7 : decode cX11_image 7 = .ok (.ifCond .eq 6, 3) := by decide +kernel
theorem dX11_image_10 : decode cX11_image 10 = .ok (.bipush (-103), 2) := by decide +kernel
theorem dX11_image_12 : decode cX11_image 12 = .ok (.ireturn, 1) := by decide +kernel
theorem dX11_image_13 : decode cX11_image 13 = .ok (.aload_n 0, 1) := by decide +kernel
theorem dX11_image_14 : decode cX11_image 14 = .ok (.getfield 26, 3) := by decide +kernel
theorem dX11_image_17 : decode cX11_image 17 = .ok (.aload_n 0, 1) := by decide +kernel
theorem dX11_image_18 : decode cX11_image 18 = .ok (.getfield 19, 3) := by decide +kernel
theorem dX11_image_21 : decode cX11_image 21 = .ok (.invokevirtual 226, 3) := by decide +kernel
theorem dX11_image_24 : decode cX11_image 24 = .ok (.aload_n 0, 1) := by decide +kernel
theorem dX11_image_25 : decode cX11_image 25 = .ok (.getfield 19, 3) := by decide +kernel
theorem dX11_image_28 : decode cX11_image 28 = .ok (.getfield 230, 3) := by decide +kernel
theorem dX11_image_31 : decode cX11_image 31 = .ok (.ireturn, 1) := by decide +kernel
theorem dX11_restore_0 : decode cX11_restore 0 = .ok (.aload_n 0, 1) := by decide +kernel
theorem dX11_restore_1 : decode cX11_restore 1 = .ok (.getfield 26, 3) := by decide +kernel
theorem dX11_restore_4 : decode cX11_restore 4 = .ok (.getfield 70, 3) := by decide +kernel
theorem dX11_restore_7 : decode cX11_restore 7 = .ok (.ifCond .ne 6, 3) := by decide +kernel
theorem dX11_restore_10 : decode cX11_restore 10 = .ok (.bipush (-103), 2) := by decide +kernel
theorem dX11_restore_12 : decode cX11_restore 12 = .ok (.ireturn, 1) := by decide +kernel
theorem dX11_restore_13 : decode cX11_restore 13 = .ok (.aload_n 0, 1) := by decide +kernel
theorem dX11_restore_14 : decode cX11_restore 14 = .ok (.getfield 26, 3) := by decide +kernel
theorem dX11_restore_17 : decode cX11_restore 17 = .ok (.aload_n 0, 1) := by decide +kernel
theorem dX11_restore_18 : decode cX11_restore 18 = .ok (.getfield 19, 3) := by decide +kernel
theorem dX11_restore_21 : decode cX11_restore 21 = .ok (.invokevirtual 233, 3) := by decide +kernel
theorem dX11_restore_24 : decode cX11_restore 24 = .ok (.aload_n 0, 1) := by decide +kernel
theorem dX11_restore_25 : decode cX11_restore 25 = .ok (.getfield 19, 3) := by decide +kernel
theorem dX11_restore_28 : decode cX11_restore 28 = .ok (.getfield 230, 3) := by decide +kernel
theorem dX11_restore_31 : decode cX11_restore 31 = .ok (.ireturn, 1) := by decide +kernel
theorem dX11_count_0 : decode cX11_count 0 = .ok (.iload_n 1, 1) := by decide +kernel
theorem dX11_count_1 : decode cX11_count 1 = .ok (.tableswitch 173 0 12 #[67, 75, 83, 91, 99, 108, 117, 125, 133, 141, 149, 160, 168], 67) := by decide +kernel
theorem dX11_count_68 : decode cX11_count 68 = .ok (.aload_n 0, 1) := by decide +kernel
theorem dX11_count_69 : decode cX11_count 69 = .ok (.getfield 19, 3) := by decide +kernel
theorem dX11_count_72 : decode cX11_count 72 = .ok (.getfield 74, 3) := by decide +kernel
theorem dX11_count_75 : decode cX11_count 75 = .ok (.ireturn, 1) := by decide +kernel
theorem dX11_count_76 : decode cX11_count 76 = .ok (.aload_n 0, 1) := by decide +kernel
theorem dX11_count_77 : decode cX11_count 77 = .ok (.getfield 19, 3) := by decide +kernel
theorem dX11_count_80 : decode cX11_count 80 = .ok (.invokevirtual 177, 3) := by decide +kernel
theorem dX11_count_83 : decode cX11_count 83 = .ok (.ireturn, 1) := by decide +kernel
theorem dX11_count_84 : decode cX11_count 84 = .ok (.aload_n 0, 1) := by decide +kernel
theorem dX11_count_85 : decode cX11_count 85 = .ok (.getfield 19, 3) := by decide +kernel
theorem dX11_count_88 : decode cX11_count 88 = .ok (.invokevirtual 236, 3) := by decide +kernel
theorem dX11_count_91 : decode cX11_count 91 = .ok (.ireturn, 1) := by decide +kernel
theorem dX11_count_92 : decode cX11_count 92 = .ok (.aload_n 0, 1) := by decide +kernel
theorem dX11_count_93 : decode cX11_count 93 = .ok (.getfield 19, 3) := by decide +kernel
theorem dX11_count_96 : decode cX11_count 96 = .ok (.invokevirtual 239, 3) := by decide +kernel
theorem dX11_count_99 : decode cX11_count 99 = .ok (.ireturn, 1) := by decide +kernel
theorem dX11_count_100 : decode cX11_count 100 = .ok (.aload_n 0, 1) := by decide +kernel
theorem dX11_count_101 : decode cX11_count 101 = .ok (.getfield 19, 3) := by decide +kernel
theorem dX11_count_104 : decode cX11_count 104 = .ok (.iconst 0, 1) := by decide +kernel
theorem dX11_count_105 : decode cX11_count 105 = .ok (.invokevirtual 242, 3) := by decide +kernel
theorem dX11_count_108 : decode cX11_count 108 = .ok (.ireturn, 1) := by decide +kernel
theorem dX11_count_109 : decode cX11_count 109 = .ok (.aload_n 0, 1) := by decide +kernel
theorem dX11_count_110 : decode cX11_count 110 = .ok (.getfield 19, 3) := by decide +kernel
theorem dX11_count_113 : decode cX11_count 113 = .ok (.iconst 1, 1) := by decide +kernel
theorem dX11_count_114 : decode cX11_count 114 = .ok (.invokevirtual 242, 3) := by decide +kernel
theorem dX11_count_117 : decode cX11_count 117 = .ok (.ireturn, 1) := by decide +kernel
theorem dX11_count_118 : decode cX11_count 118 = .ok (.aload_n 0, 1) := by decide +kernel
theorem dX11_count_119 : decode cX11_count 119 = .ok (.getfield 19, 3) := by decide +kernel
theorem dX11_count_122 : decode cX11_count 122 = .ok (.getfield 230, 3) := by decide +kernel
theorem dX11_count_125 : decode cX11_count 125 = .ok (.ireturn, 1) := by decide +kernel
theorem dX11_count_126 : decode cX11_count 126 = .ok (.aload_n 0, 1) := by decide +kernel
theorem dX11_count_127 : decode cX11_count 127 = .ok (.getfield 19, 3) := by decide +kernel
theorem dX11_count_130 : decode cX11_count 130 = .ok (.getfield 158, 3) := by decide +kernel
theorem dX11_count_133 : decode cX11_count 133 = .ok (.ireturn, 1) := by decide +kernel
theorem dX11_count_134 : decode cX11_count 134 = .ok (.aload_n 0, 1) := by decide +kernel
theorem dX11_count_135 : decode cX11_count 135 = .ok (.getfield 19, 3) := by decide +kernel
theorem dX11_count_138 : decode cX11_count 138 = .ok (.getfield 165, 3) := by decide +kernel
theorem dX11_count_141 : decode cX11_count 141 = .ok (.ireturn, 1) := by decide +kernel
theorem dX11_count_142 : decode cX11_count 142 = .ok (.aload_n 0, 1) := by decide +kernel
theorem dX11_count_143 : decode cX11_count 143 = .ok (.getfield 19, 3) := by decide +kernel
theorem dX11_count_146 : decode cX11_count 146 = .ok (.getfield 174, 3) := by decide +kernel
theorem dX11_count_149 : decode cX11_count 149 = .ok (.ireturn, 1) := by decide +kernel
theorem dX11_count_150 : decode cX11_count 150 = .ok (.aload_n 0, 1) := by decide +kernel
theorem dX11_count_151 : decode cX11_count 151 = .ok (.getfield 19, 3) := by decide +kernel
theorem dX11_count_154 : decode cX11_count 154 = .ok (.getfield 113, 3) := by decide +kernel
theorem dX11_count_157 : decode cX11_count 157 = .ok (.getfield 212, 3) := by decide +kernel
theorem dX11_count_160 : decode cX11_count 160 = .ok (.ireturn, 1) := by decide +kernel
theorem dX11_count_161 : decode cX11_count 161 = .ok (.aload_n 0, 1) := by decide +kernel
theorem dX11_count_162 : decode cX11_count 162 = .ok (.getfield 10, 3) := by decide +kernel
theorem dX11_count_165 : decode cX11_count 165 = .ok (.getfield 52, 3) := by decide +kernel
theorem dX11_count_168 : decode cX11_count 168 = .ok (.ireturn, 1) := by decide +kernel
theorem dX11_count_169 : decode cX11_count 169 = .ok (.aload_n 0, 1) := by decide +kernel
theorem dX11_count_170 : decode cX11_count 170 = .ok (.getfield 44, 3) := by decide +kernel
theorem dX11_count_173 : decode cX11_count 173 = .ok (.ireturn, 1) := by decide +kernel
theorem dX11_count_174 : decode cX11_count 174 = .ok (.bipush (-102), 2) := by decide +kernel
theorem dX11_count_176 : decode cX11_count 176 = .ok (.ireturn, 1) := by decide +kernel
theorem dX11_digest_0 : decode cX11_digest 0 = .ok (.ldc2_w 245, 3) := by decide +kernel
theorem dX11_digest_3 : decode cX11_digest 3 = .ok (.lstore_n 1, 1) := by decide +kernel
theorem dX11_digest_4 : decode cX11_digest 4 = .ok (.iconst 0, 1) := by decide +kernel
theorem dX11_digest_5 : decode cX11_digest 5 = .ok (.istore_n 3, 1) := by decide +kernel
theorem dX11_digest_6 : decode cX11_digest 6 = .ok (.iload_n 3, 1) := by decide +kernel
theorem dX11_digest_7 : decode cX11_digest 7 = .ok (.aload_n 0, 1) := by decide +kernel
theorem dX11_digest_8 : decode cX11_digest 8 = .ok (.getfield 19, 3) := by decide +kernel
theorem dX11_digest_11 : decode cX11_digest 11 = .ok (.getfield 74, 3) := by decide +kernel
theorem dX11_digest_14 : decode cX11_digest 14 = .ok (.if_icmp .ge 85, 3) := by decide +kernel
theorem dX11_digest_17 : decode cX11_digest 17 = .ok (.iconst 0, 1) := by decide +kernel
theorem dX11_digest_18 : decode cX11_digest 18 = .ok (.istore 4, 2) := by decide +kernel
theorem dX11_digest_20 : decode cX11_digest 20 = .ok (.iload 4, 2) := by decide +kernel
theorem dX11_digest_22 : decode cX11_digest 22 = .ok (.bipush 11, 2) := by decide +kernel
theorem dX11_digest_24 : decode cX11_digest 24 = .ok (.if_icmp .ge 22, 3) := by decide +kernel
theorem dX11_digest_27 : decode cX11_digest 27 = .ok (.lload_n 1, 1) := by decide +kernel
theorem dX11_digest_28 : decode cX11_digest 28 = .ok (.aload_n 0, 1) := by decide +kernel
theorem dX11_digest_29 : decode cX11_digest 29 = .ok (.iload_n 3, 1) := by decide +kernel
theorem dX11_digest_30 : decode cX11_digest 30 = .ok (.iload 4, 2) := by decide +kernel
theorem dX11_digest_32 : decode cX11_digest 32 = .ok (.invokevirtual 247, 3) := by decide +kernel
theorem dX11_digest_35 : decode cX11_digest 35 = .ok (.i2l, 1) := by decide +kernel
theorem dX11_digest_36 : decode cX11_digest 36 = .ok (.invokestatic 250, 3) := by decide +kernel
theorem dX11_digest_39 : decode cX11_digest 39 = .ok (.lstore_n 1, 1) := by decide +kernel
theorem dX11_digest_40 : decode cX11_digest 40 = .ok (.iinc 4 1, 3) := by decide +kernel
theorem dX11_digest_43 : decode cX11_digest 43 = .ok (.goto (-23), 3) := by decide +kernel
theorem dX11_digest_46 : decode cX11_digest 46 = .ok (.iconst 0, 1) := by decide +kernel
theorem dX11_digest_47 : decode cX11_digest 47 = .ok (.istore 4, 2) := by decide +kernel
theorem dX11_digest_49 : decode cX11_digest 49 = .ok (.iload 4, 2) := by decide +kernel
theorem dX11_digest_51 : decode cX11_digest 51 = .ok (.aload_n 0, 1) := by decide +kernel
theorem dX11_digest_52 : decode cX11_digest 52 = .ok (.getfield 19, 3) := by decide +kernel
theorem dX11_digest_55 : decode cX11_digest 55 = .ok (.getfield 74, 3) := by decide +kernel
theorem dX11_digest_58 : decode cX11_digest 58 = .ok (.if_icmp .ge 35, 3) := by decide +kernel
theorem dX11_digest_61 : decode cX11_digest 61 = .ok (.iload 4, 2) := by decide +kernel
theorem dX11_digest_63 : decode cX11_digest 63 = .ok (.iload_n 3, 1) := by decide +kernel
theorem dX11_digest_64 : decode cX11_digest 64 = .ok (.if_icmp .ne 7, 3) := by decide +kernel
theorem dX11_digest_67 : decode cX11_digest 67 = .ok (.lload_n 1, 1) := by decide +kernel
theorem dX11_digest_68 : decode cX11_digest 68 = .ok (.goto 18, 3) := by decide +kernel
theorem dX11_digest_71 : decode cX11_digest 71 = .ok (.lload_n 1, 1) := by decide +kernel
theorem dX11_digest_72 : decode cX11_digest 72 = .ok (.aload_n 0, 1) := by decide +kernel
theorem dX11_digest_73 : decode cX11_digest 73 = .ok (.getfield 19, 3) := by decide +kernel
theorem dX11_digest_76 : decode cX11_digest 76 = .ok (.iload_n 3, 1) := by decide +kernel
theorem dX11_digest_77 : decode cX11_digest 77 = .ok (.iload 4, 2) := by decide +kernel
theorem dX11_digest_79 : decode cX11_digest 79 = .ok (.invokevirtual 135, 3) := by decide +kernel
theorem dX11_digest_82 : decode cX11_digest 82 = .ok (.i2l, 1) := by decide +kernel
theorem dX11_digest_83 : decode cX11_digest 83 = .ok (.invokestatic 250, 3) := by decide +kernel
theorem dX11_digest_86 : decode cX11_digest 86 = .ok (.lstore_n 1, 1) := by decide +kernel
theorem dX11_digest_87 : decode cX11_digest 87 = .ok (.iinc 4 1, 3) := by decide +kernel
theorem dX11_digest_90 : decode cX11_digest 90 = .ok (.goto (-41), 3) := by decide +kernel
theorem dX11_digest_93 : decode cX11_digest 93 = .ok (.iinc 3 1, 3) := by decide +kernel
theorem dX11_digest_96 : decode cX11_digest 96 = .ok (.goto (-90), 3) := by decide +kernel
theorem dX11_digest_99 : decode cX11_digest 99 = .ok (.aload_n 0, 1) := by decide +kernel
theorem dX11_digest_100 : decode cX11_digest 100 = .ok (.getfield 19, 3) := by decide +kernel
theorem dX11_digest_103 : decode cX11_digest 103 = .ok (.invokevirtual 168, 3) := by decide +kernel
theorem dX11_digest_106 : decode cX11_digest 106 = .ok (.ifCond .ne 57, 3) := by decide +kernel
theorem dX11_digest_109 : decode cX11_digest 109 = .ok (.aload_n 0, 1) := by decide +kernel
theorem dX11_digest_110 : decode cX11_digest 110 = .ok (.lload_n 1, 1) := by decide +kernel
theorem dX11_digest_111 : decode cX11_digest 111 = .ok (.invokevirtual 254, 3) := by decide +kernel
theorem dX11_digest_114 : decode cX11_digest 114 = .ok (.lstore_n 1, 1) := by decide +kernel
theorem dX11_digest_115 : decode cX11_digest 115 = .ok (.iconst 0, 1) := by decide +kernel
theorem dX11_digest_116 : decode cX11_digest 116 = .ok (.istore_n 3, 1) := by decide +kernel
theorem dX11_digest_117 : decode cX11_digest 117 = .ok (.iload_n 3, 1) := by decide +kernel
theorem dX11_digest_118 : decode cX11_digest 118 = .ok (.bipush 6, 2) := by decide +kernel
theorem dX11_digest_120 : decode cX11_digest 120 = .ok (.if_icmp .ge 23, 3) := by decide +kernel
theorem dX11_digest_123 : decode cX11_digest 123 = .ok (.lload_n 1, 1) := by decide +kernel
theorem dX11_digest_124 : decode cX11_digest 124 = .ok (.aload_n 0, 1) := by decide +kernel
theorem dX11_digest_125 : decode cX11_digest 125 = .ok (.getfield 19, 3) := by decide +kernel
theorem dX11_digest_128 : decode cX11_digest 128 = .ok (.iload_n 3, 1) := by decide +kernel
theorem dX11_digest_129 : decode cX11_digest 129 = .ok (.invokevirtual 196, 3) := by decide +kernel
theorem dX11_digest_132 : decode cX11_digest 132 = .ok (.i2l, 1) := by decide +kernel
theorem dX11_digest_133 : decode cX11_digest 133 = .ok (.invokestatic 250, 3) := by decide +kernel
theorem dX11_digest_136 : decode cX11_digest 136 = .ok (.lstore_n 1, 1) := by decide +kernel
theorem dX11_digest_137 : decode cX11_digest 137 = .ok (.iinc 3 1, 3) := by decide +kernel
theorem dX11_digest_140 : decode cX11_digest 140 = .ok (.goto (-23), 3) := by decide +kernel
theorem dX11_digest_143 : decode cX11_digest 143 = .ok (.lload_n 1, 1) := by decide +kernel
theorem dX11_digest_144 : decode cX11_digest 144 = .ok (.aload_n 0, 1) := by decide +kernel
theorem dX11_digest_145 : decode cX11_digest 145 = .ok (.iconst 0, 1) := by decide +kernel
theorem dX11_digest_146 : decode cX11_digest 146 = .ok (.invokevirtual 258, 3) := by decide +kernel
theorem dX11_digest_149 : decode cX11_digest 149 = .ok (.i2l, 1) := by decide +kernel
theorem dX11_digest_150 : decode cX11_digest 150 = .ok (.invokestatic 250, 3) := by decide +kernel
theorem dX11_digest_153 : decode cX11_digest 153 = .ok (.aload_n 0, 1) := by decide +kernel
theorem dX11_digest_154 : decode cX11_digest 154 = .ok (.iconst 1, 1) := by decide +kernel
theorem dX11_digest_155 : decode cX11_digest 155 = .ok (.invokevirtual 258, 3) := by decide +kernel
theorem dX11_digest_158 : decode cX11_digest 158 = .ok (.i2l, 1) := by decide +kernel
theorem dX11_digest_159 : decode cX11_digest 159 = .ok (.invokestatic 250, 3) := by decide +kernel
theorem dX11_digest_162 : decode cX11_digest 162 = .ok (.lstore_n 1, 1) := by decide +kernel
theorem dX11_digest_163 : decode cX11_digest 163 = .ok (.iconst 0, 1) := by decide +kernel
theorem dX11_digest_164 : decode cX11_digest 164 = .ok (.istore_n 3, 1) := by decide +kernel
theorem dX11_digest_165 : decode cX11_digest 165 = .ok (.iload_n 3, 1) := by decide +kernel
theorem dX11_digest_166 : decode cX11_digest 166 = .ok (.aload_n 0, 1) := by decide +kernel
theorem dX11_digest_167 : decode cX11_digest 167 = .ok (.getfield 10, 3) := by decide +kernel
theorem dX11_digest_170 : decode cX11_digest 170 = .ok (.getfield 52, 3) := by decide +kernel
theorem dX11_digest_173 : decode cX11_digest 173 = .ok (.if_icmp .ge 24, 3) := by decide +kernel
theorem dX11_digest_176 : decode cX11_digest 176 = .ok (.lload_n 1, 1) := by decide +kernel
theorem dX11_digest_177 : decode cX11_digest 177 = .ok (.aload_n 0, 1) := by decide +kernel
theorem dX11_digest_178 : decode cX11_digest 178 = .ok (.getfield 10, 3) := by decide +kernel
theorem dX11_digest_181 : decode cX11_digest 181 = .ok (.getfield 261, 3) := by decide +kernel
theorem dX11_digest_184 : decode cX11_digest 184 = .ok (.iload_n 3, 1) := by decide +kernel
theorem dX11_digest_185 : decode cX11_digest 185 = .ok (.iaload, 1) := by decide +kernel
theorem dX11_digest_186 : decode cX11_digest 186 = .ok (.i2l, 1) := by decide +kernel
theorem dX11_digest_187 : decode cX11_digest 187 = .ok (.invokestatic 250, 3) := by decide +kernel
theorem dX11_digest_190 : decode cX11_digest 190 = .ok (.lstore_n 1, 1) := by decide +kernel
theorem dX11_digest_191 : decode cX11_digest 191 = .ok (.iinc 3 1, 3) := by decide +kernel
theorem dX11_digest_194 : decode cX11_digest 194 = .ok (.goto (-29), 3) := by decide +kernel
theorem dX11_digest_197 : decode cX11_digest 197 = .ok (.iconst 0, 1) := by decide +kernel
theorem dX11_digest_198 : decode cX11_digest 198 = .ok (.istore_n 3, 1) := by decide +kernel
theorem dX11_digest_199 : decode cX11_digest 199 = .ok (.iload_n 3, 1) := by decide +kernel
theorem dX11_digest_200 : decode cX11_digest 200 = .ok (.bipush 13, 2) := by decide +kernel
theorem dX11_digest_202 : decode cX11_digest 202 = .ok (.if_icmp .ge 20, 3) := by decide +kernel
theorem dX11_digest_205 : decode cX11_digest 205 = .ok (.lload_n 1, 1) := by decide +kernel
theorem dX11_digest_206 : decode cX11_digest 206 = .ok (.aload_n 0, 1) := by decide +kernel
theorem dX11_digest_207 : decode cX11_digest 207 = .ok (.iload_n 3, 1) := by decide +kernel
theorem dX11_digest_208 : decode cX11_digest 208 = .ok (.invokevirtual 265, 3) := by decide +kernel
theorem dX11_digest_211 : decode cX11_digest 211 = .ok (.i2l, 1) := by decide +kernel
theorem dX11_digest_212 : decode cX11_digest 212 = .ok (.invokestatic 250, 3) := by decide +kernel
theorem dX11_digest_215 : decode cX11_digest 215 = .ok (.lstore_n 1, 1) := by decide +kernel
theorem dX11_digest_216 : decode cX11_digest 216 = .ok (.iinc 3 1, 3) := by decide +kernel
theorem dX11_digest_219 : decode cX11_digest 219 = .ok (.goto (-20), 3) := by decide +kernel
theorem dX11_digest_222 : decode cX11_digest 222 = .ok (.lload_n 1, 1) := by decide +kernel
theorem dX11_digest_223 : decode cX11_digest 223 = .ok (.lreturn, 1) := by decide +kernel
theorem dX11_withRows_0 : decode cX11_withRows 0 = .ok (.aload_n 0, 1) := by decide +kernel
theorem dX11_withRows_1 : decode cX11_withRows 1 = .ok (.getfield 33, 3) := by decide +kernel
theorem dX11_withRows_4 : decode cX11_withRows 4 = .ok (.aload_n 0, 1) := by decide +kernel
theorem dX11_withRows_5 : decode cX11_withRows 5 = .ok (.getfield 19, 3) := by decide +kernel
theorem dX11_withRows_8 : decode cX11_withRows 8 = .ok (.iconst 0, 1) := by decide +kernel
theorem dX11_withRows_9 : decode cX11_withRows 9 = .ok (.bipush 30, 2) := by decide +kernel
theorem dX11_withRows_11 : decode cX11_withRows 11 = .ok (.invokevirtual 183, 3) := by decide +kernel
theorem dX11_withRows_14 : decode cX11_withRows 14 = .ok (.lload_n 1, 1) := by decide +kernel
theorem dX11_withRows_15 : decode cX11_withRows 15 = .ok (.aload_n 0, 1) := by decide +kernel
theorem dX11_withRows_16 : decode cX11_withRows 16 = .ok (.iconst 0, 1) := by decide +kernel
theorem dX11_withRows_17 : decode cX11_withRows 17 = .ok (.invokevirtual 187, 3) := by decide +kernel
theorem dX11_withRows_20 : decode cX11_withRows 20 = .ok (.i2l, 1) := by decide +kernel
theorem dX11_withRows_21 : decode cX11_withRows 21 = .ok (.invokestatic 250, 3) := by decide +kernel
theorem dX11_withRows_24 : decode cX11_withRows 24 = .ok (.aload_n 0, 1) := by decide +kernel
theorem dX11_withRows_25 : decode cX11_withRows 25 = .ok (.iconst 1, 1) := by decide +kernel
theorem dX11_withRows_26 : decode cX11_withRows 26 = .ok (.invokevirtual 187, 3) := by decide +kernel
theorem dX11_withRows_29 : decode cX11_withRows 29 = .ok (.i2l, 1) := by decide +kernel
theorem dX11_withRows_30 : decode cX11_withRows 30 = .ok (.invokestatic 250, 3) := by decide +kernel
theorem dX11_withRows_33 : decode cX11_withRows 33 = .ok (.lstore_n 3, 1) := by decide +kernel
theorem dX11_withRows_34 : decode cX11_withRows 34 = .ok (.iconst 0, 1) := by decide +kernel
theorem dX11_withRows_35 : decode cX11_withRows 35 = .ok (.istore 5, 2) := by decide +kernel
theorem dX11_withRows_37 : decode cX11_withRows 37 = .ok (.iload 5, 2) := by decide +kernel
theorem dX11_withRows_39 : decode cX11_withRows 39 = .ok (.bipush 7, 2) := by decide +kernel
theorem dX11_withRows_41 : decode cX11_withRows 41 = .ok (.if_icmp .ge 24, 3) := by decide +kernel
theorem dX11_withRows_44 : decode cX11_withRows 44 = .ok (.lload_n 3, 1) := by decide +kernel
theorem dX11_withRows_45 : decode cX11_withRows 45 = .ok (.aload_n 0, 1) := by decide +kernel
theorem dX11_withRows_46 : decode cX11_withRows 46 = .ok (.bipush 10, 2) := by decide +kernel
theorem dX11_withRows_48 : decode cX11_withRows 48 = .ok (.iload 5, 2) := by decide +kernel
theorem dX11_withRows_50 : decode cX11_withRows 50 = .ok (.iadd, 1) := by decide +kernel
theorem dX11_withRows_51 : decode cX11_withRows 51 = .ok (.invokevirtual 187, 3) := by decide +kernel
theorem dX11_withRows_54 : decode cX11_withRows 54 = .ok (.i2l, 1) := by decide +kernel
theorem dX11_withRows_55 : decode cX11_withRows 55 = .ok (.invokestatic 250, 3) := by decide +kernel
theorem dX11_withRows_58 : decode cX11_withRows 58 = .ok (.lstore_n 3, 1) := by decide +kernel
theorem dX11_withRows_59 : decode cX11_withRows 59 = .ok (.iinc 5 1, 3) := by decide +kernel
theorem dX11_withRows_62 : decode cX11_withRows 62 = .ok (.goto (-25), 3) := by decide +kernel
theorem dX11_withRows_65 : decode cX11_withRows 65 = .ok (.aload_n 0, 1) := by decide +kernel
theorem dX11_withRows_66 : decode cX11_withRows 66 = .ok (.getfield 33, 3) := by decide +kernel
theorem dX11_withRows_69 : decode cX11_withRows 69 = .ok (.aload_n 0, 1) := by decide +kernel
theorem dX11_withRows_70 : decode cX11_withRows 70 = .ok (.getfield 19, 3) := by decide +kernel
theorem dX11_withRows_73 : decode cX11_withRows 73 = .ok (.iconst 1, 1) := by decide +kernel
theorem dX11_withRows_74 : decode cX11_withRows 74 = .ok (.iconst 4, 1) := by decide +kernel
theorem dX11_withRows_75 : decode cX11_withRows 75 = .ok (.invokevirtual 183, 3) := by decide +kernel
theorem dX11_withRows_78 : decode cX11_withRows 78 = .ok (.lload_n 3, 1) := by decide +kernel
theorem dX11_withRows_79 : decode cX11_withRows 79 = .ok (.aload_n 0, 1) := by decide +kernel
theorem dX11_withRows_80 : decode cX11_withRows 80 = .ok (.iconst 0, 1) := by decide +kernel
theorem dX11_withRows_81 : decode cX11_withRows 81 = .ok (.invokevirtual 190, 3) := by decide +kernel
theorem dX11_withRows_84 : decode cX11_withRows 84 = .ok (.i2l, 1) := by decide +kernel
theorem dX11_withRows_85 : decode cX11_withRows 85 = .ok (.invokestatic 250, 3) := by decide +kernel
theorem dX11_withRows_88 : decode cX11_withRows 88 = .ok (.aload_n 0, 1) := by decide +kernel
theorem dX11_withRows_89 : decode cX11_withRows 89 = .ok (.iconst 1, 1) := by decide +kernel
theorem dX11_withRows_90 : decode cX11_withRows 90 = .ok (.invokevirtual 190, 3) := by decide +kernel
theorem dX11_withRows_93 : decode cX11_withRows 93 = .ok (.i2l, 1) := by decide +kernel
theorem dX11_withRows_94 : decode cX11_withRows 94 = .ok (.invokestatic 250, 3) := by decide +kernel
theorem dX11_withRows_97 : decode cX11_withRows 97 = .ok (.lstore_n 3, 1) := by decide +kernel
theorem dX11_withRows_98 : decode cX11_withRows 98 = .ok (.aload_n 0, 1) := by decide +kernel
theorem dX11_withRows_99 : decode cX11_withRows 99 = .ok (.getfield 33, 3) := by decide +kernel
theorem dX11_withRows_102 : decode cX11_withRows 102 = .ok (.aload_n 0, 1) := by decide +kernel
theorem dX11_withRows_103 : decode cX11_withRows 103 = .ok (.getfield 19, 3) := by decide +kernel
theorem dX11_withRows_106 : decode cX11_withRows 106 = .ok (.iconst 2, 1) := by decide +kernel
theorem dX11_withRows_107 : decode cX11_withRows 107 = .ok (.bipush 30, 2) := by decide +kernel
theorem dX11_withRows_109 : decode cX11_withRows 109 = .ok (.invokevirtual 183, 3) := by decide +kernel
theorem dX11_withRows_112 : decode cX11_withRows 112 = .ok (.lload_n 3, 1) := by decide +kernel
theorem dX11_withRows_113 : decode cX11_withRows 113 = .ok (.aload_n 0, 1) := by decide +kernel
theorem dX11_withRows_114 : decode cX11_withRows 114 = .ok (.iconst 0, 1) := by decide +kernel
theorem dX11_withRows_115 : decode cX11_withRows 115 = .ok (.invokevirtual 193, 3) := by decide +kernel
theorem dX11_withRows_118 : decode cX11_withRows 118 = .ok (.i2l, 1) := by decide +kernel
theorem dX11_withRows_119 : decode cX11_withRows 119 = .ok (.invokestatic 250, 3) := by decide +kernel
theorem dX11_withRows_122 : decode cX11_withRows 122 = .ok (.aload_n 0, 1) := by decide +kernel
theorem dX11_withRows_123 : decode cX11_withRows 123 = .ok (.iconst 1, 1) := by decide +kernel
theorem dX11_withRows_124 : decode cX11_withRows 124 = .ok (.invokevirtual 193, 3) := by decide +kernel
theorem dX11_withRows_127 : decode cX11_withRows 127 = .ok (.i2l, 1) := by decide +kernel
theorem dX11_withRows_128 : decode cX11_withRows 128 = .ok (.invokestatic 250, 3) := by decide +kernel
theorem dX11_withRows_131 : decode cX11_withRows 131 = .ok (.lreturn, 1) := by decide +kernel
theorem dX11_with_0 : decode cX11_with 0 = .ok (.ldc2_w 268, 3) := by decide +kernel
theorem dX11_with_3 : decode cX11_with 3 = .ok (.lload_n 0, 1) := by decide +kernel
theorem dX11_with_4 : decode cX11_with 4 = .ok (.lmul, 1) := by decide +kernel
theorem dX11_with_5 : decode cX11_with 5 = .ok (.lload_n 2, 1) := by decide +kernel
theorem dX11_with_6 : decode cX11_with 6 = .ok (.ladd, 1) := by decide +kernel
theorem dX11_with_7 : decode cX11_with 7 = .ok (.lreturn, 1) := by decide +kernel
theorem dX11_mostTold_0 : decode cX11_mostTold 0 = .ok (.iload_n 1, 1) := by decide +kernel
theorem dX11_mostTold_1 : decode cX11_mostTold 1 = .ok (.lookupswitch 43 #[(0, 27), (1, 35)], 27) := by decide +kernel
theorem dX11_mostTold_28 : decode cX11_mostTold 28 = .ok (.aload_n 0, 1) := by decide +kernel
theorem dX11_mostTold_29 : decode cX11_mostTold 29 = .ok (.getfield 33, 3) := by decide +kernel
theorem dX11_mostTold_32 : decode cX11_mostTold 32 = .ok (.getfield 270, 3) := by decide +kernel
theorem dX11_mostTold_35 : decode cX11_mostTold 35 = .ok (.ireturn, 1) := by decide +kernel
theorem dX11_mostTold_36 : decode cX11_mostTold 36 = .ok (.aload_n 0, 1) := by decide +kernel
theorem dX11_mostTold_37 : decode cX11_mostTold 37 = .ok (.getfield 33, 3) := by decide +kernel
theorem dX11_mostTold_40 : decode cX11_mostTold 40 = .ok (.getfield 271, 3) := by decide +kernel
theorem dX11_mostTold_43 : decode cX11_mostTold 43 = .ok (.ireturn, 1) := by decide +kernel
theorem dX11_mostTold_44 : decode cX11_mostTold 44 = .ok (.aload_n 0, 1) := by decide +kernel
theorem dX11_mostTold_45 : decode cX11_mostTold 45 = .ok (.getfield 33, 3) := by decide +kernel
theorem dX11_mostTold_48 : decode cX11_mostTold 48 = .ok (.iload_n 1, 1) := by decide +kernel
theorem dX11_mostTold_49 : decode cX11_mostTold 49 = .ok (.bipush 10, 2) := by decide +kernel
theorem dX11_mostTold_51 : decode cX11_mostTold 51 = .ok (.isub, 1) := by decide +kernel
theorem dX11_mostTold_52 : decode cX11_mostTold 52 = .ok (.invokevirtual 272, 3) := by decide +kernel
theorem dX11_mostTold_55 : decode cX11_mostTold 55 = .ok (.ireturn, 1) := by decide +kernel
theorem dX11_bestTold_0 : decode cX11_bestTold 0 = .ok (.iload_n 1, 1) := by decide +kernel
theorem dX11_bestTold_1 : decode cX11_bestTold 1 = .ok (.lookupswitch 43 #[(0, 27), (1, 35)], 27) := by decide +kernel
theorem dX11_bestTold_28 : decode cX11_bestTold 28 = .ok (.aload_n 0, 1) := by decide +kernel
theorem dX11_bestTold_29 : decode cX11_bestTold 29 = .ok (.getfield 33, 3) := by decide +kernel
theorem dX11_bestTold_32 : decode cX11_bestTold 32 = .ok (.getfield 271, 3) := by decide +kernel
theorem dX11_bestTold_35 : decode cX11_bestTold 35 = .ok (.ireturn, 1) := by decide +kernel
theorem dX11_bestTold_36 : decode cX11_bestTold 36 = .ok (.aload_n 0, 1) := by decide +kernel
theorem dX11_bestTold_37 : decode cX11_bestTold 37 = .ok (.getfield 33, 3) := by decide +kernel
theorem dX11_bestTold_40 : decode cX11_bestTold 40 = .ok (.getfield 275, 3) := by decide +kernel
theorem dX11_bestTold_43 : decode cX11_bestTold 43 = .ok (.ireturn, 1) := by decide +kernel
theorem dX11_bestTold_44 : decode cX11_bestTold 44 = .ok (.aload_n 0, 1) := by decide +kernel
theorem dX11_bestTold_45 : decode cX11_bestTold 45 = .ok (.getfield 33, 3) := by decide +kernel
theorem dX11_bestTold_48 : decode cX11_bestTold 48 = .ok (.iload_n 1, 1) := by decide +kernel
theorem dX11_bestTold_49 : decode cX11_bestTold 49 = .ok (.bipush 10, 2) := by decide +kernel
theorem dX11_bestTold_51 : decode cX11_bestTold 51 = .ok (.isub, 1) := by decide +kernel
theorem dX11_bestTold_52 : decode cX11_bestTold 52 = .ok (.invokevirtual 272, 3) := by decide +kernel
theorem dX11_bestTold_55 : decode cX11_bestTold 55 = .ok (.ireturn, 1) := by decide +kernel
theorem dX11_stableTold_0 : decode cX11_stableTold 0 = .ok (.iload_n 1, 1) := by decide +kernel
theorem dX11_stableTold_1 : decode cX11_stableTold 1 = .ok (.lookupswitch 43 #[(0, 27), (1, 35)], 27) := by decide +kernel
theorem dX11_stableTold_28 : decode cX11_stableTold 28 = .ok (.aload_n 0, 1) := by decide +kernel
theorem dX11_stableTold_29 : decode cX11_stableTold 29 = .ok (.getfield 33, 3) := by decide +kernel
theorem dX11_stableTold_32 : decode cX11_stableTold 32 = .ok (.getfield 276, 3) := by decide +kernel
theorem dX11_stableTold_35 : decode cX11_stableTold 35 = .ok (.ireturn, 1) := by decide +kernel
theorem dX11_stableTold_36 : decode cX11_stableTold 36 = .ok (.aload_n 0, 1) := by decide +kernel
theorem dX11_stableTold_37 : decode cX11_stableTold 37 = .ok (.getfield 33, 3) := by decide +kernel
theorem dX11_stableTold_40 : decode cX11_stableTold 40 = .ok (.getfield 270, 3) := by decide +kernel
theorem dX11_stableTold_43 : decode cX11_stableTold 43 = .ok (.ireturn, 1) := by decide +kernel
theorem dX11_stableTold_44 : decode cX11_stableTold 44 = .ok (.aload_n 0, 1) := by decide +kernel
theorem dX11_stableTold_45 : decode cX11_stableTold 45 = .ok (.getfield 33, 3) := by decide +kernel
theorem dX11_stableTold_48 : decode cX11_stableTold 48 = .ok (.iload_n 1, 1) := by decide +kernel
theorem dX11_stableTold_49 : decode cX11_stableTold 49 = .ok (.bipush 10, 2) := by decide +kernel
theorem dX11_stableTold_51 : decode cX11_stableTold 51 = .ok (.isub, 1) := by decide +kernel
theorem dX11_stableTold_52 : decode cX11_stableTold 52 = .ok (.invokevirtual 272, 3) := by decide +kernel
theorem dX11_stableTold_55 : decode cX11_stableTold 55 = .ok (.ireturn, 1) := by decide +kernel
theorem dX11_isRowQuestion_0 : decode cX11_isRowQuestion 0 = .ok (.iload_n 0, 1) := by decide +kernel
theorem dX11_isRowQuestion_1 : decode cX11_isRowQuestion 1 = .ok (.ifCond .eq 20, 3) := by decide +kernel
theorem dX11_isRowQuestion_4 : decode cX11_isRowQuestion 4 = .ok (.iload_n 0, 1) := by decide +kernel
theorem dX11_isRowQuestion_5 : decode cX11_isRowQuestion 5 = .ok (.iconst 1, 1) := by decide +kernel
theorem dX11_isRowQuestion_6 : decode cX11_isRowQuestion 6 = .ok (.if_icmp .eq 15, 3) := by decide +kernel
theorem dX11_isRowQuestion_9 : decode cX11_isRowQuestion 9 = .ok (.iload_n 0, 1) := by decide +kernel
theorem dX11_isRowQuestion_10 : decode cX11_isRowQuestion 10 = .ok (.bipush 10, 2) := by decide +kernel
theorem dX11_isRowQuestion_12 : decode cX11_isRowQuestion 12 = .ok (.if_icmp .lt 13, 3) := by decide +kernel
theorem dX11_isRowQuestion_15 : decode cX11_isRowQuestion 15 = .ok (.iload_n 0, 1) := by decide +kernel
theorem dX11_isRowQuestion_16 : decode cX11_isRowQuestion 16 = .ok (.bipush 17, 2) := by decide +kernel
theorem dX11_isRowQuestion_18 : decode cX11_isRowQuestion 18 = .ok (.if_icmp .ge 7, 3) := by decide +kernel
theorem dX11_isRowQuestion_21 : decode cX11_isRowQuestion 21 = .ok (.iconst 1, 1) := by decide +kernel
theorem dX11_isRowQuestion_22 : decode cX11_isRowQuestion 22 = .ok (.goto 4, 3) := by decide +kernel
theorem dX11_isRowQuestion_25 : decode cX11_isRowQuestion 25 = .ok (.iconst 0, 1) := by decide +kernel
theorem dX11_isRowQuestion_26 : decode cX11_isRowQuestion 26 = .ok (.ireturn, 1) := by decide +kernel
theorem dX11_isStation_0 : decode cX11_isStation 0 = .ok (.iload_n 0, 1) := by decide +kernel
theorem dX11_isStation_1 : decode cX11_isStation 1 = .ok (.ifCond .lt 13, 3) := by decide +kernel
theorem dX11_isStation_4 : decode cX11_isStation 4 = .ok (.iload_n 0, 1) := by decide +kernel
theorem dX11_isStation_5 : decode cX11_isStation 5 = .ok (.bipush 6, 2) := by decide +kernel
theorem dX11_isStation_7 : decode cX11_isStation 7 = .ok (.if_icmp .ge 7, 3) := by decide +kernel
theorem dX11_isStation_10 : decode cX11_isStation 10 = .ok (.iconst 1, 1) := by decide +kernel
theorem dX11_isStation_11 : decode cX11_isStation 11 = .ok (.goto 4, 3) := by decide +kernel
theorem dX11_isStation_14 : decode cX11_isStation 14 = .ok (.iconst 0, 1) := by decide +kernel
theorem dX11_isStation_15 : decode cX11_isStation 15 = .ok (.ireturn, 1) := by decide +kernel
theorem dX11_isOfKind_0 : decode cX11_isOfKind 0 = .ok (.iload_n 1, 1) := by decide +kernel
theorem dX11_isOfKind_1 : decode cX11_isOfKind 1 = .ok (.tableswitch 57 0 4 #[35, 37, 42, 47, 52], 35) := by decide +kernel
theorem dX11_isOfKind_36 : decode cX11_isOfKind 36 = .ok (.iconst 1, 1) := by decide +kernel
theorem dX11_isOfKind_37 : decode cX11_isOfKind 37 = .ok (.ireturn, 1) := by decide +kernel
theorem dX11_isOfKind_38 : decode cX11_isOfKind 38 = .ok (.aload_n 0, 1) := by decide +kernel
theorem dX11_isOfKind_39 : decode cX11_isOfKind 39 = .ok (.instanceof 279, 3) := by decide +kernel
theorem dX11_isOfKind_42 : decode cX11_isOfKind 42 = .ok (.ireturn, 1) := by decide +kernel
theorem dX11_isOfKind_43 : decode cX11_isOfKind 43 = .ok (.aload_n 0, 1) := by decide +kernel
theorem dX11_isOfKind_44 : decode cX11_isOfKind 44 = .ok (.instanceof 281, 3) := by decide +kernel
theorem dX11_isOfKind_47 : decode cX11_isOfKind 47 = .ok (.ireturn, 1) := by decide +kernel
theorem dX11_isOfKind_48 : decode cX11_isOfKind 48 = .ok (.aload_n 0, 1) := by decide +kernel
theorem dX11_isOfKind_49 : decode cX11_isOfKind 49 = .ok (.instanceof 283, 3) := by decide +kernel
theorem dX11_isOfKind_52 : decode cX11_isOfKind 52 = .ok (.ireturn, 1) := by decide +kernel
theorem dX11_isOfKind_53 : decode cX11_isOfKind 53 = .ok (.aload_n 0, 1) := by decide +kernel
theorem dX11_isOfKind_54 : decode cX11_isOfKind 54 = .ok (.instanceof 285, 3) := by decide +kernel
theorem dX11_isOfKind_57 : decode cX11_isOfKind 57 = .ok (.ireturn, 1) := by decide +kernel
theorem dX11_isOfKind_58 : decode cX11_isOfKind 58 = .ok (.iconst 0, 1) := by decide +kernel
theorem dX11_isOfKind_59 : decode cX11_isOfKind 59 = .ok (.ireturn, 1) := by decide +kernel
theorem dX11_commonDivisor_0 : decode cX11_commonDivisor 0 = .ok (.iload_n 1, 1) := by decide +kernel
theorem dX11_commonDivisor_1 : decode cX11_commonDivisor 1 = .ok (.istore_n 2, 1) := by decide +kernel
theorem dX11_commonDivisor_2 : decode cX11_commonDivisor 2 = .ok (.iload_n 2, 1) := by decide +kernel
theorem dX11_commonDivisor_3 : decode cX11_commonDivisor 3 = .ok (.iconst 1, 1) := by decide +kernel
theorem dX11_commonDivisor_4 : decode cX11_commonDivisor 4 = .ok (.if_icmp .le 23, 3) := by decide +kernel
theorem dX11_commonDivisor_7 : decode cX11_commonDivisor 7 = .ok (.iload_n 0, 1) := by decide +kernel
theorem dX11_commonDivisor_8 : decode cX11_commonDivisor 8 = .ok (.iload_n 2, 1) := by decide +kernel
theorem dX11_commonDivisor_9 : decode cX11_commonDivisor 9 = .ok (.irem, 1) := by decide +kernel
theorem dX11_commonDivisor_10 : decode cX11_commonDivisor 10 = .ok (.ifCond .ne 11, 3) := by decide +kernel
theorem dX11_commonDivisor_13 : decode cX11_commonDivisor 13 = .ok (.iload_n 1, 1) := by decide +kernel
theorem dX11_commonDivisor_14 : decode cX11_commonDivisor 14 = .ok (.iload_n 2, 1) := by decide +kernel
theorem dX11_commonDivisor_15 : decode cX11_commonDivisor 15 = .ok (.irem, 1) := by decide +kernel
theorem dX11_commonDivisor_16 : decode cX11_commonDivisor 16 = .ok (.ifCond .ne 5, 3) := by decide +kernel
theorem dX11_commonDivisor_19 : decode cX11_commonDivisor 19 = .ok (.iload_n 2, 1) := by decide +kernel
theorem dX11_commonDivisor_20 : decode cX11_commonDivisor 20 = .ok (.ireturn, 1) := by decide +kernel
theorem dX11_commonDivisor_21 : decode cX11_commonDivisor 21 = .ok (.iinc 2 (-1), 3) := by decide +kernel
theorem dX11_commonDivisor_24 : decode cX11_commonDivisor 24 = .ok (.goto (-22), 3) := by decide +kernel
theorem dX11_commonDivisor_27 : decode cX11_commonDivisor 27 = .ok (.iconst 1, 1) := by decide +kernel
theorem dX11_commonDivisor_28 : decode cX11_commonDivisor 28 = .ok (.ireturn, 1) := by decide +kernel
