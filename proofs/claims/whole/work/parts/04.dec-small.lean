theorem dCo_init_0 : decode cCo_init 0 = .ok (.aload_n 0, 1) := by decide +kernel
theorem dCo_init_1 : decode cCo_init 1 = .ok (.invokespecial 3, 3) := by decide +kernel
theorem dCo_init_4 : decode cCo_init 4 = .ok (.aload_n 0, 1) := by decide +kernel
theorem dCo_init_5 : decode cCo_init 5 = .ok (.bipush 60, 2) := by decide +kernel
theorem dCo_init_7 : decode cCo_init 7 = .ok (.newarray .int, 2) := by decide +kernel
theorem dCo_init_9 : decode cCo_init 9 = .ok (.putfield 9, 3) := by decide +kernel
theorem dCo_init_12 : decode cCo_init 12 = .ok (.aload_n 0, 1) := by decide +kernel
theorem dCo_init_13 : decode cCo_init 13 = .ok (.bipush 60, 2) := by decide +kernel
theorem dCo_init_15 : decode cCo_init 15 = .ok (.newarray .int, 2) := by decide +kernel
theorem dCo_init_17 : decode cCo_init 17 = .ok (.putfield 15, 3) := by decide +kernel
theorem dCo_init_20 : decode cCo_init 20 = .ok (.aload_n 0, 1) := by decide +kernel
theorem dCo_init_21 : decode cCo_init 21 = .ok (.iconst 0, 1) := by decide +kernel
theorem dCo_init_22 : decode cCo_init 22 = .ok (.putfield 18, 3) := by decide +kernel
theorem dCo_init_25 : decode cCo_init 25 = .ok (.aload_n 0, 1) := by decide +kernel
theorem dCo_init_26 : decode cCo_init 26 = .ok (.aload_n 1, 1) := by decide +kernel
theorem dCo_init_27 : decode cCo_init 27 = .ok (.putfield 22, 3) := by decide +kernel
theorem dCo_init_30 : decode cCo_init 30 = .ok (.return_, 1) := by decide +kernel
theorem dCo_find_0 : decode cCo_find 0 = .ok (.aload_n 0, 1) := by decide +kernel
theorem dCo_find_1 : decode cCo_find 1 = .ok (.aload_n 1, 1) := by decide +kernel
theorem dCo_find_2 : decode cCo_find 2 = .ok (.aload_n 2, 1) := by decide +kernel
theorem dCo_find_3 : decode cCo_find 3 = .ok (.invokevirtual 25, 3) := by decide +kernel
theorem dCo_find_6 : decode cCo_find 6 = .ok (.aload_n 0, 1) := by decide +kernel
theorem dCo_find_7 : decode cCo_find 7 = .ok (.iconst 0, 1) := by decide +kernel
theorem dCo_find_8 : decode cCo_find 8 = .ok (.putfield 18, 3) := by decide +kernel
theorem dCo_find_11 : decode cCo_find 11 = .ok (.iconst 0, 1) := by decide +kernel
theorem dCo_find_12 : decode cCo_find 12 = .ok (.istore_n 3, 1) := by decide +kernel
theorem dCo_find_13 : decode cCo_find 13 = .ok (.iconst 0, 1) := by decide +kernel
theorem dCo_find_14 : decode cCo_find 14 = .ok (.istore 4, 2) := by decide +kernel
theorem dCo_find_16 : decode cCo_find 16 = .ok (.iload 4, 2) := by decide +kernel
theorem dCo_find_18 : decode cCo_find 18 = .ok (.aload_n 1, 1) := by decide +kernel
theorem dCo_find_19 : decode cCo_find 19 = .ok (.getfield 29, 3) := by decide +kernel
theorem dCo_find_22 : decode cCo_find 22 = .ok (.if_icmp .ge 54, 3) := by decide +kernel
theorem dCo_find_25 : decode cCo_find 25 = .ok (.aload_n 2, 1) := by decide +kernel
theorem dCo_find_26 : decode cCo_find 26 = .ok (.aload_n 1, 1) := by decide +kernel
theorem dCo_find_27 : decode cCo_find 27 = .ok (.getfield 32, 3) := by decide +kernel
theorem dCo_find_30 : decode cCo_find 30 = .ok (.iload 4, 2) := by decide +kernel
theorem dCo_find_32 : decode cCo_find 32 = .ok (.iaload, 1) := by decide +kernel
theorem dCo_find_33 : decode cCo_find 33 = .ok (.iload_n 3, 1) := by decide +kernel
theorem dCo_find_34 : decode cCo_find 34 = .ok (.invokevirtual 35, 3) := by decide +kernel
theorem dCo_find_37 : decode cCo_find 37 = .ok (.istore 5, 2) := by decide +kernel
theorem dCo_find_39 : decode cCo_find 39 = .ok (.iload 5, 2) := by decide +kernel
theorem dCo_find_41 : decode cCo_find 41 = .ok (.iconst (-1), 1) := by decide +kernel
theorem dCo_find_42 : decode cCo_find 42 = .ok (.if_icmp .eq 28, 3) := by decide +kernel
theorem dCo_find_45 : decode cCo_find 45 = .ok (.aload_n 0, 1) := by decide +kernel
theorem dCo_find_46 : decode cCo_find 46 = .ok (.iload 4, 2) := by decide +kernel
theorem dCo_find_48 : decode cCo_find 48 = .ok (.iload_n 3, 1) := by decide +kernel
theorem dCo_find_49 : decode cCo_find 49 = .ok (.iload 5, 2) := by decide +kernel
theorem dCo_find_51 : decode cCo_find 51 = .ok (.invokevirtual 39, 3) := by decide +kernel
theorem dCo_find_54 : decode cCo_find 54 = .ok (.ifCond .eq 16, 3) := by decide +kernel
theorem dCo_find_57 : decode cCo_find 57 = .ok (.aload_n 0, 1) := by decide +kernel
theorem dCo_find_58 : decode cCo_find 58 = .ok (.iload 4, 2) := by decide +kernel
theorem dCo_find_60 : decode cCo_find 60 = .ok (.iload 5, 2) := by decide +kernel
theorem dCo_find_62 : decode cCo_find 62 = .ok (.invokevirtual 43, 3) := by decide +kernel
theorem dCo_find_65 : decode cCo_find 65 = .ok (.iload 5, 2) := by decide +kernel
theorem dCo_find_67 : decode cCo_find 67 = .ok (.iconst 1, 1) := by decide +kernel
theorem dCo_find_68 : decode cCo_find 68 = .ok (.iadd, 1) := by decide +kernel
theorem dCo_find_69 : decode cCo_find 69 = .ok (.istore_n 3, 1) := by decide +kernel
theorem dCo_find_70 : decode cCo_find 70 = .ok (.iinc 4 1, 3) := by decide +kernel
theorem dCo_find_73 : decode cCo_find 73 = .ok (.goto (-57), 3) := by decide +kernel
theorem dCo_find_76 : decode cCo_find 76 = .ok (.return_, 1) := by decide +kernel
theorem dCo_measure_0 : decode cCo_measure 0 = .ok (.aload_n 0, 1) := by decide +kernel
theorem dCo_measure_1 : decode cCo_measure 1 = .ok (.aload_n 1, 1) := by decide +kernel
theorem dCo_measure_2 : decode cCo_measure 2 = .ok (.getfield 29, 3) := by decide +kernel
theorem dCo_measure_5 : decode cCo_measure 5 = .ok (.aload_n 2, 1) := by decide +kernel
theorem dCo_measure_6 : decode cCo_measure 6 = .ok (.getfield 29, 3) := by decide +kernel
theorem dCo_measure_9 : decode cCo_measure 9 = .ok (.invokevirtual 47, 3) := by decide +kernel
theorem dCo_measure_12 : decode cCo_measure 12 = .ok (.aload_n 1, 1) := by decide +kernel
theorem dCo_measure_13 : decode cCo_measure 13 = .ok (.getfield 29, 3) := by decide +kernel
theorem dCo_measure_16 : decode cCo_measure 16 = .ok (.iconst 1, 1) := by decide +kernel
theorem dCo_measure_17 : decode cCo_measure 17 = .ok (.isub, 1) := by decide +kernel
theorem dCo_measure_18 : decode cCo_measure 18 = .ok (.istore_n 3, 1) := by decide +kernel
theorem dCo_measure_19 : decode cCo_measure 19 = .ok (.iload_n 3, 1) := by decide +kernel
theorem dCo_measure_20 : decode cCo_measure 20 = .ok (.ifCond .lt 99, 3) := by decide +kernel
theorem dCo_measure_23 : decode cCo_measure 23 = .ok (.aload_n 2, 1) := by decide +kernel
theorem dCo_measure_24 : decode cCo_measure 24 = .ok (.getfield 29, 3) := by decide +kernel
theorem dCo_measure_27 : decode cCo_measure 27 = .ok (.iconst 1, 1) := by decide +kernel
theorem dCo_measure_28 : decode cCo_measure 28 = .ok (.isub, 1) := by decide +kernel
theorem dCo_measure_29 : decode cCo_measure 29 = .ok (.istore 4, 2) := by decide +kernel
theorem dCo_measure_31 : decode cCo_measure 31 = .ok (.iload 4, 2) := by decide +kernel
theorem dCo_measure_33 : decode cCo_measure 33 = .ok (.ifCond .lt 80, 3) := by decide +kernel
theorem dCo_measure_36 : decode cCo_measure 36 = .ok (.iload_n 3, 1) := by decide +kernel
theorem dCo_measure_37 : decode cCo_measure 37 = .ok (.bipush 61, 2) := by decide +kernel
theorem dCo_measure_39 : decode cCo_measure 39 = .ok (.imul, 1) := by decide +kernel
theorem dCo_measure_40 : decode cCo_measure 40 = .ok (.iload 4, 2) := by decide +kernel
theorem dCo_measure_42 : decode cCo_measure 42 = .ok (.iadd, 1) := by decide +kernel
theorem dCo_measure_43 : decode cCo_measure 43 = .ok (.istore 5, 2) := by decide +kernel
theorem dCo_measure_45 : decode cCo_measure 45 = .ok (.aload_n 0, 1) := by decide +kernel
theorem dCo_measure_46 : decode cCo_measure 46 = .ok (.getfield 22, 3) := by decide +kernel
theorem dCo_measure_49 : decode cCo_measure 49 = .ok (.iload 5, 2) := by decide +kernel
theorem dCo_measure_51 : decode cCo_measure 51 = .ok (.aload_n 1, 1) := by decide +kernel
theorem dCo_measure_52 : decode cCo_measure 52 = .ok (.getfield 32, 3) := by decide +kernel
theorem dCo_measure_55 : decode cCo_measure 55 = .ok (.iload_n 3, 1) := by decide +kernel
theorem dCo_measure_56 : decode cCo_measure 56 = .ok (.iaload, 1) := by decide +kernel
theorem dCo_measure_57 : decode cCo_measure 57 = .ok (.aload_n 2, 1) := by decide +kernel
theorem dCo_measure_58 : decode cCo_measure 58 = .ok (.getfield 32, 3) := by decide +kernel
theorem dCo_measure_61 : decode cCo_measure 61 = .ok (.iload 4, 2) := by decide +kernel
theorem dCo_measure_63 : decode cCo_measure 63 = .ok (.iaload, 1) := by decide +kernel
theorem dCo_measure_64 : decode cCo_measure 64 = .ok (.if_icmp .ne 20, 3) := by decide +kernel
theorem dCo_measure_67 : decode cCo_measure 67 = .ok (.iconst 1, 1) := by decide +kernel
theorem dCo_measure_68 : decode cCo_measure 68 = .ok (.aload_n 0, 1) := by decide +kernel
theorem dCo_measure_69 : decode cCo_measure 69 = .ok (.getfield 22, 3) := by decide +kernel
theorem dCo_measure_72 : decode cCo_measure 72 = .ok (.iload 5, 2) := by decide +kernel
theorem dCo_measure_74 : decode cCo_measure 74 = .ok (.bipush 61, 2) := by decide +kernel
theorem dCo_measure_76 : decode cCo_measure 76 = .ok (.iadd, 1) := by decide +kernel
theorem dCo_measure_77 : decode cCo_measure 77 = .ok (.iconst 1, 1) := by decide +kernel
theorem dCo_measure_78 : decode cCo_measure 78 = .ok (.iadd, 1) := by decide +kernel
theorem dCo_measure_79 : decode cCo_measure 79 = .ok (.iaload, 1) := by decide +kernel
theorem dCo_measure_80 : decode cCo_measure 80 = .ok (.iadd, 1) := by decide +kernel
theorem dCo_measure_81 : decode cCo_measure 81 = .ok (.goto 25, 3) := by decide +kernel
theorem dCo_measure_84 : decode cCo_measure 84 = .ok (.aload_n 0, 1) := by decide +kernel
theorem dCo_measure_85 : decode cCo_measure 85 = .ok (.getfield 22, 3) := by decide +kernel
theorem dCo_measure_88 : decode cCo_measure 88 = .ok (.iload 5, 2) := by decide +kernel
theorem dCo_measure_90 : decode cCo_measure 90 = .ok (.bipush 61, 2) := by decide +kernel
theorem dCo_measure_92 : decode cCo_measure 92 = .ok (.iadd, 1) := by decide +kernel
theorem dCo_measure_93 : decode cCo_measure 93 = .ok (.iaload, 1) := by decide +kernel
theorem dCo_measure_94 : decode cCo_measure 94 = .ok (.aload_n 0, 1) := by decide +kernel
theorem dCo_measure_95 : decode cCo_measure 95 = .ok (.getfield 22, 3) := by decide +kernel
theorem dCo_measure_98 : decode cCo_measure 98 = .ok (.iload 5, 2) := by decide +kernel
theorem dCo_measure_100 : decode cCo_measure 100 = .ok (.iconst 1, 1) := by decide +kernel
theorem dCo_measure_101 : decode cCo_measure 101 = .ok (.iadd, 1) := by decide +kernel
theorem dCo_measure_102 : decode cCo_measure 102 = .ok (.iaload, 1) := by decide +kernel
theorem dCo_measure_103 : decode cCo_measure 103 = .ok (.invokestatic 50, 3) := by decide +kernel
theorem dCo_measure_106 : decode cCo_measure 106 = .ok (.iastore, 1) := by decide +kernel
theorem dCo_measure_107 : decode cCo_measure 107 = .ok (.iinc 4 (-1), 3) := by decide +kernel
theorem dCo_measure_110 : decode cCo_measure 110 = .ok (.goto (-79), 3) := by decide +kernel
theorem dCo_measure_113 : decode cCo_measure 113 = .ok (.iinc 3 (-1), 3) := by decide +kernel
theorem dCo_measure_116 : decode cCo_measure 116 = .ok (.goto (-97), 3) := by decide +kernel
theorem dCo_measure_119 : decode cCo_measure 119 = .ok (.return_, 1) := by decide +kernel
theorem dCo_clearEnds_0 : decode cCo_clearEnds 0 = .ok (.iconst 0, 1) := by decide +kernel
theorem dCo_clearEnds_1 : decode cCo_clearEnds 1 = .ok (.istore_n 3, 1) := by decide +kernel
theorem dCo_clearEnds_2 : decode cCo_clearEnds 2 = .ok (.iload_n 3, 1) := by decide +kernel
theorem dCo_clearEnds_3 : decode cCo_clearEnds 3 = .ok (.iload_n 1, 1) := by decide +kernel
theorem dCo_clearEnds_4 : decode cCo_clearEnds 4 = .ok (.if_icmp .gt 21, 3) := by decide +kernel
theorem dCo_clearEnds_7 : decode cCo_clearEnds 7 = .ok (.aload_n 0, 1) := by decide +kernel
theorem dCo_clearEnds_8 : decode cCo_clearEnds 8 = .ok (.getfield 22, 3) := by decide +kernel
theorem dCo_clearEnds_11 : decode cCo_clearEnds 11 = .ok (.iload_n 3, 1) := by decide +kernel
theorem dCo_clearEnds_12 : decode cCo_clearEnds 12 = .ok (.bipush 61, 2) := by decide +kernel
theorem dCo_clearEnds_14 : decode cCo_clearEnds 14 = .ok (.imul, 1) := by decide +kernel
theorem dCo_clearEnds_15 : decode cCo_clearEnds 15 = .ok (.iload_n 2, 1) := by decide +kernel
theorem dCo_clearEnds_16 : decode cCo_clearEnds 16 = .ok (.iadd, 1) := by decide +kernel
theorem dCo_clearEnds_17 : decode cCo_clearEnds 17 = .ok (.iconst 0, 1) := by decide +kernel
theorem dCo_clearEnds_18 : decode cCo_clearEnds 18 = .ok (.iastore, 1) := by decide +kernel
theorem dCo_clearEnds_19 : decode cCo_clearEnds 19 = .ok (.iinc 3 1, 3) := by decide +kernel
theorem dCo_clearEnds_22 : decode cCo_clearEnds 22 = .ok (.goto (-20), 3) := by decide +kernel
theorem dCo_clearEnds_25 : decode cCo_clearEnds 25 = .ok (.iconst 0, 1) := by decide +kernel
theorem dCo_clearEnds_26 : decode cCo_clearEnds 26 = .ok (.istore_n 3, 1) := by decide +kernel
theorem dCo_clearEnds_27 : decode cCo_clearEnds 27 = .ok (.iload_n 3, 1) := by decide +kernel
theorem dCo_clearEnds_28 : decode cCo_clearEnds 28 = .ok (.iload_n 2, 1) := by decide +kernel
theorem dCo_clearEnds_29 : decode cCo_clearEnds 29 = .ok (.if_icmp .gt 21, 3) := by decide +kernel
theorem dCo_clearEnds_32 : decode cCo_clearEnds 32 = .ok (.aload_n 0, 1) := by decide +kernel
theorem dCo_clearEnds_33 : decode cCo_clearEnds 33 = .ok (.getfield 22, 3) := by decide +kernel
theorem dCo_clearEnds_36 : decode cCo_clearEnds 36 = .ok (.iload_n 1, 1) := by decide +kernel
theorem dCo_clearEnds_37 : decode cCo_clearEnds 37 = .ok (.bipush 61, 2) := by decide +kernel
theorem dCo_clearEnds_39 : decode cCo_clearEnds 39 = .ok (.imul, 1) := by decide +kernel
theorem dCo_clearEnds_40 : decode cCo_clearEnds 40 = .ok (.iload_n 3, 1) := by decide +kernel
theorem dCo_clearEnds_41 : decode cCo_clearEnds 41 = .ok (.iadd, 1) := by decide +kernel
theorem dCo_clearEnds_42 : decode cCo_clearEnds 42 = .ok (.iconst 0, 1) := by decide +kernel
theorem dCo_clearEnds_43 : decode cCo_clearEnds 43 = .ok (.iastore, 1) := by decide +kernel
theorem dCo_clearEnds_44 : decode cCo_clearEnds 44 = .ok (.iinc 3 1, 3) := by decide +kernel
theorem dCo_clearEnds_47 : decode cCo_clearEnds 47 = .ok (.goto (-20), 3) := by decide +kernel
theorem dCo_clearEnds_50 : decode cCo_clearEnds 50 = .ok (.return_, 1) := by decide +kernel
theorem dCo_losesNoPair_0 : decode cCo_losesNoPair 0 = .ok (.aload_n 0, 1) := by decide +kernel
theorem dCo_losesNoPair_1 : decode cCo_losesNoPair 1 = .ok (.getfield 22, 3) := by decide +kernel
theorem dCo_losesNoPair_4 : decode cCo_losesNoPair 4 = .ok (.iload_n 1, 1) := by decide +kernel
theorem dCo_losesNoPair_5 : decode cCo_losesNoPair 5 = .ok (.bipush 61, 2) := by decide +kernel
theorem dCo_losesNoPair_7 : decode cCo_losesNoPair 7 = .ok (.imul, 1) := by decide +kernel
theorem dCo_losesNoPair_8 : decode cCo_losesNoPair 8 = .ok (.iload_n 2, 1) := by decide +kernel
theorem dCo_losesNoPair_9 : decode cCo_losesNoPair 9 = .ok (.iadd, 1) := by decide +kernel
theorem dCo_losesNoPair_10 : decode cCo_losesNoPair 10 = .ok (.iaload, 1) := by decide +kernel
theorem dCo_losesNoPair_11 : decode cCo_losesNoPair 11 = .ok (.istore 4, 2) := by decide +kernel
theorem dCo_losesNoPair_13 : decode cCo_losesNoPair 13 = .ok (.iconst 1, 1) := by decide +kernel
theorem dCo_losesNoPair_14 : decode cCo_losesNoPair 14 = .ok (.aload_n 0, 1) := by decide +kernel
theorem dCo_losesNoPair_15 : decode cCo_losesNoPair 15 = .ok (.getfield 22, 3) := by decide +kernel
theorem dCo_losesNoPair_18 : decode cCo_losesNoPair 18 = .ok (.iload_n 1, 1) := by decide +kernel
theorem dCo_losesNoPair_19 : decode cCo_losesNoPair 19 = .ok (.iconst 1, 1) := by decide +kernel
theorem dCo_losesNoPair_20 : decode cCo_losesNoPair 20 = .ok (.iadd, 1) := by decide +kernel
theorem dCo_losesNoPair_21 : decode cCo_losesNoPair 21 = .ok (.bipush 61, 2) := by decide +kernel
theorem dCo_losesNoPair_23 : decode cCo_losesNoPair 23 = .ok (.imul, 1) := by decide +kernel
theorem dCo_losesNoPair_24 : decode cCo_losesNoPair 24 = .ok (.iload_n 3, 1) := by decide +kernel
theorem dCo_losesNoPair_25 : decode cCo_losesNoPair 25 = .ok (.iadd, 1) := by decide +kernel
theorem dCo_losesNoPair_26 : decode cCo_losesNoPair 26 = .ok (.iconst 1, 1) := by decide +kernel
theorem dCo_losesNoPair_27 : decode cCo_losesNoPair 27 = .ok (.iadd, 1) := by decide +kernel
theorem dCo_losesNoPair_28 : decode cCo_losesNoPair 28 = .ok (.iaload, 1) := by decide +kernel
theorem dCo_losesNoPair_29 : decode cCo_losesNoPair 29 = .ok (.iadd, 1) := by decide +kernel
theorem dCo_losesNoPair_30 : decode cCo_losesNoPair 30 = .ok (.iload 4, 2) := by decide +kernel
theorem dCo_losesNoPair_32 : decode cCo_losesNoPair 32 = .ok (.if_icmp .ne 7, 3) := by decide +kernel
theorem dCo_losesNoPair_35 : decode cCo_losesNoPair 35 = .ok (.iconst 1, 1) := by decide +kernel
theorem dCo_losesNoPair_36 : decode cCo_losesNoPair 36 = .ok (.goto 4, 3) := by decide +kernel
theorem dCo_losesNoPair_39 : decode cCo_losesNoPair 39 = .ok (.iconst 0, 1) := by decide +kernel
theorem dCo_losesNoPair_40 : decode cCo_losesNoPair 40 = .ok (.ireturn, 1) := by decide +kernel
theorem dCo_addPair_0 : decode cCo_addPair 0 = .ok (.aload_n 0, 1) := by decide +kernel
theorem dCo_addPair_1 : decode cCo_addPair 1 = .ok (.getfield 18, 3) := by decide +kernel
theorem dCo_addPair_4 : decode cCo_addPair 4 = .ok (.bipush 60, 2) := by decide +kernel
theorem dCo_addPair_6 : decode cCo_addPair 6 = .ok (.if_icmp .ge 33, 3) := by decide +kernel
theorem dCo_addPair_9 : decode cCo_addPair 9 = .ok (.aload_n 0, 1) := by decide +kernel
theorem dCo_addPair_10 : decode cCo_addPair 10 = .ok (.getfield 9, 3) := by decide +kernel
theorem dCo_addPair_13 : decode cCo_addPair 13 = .ok (.aload_n 0, 1) := by decide +kernel
theorem dCo_addPair_14 : decode cCo_addPair 14 = .ok (.getfield 18, 3) := by decide +kernel
theorem dCo_addPair_17 : decode cCo_addPair 17 = .ok (.iload_n 1, 1) := by decide +kernel
theorem dCo_addPair_18 : decode cCo_addPair 18 = .ok (.iastore, 1) := by decide +kernel
theorem dCo_addPair_19 : decode cCo_addPair 19 = .ok (.aload_n 0, 1) := by decide +kernel
theorem dCo_addPair_20 : decode cCo_addPair 20 = .ok (.getfield 15, 3) := by decide +kernel
theorem dCo_addPair_23 : decode cCo_addPair 23 = .ok (.aload_n 0, 1) := by decide +kernel
theorem dCo_addPair_24 : decode cCo_addPair 24 = .ok (.getfield 18, 3) := by decide +kernel
theorem dCo_addPair_27 : decode cCo_addPair 27 = .ok (.iload_n 2, 1) := by decide +kernel
theorem dCo_addPair_28 : decode cCo_addPair 28 = .ok (.iastore, 1) := by decide +kernel
theorem dCo_addPair_29 : decode cCo_addPair 29 = .ok (.aload_n 0, 1) := by decide +kernel
theorem dCo_addPair_30 : decode cCo_addPair 30 = .ok (.dup, 1) := by decide +kernel
theorem dCo_addPair_31 : decode cCo_addPair 31 = .ok (.getfield 18, 3) := by decide +kernel
theorem dCo_addPair_34 : decode cCo_addPair 34 = .ok (.iconst 1, 1) := by decide +kernel
theorem dCo_addPair_35 : decode cCo_addPair 35 = .ok (.iadd, 1) := by decide +kernel
theorem dCo_addPair_36 : decode cCo_addPair 36 = .ok (.putfield 18, 3) := by decide +kernel
theorem dCo_addPair_39 : decode cCo_addPair 39 = .ok (.return_, 1) := by decide +kernel
theorem dHu_init_0 : decode cHu_init 0 = .ok (.aload_n 0, 1) := by decide +kernel
theorem dHu_init_1 : decode cHu_init 1 = .ok (.invokespecial 3, 3) := by decide +kernel
theorem dHu_init_4 : decode cHu_init 4 = .ok (.aload_n 0, 1) := by decide +kernel
theorem dHu_init_5 : decode cHu_init 5 = .ok (.sipush 244, 3) := by decide +kernel
theorem dHu_init_8 : decode cHu_init 8 = .ok (.newarray .int, 2) := by decide +kernel
theorem dHu_init_10 : decode cHu_init 10 = .ok (.putfield 11, 3) := by decide +kernel
theorem dHu_init_13 : decode cHu_init 13 = .ok (.aload_n 0, 1) := by decide +kernel
theorem dHu_init_14 : decode cHu_init 14 = .ok (.iconst 0, 1) := by decide +kernel
theorem dHu_init_15 : decode cHu_init 15 = .ok (.putfield 15, 3) := by decide +kernel
theorem dHu_init_18 : decode cHu_init 18 = .ok (.aload_n 0, 1) := by decide +kernel
theorem dHu_init_19 : decode cHu_init 19 = .ok (.aload_n 1, 1) := by decide +kernel
theorem dHu_init_20 : decode cHu_init 20 = .ok (.putfield 19, 3) := by decide +kernel
theorem dHu_init_23 : decode cHu_init 23 = .ok (.return_, 1) := by decide +kernel
theorem dHu_find_0 : decode cHu_find 0 = .ok (.aload_n 0, 1) := by decide +kernel
theorem dHu_find_1 : decode cHu_find 1 = .ok (.getfield 19, 3) := by decide +kernel
theorem dHu_find_4 : decode cHu_find 4 = .ok (.aload_n 1, 1) := by decide +kernel
theorem dHu_find_5 : decode cHu_find 5 = .ok (.aload_n 2, 1) := by decide +kernel
theorem dHu_find_6 : decode cHu_find 6 = .ok (.invokevirtual 23, 3) := by decide +kernel
theorem dHu_find_9 : decode cHu_find 9 = .ok (.aload_n 0, 1) := by decide +kernel
theorem dHu_find_10 : decode cHu_find 10 = .ok (.iconst 0, 1) := by decide +kernel
theorem dHu_find_11 : decode cHu_find 11 = .ok (.putfield 15, 3) := by decide +kernel
theorem dHu_find_14 : decode cHu_find 14 = .ok (.iconst 0, 1) := by decide +kernel
theorem dHu_find_15 : decode cHu_find 15 = .ok (.istore_n 3, 1) := by decide +kernel
theorem dHu_find_16 : decode cHu_find 16 = .ok (.iconst 0, 1) := by decide +kernel
theorem dHu_find_17 : decode cHu_find 17 = .ok (.istore 4, 2) := by decide +kernel
theorem dHu_find_19 : decode cHu_find 19 = .ok (.iconst 0, 1) := by decide +kernel
theorem dHu_find_20 : decode cHu_find 20 = .ok (.istore 5, 2) := by decide +kernel
theorem dHu_find_22 : decode cHu_find 22 = .ok (.iload 5, 2) := by decide +kernel
theorem dHu_find_24 : decode cHu_find 24 = .ok (.aload_n 0, 1) := by decide +kernel
theorem dHu_find_25 : decode cHu_find 25 = .ok (.getfield 19, 3) := by decide +kernel
theorem dHu_find_28 : decode cHu_find 28 = .ok (.getfield 29, 3) := by decide +kernel
theorem dHu_find_31 : decode cHu_find 31 = .ok (.if_icmp .ge 63, 3) := by decide +kernel
theorem dHu_find_34 : decode cHu_find 34 = .ok (.aload_n 0, 1) := by decide +kernel
theorem dHu_find_35 : decode cHu_find 35 = .ok (.iload_n 3, 1) := by decide +kernel
theorem dHu_find_36 : decode cHu_find 36 = .ok (.aload_n 0, 1) := by decide +kernel
theorem dHu_find_37 : decode cHu_find 37 = .ok (.getfield 19, 3) := by decide +kernel
theorem dHu_find_40 : decode cHu_find 40 = .ok (.getfield 30, 3) := by decide +kernel
theorem dHu_find_43 : decode cHu_find 43 = .ok (.iload 5, 2) := by decide +kernel
theorem dHu_find_45 : decode cHu_find 45 = .ok (.iaload, 1) := by decide +kernel
theorem dHu_find_46 : decode cHu_find 46 = .ok (.iload 4, 2) := by decide +kernel
theorem dHu_find_48 : decode cHu_find 48 = .ok (.aload_n 0, 1) := by decide +kernel
theorem dHu_find_49 : decode cHu_find 49 = .ok (.getfield 19, 3) := by decide +kernel
theorem dHu_find_52 : decode cHu_find 52 = .ok (.getfield 33, 3) := by decide +kernel
theorem dHu_find_55 : decode cHu_find 55 = .ok (.iload 5, 2) := by decide +kernel
theorem dHu_find_57 : decode cHu_find 57 = .ok (.iaload, 1) := by decide +kernel
theorem dHu_find_58 : decode cHu_find 58 = .ok (.invokevirtual 36, 3) := by decide +kernel
theorem dHu_find_61 : decode cHu_find 61 = .ok (.aload_n 0, 1) := by decide +kernel
theorem dHu_find_62 : decode cHu_find 62 = .ok (.getfield 19, 3) := by decide +kernel
theorem dHu_find_65 : decode cHu_find 65 = .ok (.getfield 30, 3) := by decide +kernel
theorem dHu_find_68 : decode cHu_find 68 = .ok (.iload 5, 2) := by decide +kernel
theorem dHu_find_70 : decode cHu_find 70 = .ok (.iaload, 1) := by decide +kernel
theorem dHu_find_71 : decode cHu_find 71 = .ok (.iconst 1, 1) := by decide +kernel
theorem dHu_find_72 : decode cHu_find 72 = .ok (.iadd, 1) := by decide +kernel
theorem dHu_find_73 : decode cHu_find 73 = .ok (.istore_n 3, 1) := by decide +kernel
theorem dHu_find_74 : decode cHu_find 74 = .ok (.aload_n 0, 1) := by decide +kernel
theorem dHu_find_75 : decode cHu_find 75 = .ok (.getfield 19, 3) := by decide +kernel
theorem dHu_find_78 : decode cHu_find 78 = .ok (.getfield 33, 3) := by decide +kernel
theorem dHu_find_81 : decode cHu_find 81 = .ok (.iload 5, 2) := by decide +kernel
theorem dHu_find_83 : decode cHu_find 83 = .ok (.iaload, 1) := by decide +kernel
theorem dHu_find_84 : decode cHu_find 84 = .ok (.iconst 1, 1) := by decide +kernel
theorem dHu_find_85 : decode cHu_find 85 = .ok (.iadd, 1) := by decide +kernel
theorem dHu_find_86 : decode cHu_find 86 = .ok (.istore 4, 2) := by decide +kernel
theorem dHu_find_88 : decode cHu_find 88 = .ok (.iinc 5 1, 3) := by decide +kernel
theorem dHu_find_91 : decode cHu_find 91 = .ok (.goto (-69), 3) := by decide +kernel
theorem dHu_find_94 : decode cHu_find 94 = .ok (.aload_n 0, 1) := by decide +kernel
theorem dHu_find_95 : decode cHu_find 95 = .ok (.iload_n 3, 1) := by decide +kernel
theorem dHu_find_96 : decode cHu_find 96 = .ok (.aload_n 1, 1) := by decide +kernel
theorem dHu_find_97 : decode cHu_find 97 = .ok (.getfield 40, 3) := by decide +kernel
theorem dHu_find_100 : decode cHu_find 100 = .ok (.iload 4, 2) := by decide +kernel
theorem dHu_find_102 : decode cHu_find 102 = .ok (.aload_n 2, 1) := by decide +kernel
theorem dHu_find_103 : decode cHu_find 103 = .ok (.getfield 40, 3) := by decide +kernel
theorem dHu_find_106 : decode cHu_find 106 = .ok (.invokevirtual 36, 3) := by decide +kernel
theorem dHu_find_109 : decode cHu_find 109 = .ok (.return_, 1) := by decide +kernel
theorem dHu_addUnlessEmpty_0 : decode cHu_addUnlessEmpty 0 = .ok (.iload_n 1, 1) := by decide +kernel
theorem dHu_addUnlessEmpty_1 : decode cHu_addUnlessEmpty 1 = .ok (.iload_n 2, 1) := by decide +kernel
theorem dHu_addUnlessEmpty_2 : decode cHu_addUnlessEmpty 2 = .ok (.if_icmp .lt 9, 3) := by decide +kernel
theorem dHu_addUnlessEmpty_5 : decode cHu_addUnlessEmpty 5 = .ok (.iload_n 3, 1) := by decide +kernel
theorem dHu_addUnlessEmpty_6 : decode cHu_addUnlessEmpty 6 = .ok (.iload 4, 2) := by decide +kernel
theorem dHu_addUnlessEmpty_8 : decode cHu_addUnlessEmpty 8 = .ok (.if_icmp .ge 75, 3) := by decide +kernel
theorem dHu_addUnlessEmpty_11 : decode cHu_addUnlessEmpty 11 = .ok (.aload_n 0, 1) := by decide +kernel
theorem dHu_addUnlessEmpty_12 : decode cHu_addUnlessEmpty 12 = .ok (.getfield 15, 3) := by decide +kernel
theorem dHu_addUnlessEmpty_15 : decode cHu_addUnlessEmpty 15 = .ok (.bipush 61, 2) := by decide +kernel
theorem dHu_addUnlessEmpty_17 : decode cHu_addUnlessEmpty 17 = .ok (.if_icmp .ge 66, 3) := by decide +kernel
theorem dHu_addUnlessEmpty_20 : decode cHu_addUnlessEmpty 20 = .ok (.aload_n 0, 1) := by decide +kernel
theorem dHu_addUnlessEmpty_21 : decode cHu_addUnlessEmpty 21 = .ok (.getfield 15, 3) := by decide +kernel
theorem dHu_addUnlessEmpty_24 : decode cHu_addUnlessEmpty 24 = .ok (.iconst 4, 1) := by decide +kernel
theorem dHu_addUnlessEmpty_25 : decode cHu_addUnlessEmpty 25 = .ok (.imul, 1) := by decide +kernel
theorem dHu_addUnlessEmpty_26 : decode cHu_addUnlessEmpty 26 = .ok (.istore 5, 2) := by decide +kernel
theorem dHu_addUnlessEmpty_28 : decode cHu_addUnlessEmpty 28 = .ok (.aload_n 0, 1) := by decide +kernel
theorem dHu_addUnlessEmpty_29 : decode cHu_addUnlessEmpty 29 = .ok (.getfield 11, 3) := by decide +kernel
theorem dHu_addUnlessEmpty_32 : decode cHu_addUnlessEmpty 32 = .ok (.iload 5, 2) := by decide +kernel
theorem dHu_addUnlessEmpty_34 : decode cHu_addUnlessEmpty 34 = .ok (.iconst 0, 1) := by decide +kernel
theorem dHu_addUnlessEmpty_35 : decode cHu_addUnlessEmpty 35 = .ok (.iadd, 1) := by decide +kernel
theorem dHu_addUnlessEmpty_36 : decode cHu_addUnlessEmpty 36 = .ok (.iload_n 1, 1) := by decide +kernel
theorem dHu_addUnlessEmpty_37 : decode cHu_addUnlessEmpty 37 = .ok (.iastore, 1) := by decide +kernel
theorem dHu_addUnlessEmpty_38 : decode cHu_addUnlessEmpty 38 = .ok (.aload_n 0, 1) := by decide +kernel
theorem dHu_addUnlessEmpty_39 : decode cHu_addUnlessEmpty 39 = .ok (.getfield 11, 3) := by decide +kernel
theorem dHu_addUnlessEmpty_42 : decode cHu_addUnlessEmpty 42 = .ok (.iload 5, 2) := by decide +kernel
theorem dHu_addUnlessEmpty_44 : decode cHu_addUnlessEmpty 44 = .ok (.iconst 1, 1) := by decide +kernel
theorem dHu_addUnlessEmpty_45 : decode cHu_addUnlessEmpty 45 = .ok (.iadd, 1) := by decide +kernel
theorem dHu_addUnlessEmpty_46 : decode cHu_addUnlessEmpty 46 = .ok (.iload_n 2, 1) := by decide +kernel
theorem dHu_addUnlessEmpty_47 : decode cHu_addUnlessEmpty 47 = .ok (.iload_n 1, 1) := by decide +kernel
theorem dHu_addUnlessEmpty_48 : decode cHu_addUnlessEmpty 48 = .ok (.isub, 1) := by decide +kernel
theorem dHu_addUnlessEmpty_49 : decode cHu_addUnlessEmpty 49 = .ok (.iastore, 1) := by decide +kernel
theorem dHu_addUnlessEmpty_50 : decode cHu_addUnlessEmpty 50 = .ok (.aload_n 0, 1) := by decide +kernel
theorem dHu_addUnlessEmpty_51 : decode cHu_addUnlessEmpty 51 = .ok (.getfield 11, 3) := by decide +kernel
theorem dHu_addUnlessEmpty_54 : decode cHu_addUnlessEmpty 54 = .ok (.iload 5, 2) := by decide +kernel
theorem dHu_addUnlessEmpty_56 : decode cHu_addUnlessEmpty 56 = .ok (.iconst 2, 1) := by decide +kernel
theorem dHu_addUnlessEmpty_57 : decode cHu_addUnlessEmpty 57 = .ok (.iadd, 1) := by decide +kernel
theorem dHu_addUnlessEmpty_58 : decode cHu_addUnlessEmpty 58 = .ok (.iload_n 3, 1) := by decide +kernel
theorem dHu_addUnlessEmpty_59 : decode cHu_addUnlessEmpty 59 = .ok (.iastore, 1) := by decide +kernel
theorem dHu_addUnlessEmpty_60 : decode cHu_addUnlessEmpty 60 = .ok (.aload_n 0, 1) := by decide +kernel
theorem dHu_addUnlessEmpty_61 : decode cHu_addUnlessEmpty 61 = .ok (.getfield 11, 3) := by decide +kernel
theorem dHu_addUnlessEmpty_64 : decode cHu_addUnlessEmpty 64 = .ok (.iload 5, 2) := by decide +kernel
theorem dHu_addUnlessEmpty_66 : decode cHu_addUnlessEmpty 66 = .ok (.iconst 3, 1) := by decide +kernel
theorem dHu_addUnlessEmpty_67 : decode cHu_addUnlessEmpty 67 = .ok (.iadd, 1) := by decide +kernel
theorem dHu_addUnlessEmpty_68 : decode cHu_addUnlessEmpty 68 = .ok (.iload 4, 2) := by decide +kernel
theorem dHu_addUnlessEmpty_70 : decode cHu_addUnlessEmpty 70 = .ok (.iload_n 3, 1) := by decide +kernel
theorem dHu_addUnlessEmpty_71 : decode cHu_addUnlessEmpty 71 = .ok (.isub, 1) := by decide +kernel
theorem dHu_addUnlessEmpty_72 : decode cHu_addUnlessEmpty 72 = .ok (.iastore, 1) := by decide +kernel
theorem dHu_addUnlessEmpty_73 : decode cHu_addUnlessEmpty 73 = .ok (.aload_n 0, 1) := by decide +kernel
theorem dHu_addUnlessEmpty_74 : decode cHu_addUnlessEmpty 74 = .ok (.dup, 1) := by decide +kernel
theorem dHu_addUnlessEmpty_75 : decode cHu_addUnlessEmpty 75 = .ok (.getfield 15, 3) := by decide +kernel
theorem dHu_addUnlessEmpty_78 : decode cHu_addUnlessEmpty 78 = .ok (.iconst 1, 1) := by decide +kernel
theorem dHu_addUnlessEmpty_79 : decode cHu_addUnlessEmpty 79 = .ok (.iadd, 1) := by decide +kernel
theorem dHu_addUnlessEmpty_80 : decode cHu_addUnlessEmpty 80 = .ok (.putfield 15, 3) := by decide +kernel
theorem dHu_addUnlessEmpty_83 : decode cHu_addUnlessEmpty 83 = .ok (.return_, 1) := by decide +kernel
theorem dPa_init_0 : decode cPa_init 0 = .ok (.aload_n 0, 1) := by decide +kernel
theorem dPa_init_1 : decode cPa_init 1 = .ok (.invokespecial 1, 3) := by decide +kernel
theorem dPa_init_4 : decode cPa_init 4 = .ok (.aload_n 0, 1) := by decide +kernel
theorem dPa_init_5 : decode cPa_init 5 = .ok (.new 7, 3) := by decide +kernel
theorem dPa_init_8 : decode cPa_init 8 = .ok (.dup, 1) := by decide +kernel
theorem dPa_init_9 : decode cPa_init 9 = .ok (.iconst 0, 1) := by decide +kernel
theorem dPa_init_10 : decode cPa_init 10 = .ok (.invokespecial 9, 3) := by decide +kernel
theorem dPa_init_13 : decode cPa_init 13 = .ok (.putfield 12, 3) := by decide +kernel
theorem dPa_init_16 : decode cPa_init 16 = .ok (.aload_n 0, 1) := by decide +kernel
theorem dPa_init_17 : decode cPa_init 17 = .ok (.iconst 0, 1) := by decide +kernel
theorem dPa_init_18 : decode cPa_init 18 = .ok (.putfield 18, 3) := by decide +kernel
theorem dPa_init_21 : decode cPa_init 21 = .ok (.aload_n 0, 1) := by decide +kernel
theorem dPa_init_22 : decode cPa_init 22 = .ok (.iconst 0, 1) := by decide +kernel
theorem dPa_init_23 : decode cPa_init 23 = .ok (.putfield 22, 3) := by decide +kernel
theorem dPa_init_26 : decode cPa_init 26 = .ok (.return_, 1) := by decide +kernel
theorem dPa_startOn_0 : decode cPa_startOn 0 = .ok (.aload_n 0, 1) := by decide +kernel
theorem dPa_startOn_1 : decode cPa_startOn 1 = .ok (.aload_n 1, 1) := by decide +kernel
theorem dPa_startOn_2 : decode cPa_startOn 2 = .ok (.putfield 12, 3) := by decide +kernel
theorem dPa_startOn_5 : decode cPa_startOn 5 = .ok (.aload_n 0, 1) := by decide +kernel
theorem dPa_startOn_6 : decode cPa_startOn 6 = .ok (.iconst 0, 1) := by decide +kernel
theorem dPa_startOn_7 : decode cPa_startOn 7 = .ok (.putfield 18, 3) := by decide +kernel
theorem dPa_startOn_10 : decode cPa_startOn 10 = .ok (.aload_n 0, 1) := by decide +kernel
theorem dPa_startOn_11 : decode cPa_startOn 11 = .ok (.iconst 0, 1) := by decide +kernel
theorem dPa_startOn_12 : decode cPa_startOn 12 = .ok (.putfield 22, 3) := by decide +kernel
theorem dPa_startOn_15 : decode cPa_startOn 15 = .ok (.return_, 1) := by decide +kernel
theorem dPa_stepOverAnchor_0 : decode cPa_stepOverAnchor 0 = .ok (.aload_n 0, 1) := by decide +kernel
theorem dPa_stepOverAnchor_1 : decode cPa_stepOverAnchor 1 = .ok (.aload_n 0, 1) := by decide +kernel
theorem dPa_stepOverAnchor_2 : decode cPa_stepOverAnchor 2 = .ok (.getfield 22, 3) := by decide +kernel
theorem dPa_stepOverAnchor_5 : decode cPa_stepOverAnchor 5 = .ok (.iconst 1, 1) := by decide +kernel
theorem dPa_stepOverAnchor_6 : decode cPa_stepOverAnchor 6 = .ok (.iadd, 1) := by decide +kernel
theorem dPa_stepOverAnchor_7 : decode cPa_stepOverAnchor 7 = .ok (.putfield 18, 3) := by decide +kernel
theorem dPa_stepOverAnchor_10 : decode cPa_stepOverAnchor 10 = .ok (.return_, 1) := by decide +kernel
theorem dPa_length_0 : decode cPa_length 0 = .ok (.aload_n 0, 1) := by decide +kernel
theorem dPa_length_1 : decode cPa_length 1 = .ok (.getfield 22, 3) := by decide +kernel
theorem dPa_length_4 : decode cPa_length 4 = .ok (.aload_n 0, 1) := by decide +kernel
theorem dPa_length_5 : decode cPa_length 5 = .ok (.getfield 18, 3) := by decide +kernel
theorem dPa_length_8 : decode cPa_length 8 = .ok (.isub, 1) := by decide +kernel
theorem dPa_length_9 : decode cPa_length 9 = .ok (.ireturn, 1) := by decide +kernel
theorem dPa_isLike_0 : decode cPa_isLike 0 = .ok (.aload_n 0, 1) := by decide +kernel
theorem dPa_isLike_1 : decode cPa_isLike 1 = .ok (.invokevirtual 25, 3) := by decide +kernel
theorem dPa_isLike_4 : decode cPa_isLike 4 = .ok (.aload_n 1, 1) := by decide +kernel
theorem dPa_isLike_5 : decode cPa_isLike 5 = .ok (.invokevirtual 25, 3) := by decide +kernel
theorem dPa_isLike_8 : decode cPa_isLike 8 = .ok (.if_icmp .eq 5, 3) := by decide +kernel
theorem dPa_isLike_11 : decode cPa_isLike 11 = .ok (.iconst 0, 1) := by decide +kernel
theorem dPa_isLike_12 : decode cPa_isLike 12 = .ok (.ireturn, 1) := by decide +kernel
theorem dPa_isLike_13 : decode cPa_isLike 13 = .ok (.aload_n 0, 1) := by decide +kernel
theorem dPa_isLike_14 : decode cPa_isLike 14 = .ok (.getfield 18, 3) := by decide +kernel
theorem dPa_isLike_17 : decode cPa_isLike 17 = .ok (.istore_n 2, 1) := by decide +kernel
theorem dPa_isLike_18 : decode cPa_isLike 18 = .ok (.iload_n 2, 1) := by decide +kernel
theorem dPa_isLike_19 : decode cPa_isLike 19 = .ok (.aload_n 0, 1) := by decide +kernel
theorem dPa_isLike_20 : decode cPa_isLike 20 = .ok (.getfield 22, 3) := by decide +kernel
theorem dPa_isLike_23 : decode cPa_isLike 23 = .ok (.if_icmp .ge 52, 3) := by decide +kernel
theorem dPa_isLike_26 : decode cPa_isLike 26 = .ok (.iload_n 2, 1) := by decide +kernel
theorem dPa_isLike_27 : decode cPa_isLike 27 = .ok (.aload_n 0, 1) := by decide +kernel
theorem dPa_isLike_28 : decode cPa_isLike 28 = .ok (.getfield 12, 3) := by decide +kernel
theorem dPa_isLike_31 : decode cPa_isLike 31 = .ok (.getfield 29, 3) := by decide +kernel
theorem dPa_isLike_34 : decode cPa_isLike 34 = .ok (.if_icmp .ge 41, 3) := by decide +kernel
theorem dPa_isLike_37 : decode cPa_isLike 37 = .ok (.aload_n 1, 1) := by decide +kernel
theorem dPa_isLike_38 : decode cPa_isLike 38 = .ok (.getfield 12, 3) := by decide +kernel
theorem dPa_isLike_41 : decode cPa_isLike 41 = .ok (.aload_n 1, 1) := by decide +kernel
theorem dPa_isLike_42 : decode cPa_isLike 42 = .ok (.getfield 18, 3) := by decide +kernel
theorem dPa_isLike_45 : decode cPa_isLike 45 = .ok (.iload_n 2, 1) := by decide +kernel
theorem dPa_isLike_46 : decode cPa_isLike 46 = .ok (.iadd, 1) := by decide +kernel
theorem dPa_isLike_47 : decode cPa_isLike 47 = .ok (.aload_n 0, 1) := by decide +kernel
theorem dPa_isLike_48 : decode cPa_isLike 48 = .ok (.getfield 18, 3) := by decide +kernel
theorem dPa_isLike_51 : decode cPa_isLike 51 = .ok (.isub, 1) := by decide +kernel
theorem dPa_isLike_52 : decode cPa_isLike 52 = .ok (.aload_n 0, 1) := by decide +kernel
theorem dPa_isLike_53 : decode cPa_isLike 53 = .ok (.getfield 12, 3) := by decide +kernel
theorem dPa_isLike_56 : decode cPa_isLike 56 = .ok (.getfield 32, 3) := by decide +kernel
theorem dPa_isLike_59 : decode cPa_isLike 59 = .ok (.iload_n 2, 1) := by decide +kernel
theorem dPa_isLike_60 : decode cPa_isLike 60 = .ok (.iaload, 1) := by decide +kernel
theorem dPa_isLike_61 : decode cPa_isLike 61 = .ok (.invokevirtual 36, 3) := by decide +kernel
theorem dPa_isLike_64 : decode cPa_isLike 64 = .ok (.ifCond .ne 5, 3) := by decide +kernel
theorem dPa_isLike_67 : decode cPa_isLike 67 = .ok (.iconst 0, 1) := by decide +kernel
theorem dPa_isLike_68 : decode cPa_isLike 68 = .ok (.ireturn, 1) := by decide +kernel
theorem dPa_isLike_69 : decode cPa_isLike 69 = .ok (.iinc 2 1, 3) := by decide +kernel
theorem dPa_isLike_72 : decode cPa_isLike 72 = .ok (.goto (-54), 3) := by decide +kernel
theorem dPa_isLike_75 : decode cPa_isLike 75 = .ok (.iconst 1, 1) := by decide +kernel
theorem dPa_isLike_76 : decode cPa_isLike 76 = .ok (.ireturn, 1) := by decide +kernel
theorem dRo_init_0 : decode cRo_init 0 = .ok (.aload_n 0, 1) := by decide +kernel
theorem dRo_init_1 : decode cRo_init 1 = .ok (.invokespecial 3, 3) := by decide +kernel
theorem dRo_init_4 : decode cRo_init 4 = .ok (.aload_n 0, 1) := by decide +kernel
theorem dRo_init_5 : decode cRo_init 5 = .ok (.iload_n 1, 1) := by decide +kernel
theorem dRo_init_6 : decode cRo_init 6 = .ok (.newarray .int, 2) := by decide +kernel
theorem dRo_init_8 : decode cRo_init 8 = .ok (.putfield 9, 3) := by decide +kernel
theorem dRo_init_11 : decode cRo_init 11 = .ok (.aload_n 0, 1) := by decide +kernel
theorem dRo_init_12 : decode cRo_init 12 = .ok (.iconst 0, 1) := by decide +kernel
theorem dRo_init_13 : decode cRo_init 13 = .ok (.putfield 15, 3) := by decide +kernel
theorem dRo_init_16 : decode cRo_init 16 = .ok (.return_, 1) := by decide +kernel
theorem dRo_add_0 : decode cRo_add 0 = .ok (.aload_n 0, 1) := by decide +kernel
theorem dRo_add_1 : decode cRo_add 1 = .ok (.getfield 15, 3) := by decide +kernel
theorem dRo_add_4 : decode cRo_add 4 = .ok (.aload_n 0, 1) := by decide +kernel
theorem dRo_add_5 : decode cRo_add 5 = .ok (.getfield 9, 3) := by decide +kernel
theorem dRo_add_8 : decode cRo_add 8 = .ok (.arraylength, 1) := by decide +kernel
theorem dRo_add_9 : decode cRo_add 9 = .ok (.if_icmp .ge 23, 3) := by decide +kernel
theorem dRo_add_12 : decode cRo_add 12 = .ok (.aload_n 0, 1) := by decide +kernel
theorem dRo_add_13 : decode cRo_add 13 = .ok (.getfield 9, 3) := by decide +kernel
theorem dRo_add_16 : decode cRo_add 16 = .ok (.aload_n 0, 1) := by decide +kernel
theorem dRo_add_17 : decode cRo_add 17 = .ok (.getfield 15, 3) := by decide +kernel
theorem dRo_add_20 : decode cRo_add 20 = .ok (.iload_n 1, 1) := by decide +kernel
theorem dRo_add_21 : decode cRo_add 21 = .ok (.iastore, 1) := by decide +kernel
theorem dRo_add_22 : decode cRo_add 22 = .ok (.aload_n 0, 1) := by decide +kernel
theorem dRo_add_23 : decode cRo_add 23 = .ok (.dup, 1) := by decide +kernel
theorem dRo_add_24 : decode cRo_add 24 = .ok (.getfield 15, 3) := by decide +kernel
theorem dRo_add_27 : decode cRo_add 27 = .ok (.iconst 1, 1) := by decide +kernel
theorem dRo_add_28 : decode cRo_add 28 = .ok (.iadd, 1) := by decide +kernel
theorem dRo_add_29 : decode cRo_add 29 = .ok (.putfield 15, 3) := by decide +kernel
theorem dRo_add_32 : decode cRo_add 32 = .ok (.return_, 1) := by decide +kernel
theorem dRo_addPart_0 : decode cRo_addPart 0 = .ok (.iload_n 2, 1) := by decide +kernel
theorem dRo_addPart_1 : decode cRo_addPart 1 = .ok (.iconst 0, 1) := by decide +kernel
theorem dRo_addPart_2 : decode cRo_addPart 2 = .ok (.invokestatic 19, 3) := by decide +kernel
theorem dRo_addPart_5 : decode cRo_addPart 5 = .ok (.istore 4, 2) := by decide +kernel
theorem dRo_addPart_7 : decode cRo_addPart 7 = .ok (.iload 4, 2) := by decide +kernel
theorem dRo_addPart_9 : decode cRo_addPart 9 = .ok (.iload_n 3, 1) := by decide +kernel
theorem dRo_addPart_10 : decode cRo_addPart 10 = .ok (.if_icmp .ge 29, 3) := by decide +kernel
theorem dRo_addPart_13 : decode cRo_addPart 13 = .ok (.iload 4, 2) := by decide +kernel
theorem dRo_addPart_15 : decode cRo_addPart 15 = .ok (.aload_n 1, 1) := by decide +kernel
theorem dRo_addPart_16 : decode cRo_addPart 16 = .ok (.getfield 15, 3) := by decide +kernel
theorem dRo_addPart_19 : decode cRo_addPart 19 = .ok (.if_icmp .ge 20, 3) := by decide +kernel
theorem dRo_addPart_22 : decode cRo_addPart 22 = .ok (.aload_n 0, 1) := by decide +kernel
theorem dRo_addPart_23 : decode cRo_addPart 23 = .ok (.aload_n 1, 1) := by decide +kernel
theorem dRo_addPart_24 : decode cRo_addPart 24 = .ok (.getfield 9, 3) := by decide +kernel
theorem dRo_addPart_27 : decode cRo_addPart 27 = .ok (.iload 4, 2) := by decide +kernel
theorem dRo_addPart_29 : decode cRo_addPart 29 = .ok (.iaload, 1) := by decide +kernel
theorem dRo_addPart_30 : decode cRo_addPart 30 = .ok (.invokevirtual 25, 3) := by decide +kernel
theorem dRo_addPart_33 : decode cRo_addPart 33 = .ok (.iinc 4 1, 3) := by decide +kernel
theorem dRo_addPart_36 : decode cRo_addPart 36 = .ok (.goto (-29), 3) := by decide +kernel
theorem dRo_addPart_39 : decode cRo_addPart 39 = .ok (.return_, 1) := by decide +kernel
theorem dRo_become_0 : decode cRo_become 0 = .ok (.aload_n 0, 1) := by decide +kernel
theorem dRo_become_1 : decode cRo_become 1 = .ok (.iconst 0, 1) := by decide +kernel
theorem dRo_become_2 : decode cRo_become 2 = .ok (.putfield 15, 3) := by decide +kernel
theorem dRo_become_5 : decode cRo_become 5 = .ok (.aload_n 0, 1) := by decide +kernel
theorem dRo_become_6 : decode cRo_become 6 = .ok (.aload_n 1, 1) := by decide +kernel
theorem dRo_become_7 : decode cRo_become 7 = .ok (.iconst 0, 1) := by decide +kernel
theorem dRo_become_8 : decode cRo_become 8 = .ok (.aload_n 1, 1) := by decide +kernel
theorem dRo_become_9 : decode cRo_become 9 = .ok (.getfield 15, 3) := by decide +kernel
theorem dRo_become_12 : decode cRo_become 12 = .ok (.invokevirtual 29, 3) := by decide +kernel
theorem dRo_become_15 : decode cRo_become 15 = .ok (.return_, 1) := by decide +kernel
theorem dRo_hasAt_0 : decode cRo_hasAt 0 = .ok (.iload_n 1, 1) := by decide +kernel
theorem dRo_hasAt_1 : decode cRo_hasAt 1 = .ok (.ifCond .lt 25, 3) := by decide +kernel
theorem dRo_hasAt_4 : decode cRo_hasAt 4 = .ok (.iload_n 1, 1) := by decide +kernel
theorem dRo_hasAt_5 : decode cRo_hasAt 5 = .ok (.aload_n 0, 1) := by decide +kernel
theorem dRo_hasAt_6 : decode cRo_hasAt 6 = .ok (.getfield 15, 3) := by decide +kernel
theorem dRo_hasAt_9 : decode cRo_hasAt 9 = .ok (.if_icmp .ge 17, 3) := by decide +kernel
theorem dRo_hasAt_12 : decode cRo_hasAt 12 = .ok (.aload_n 0, 1) := by decide +kernel
theorem dRo_hasAt_13 : decode cRo_hasAt 13 = .ok (.getfield 9, 3) := by decide +kernel
theorem dRo_hasAt_16 : decode cRo_hasAt 16 = .ok (.iload_n 1, 1) := by decide +kernel
theorem dRo_hasAt_17 : decode cRo_hasAt 17 = .ok (.iaload, 1) := by decide +kernel
theorem dRo_hasAt_18 : decode cRo_hasAt 18 = .ok (.iload_n 2, 1) := by decide +kernel
theorem dRo_hasAt_19 : decode cRo_hasAt 19 = .ok (.if_icmp .ne 7, 3) := by decide +kernel
theorem dRo_hasAt_22 : decode cRo_hasAt 22 = .ok (.iconst 1, 1) := by decide +kernel
theorem dRo_hasAt_23 : decode cRo_hasAt 23 = .ok (.goto 4, 3) := by decide +kernel
theorem dRo_hasAt_26 : decode cRo_hasAt 26 = .ok (.iconst 0, 1) := by decide +kernel
theorem dRo_hasAt_27 : decode cRo_hasAt 27 = .ok (.ireturn, 1) := by decide +kernel
theorem dRo_firstPlaceOf_0 : decode cRo_firstPlaceOf 0 = .ok (.iload_n 2, 1) := by decide +kernel
theorem dRo_firstPlaceOf_1 : decode cRo_firstPlaceOf 1 = .ok (.istore_n 3, 1) := by decide +kernel
theorem dRo_firstPlaceOf_2 : decode cRo_firstPlaceOf 2 = .ok (.iload_n 3, 1) := by decide +kernel
theorem dRo_firstPlaceOf_3 : decode cRo_firstPlaceOf 3 = .ok (.aload_n 0, 1) := by decide +kernel
theorem dRo_firstPlaceOf_4 : decode cRo_firstPlaceOf 4 = .ok (.getfield 15, 3) := by decide +kernel
theorem dRo_firstPlaceOf_7 : decode cRo_firstPlaceOf 7 = .ok (.if_icmp .ge 21, 3) := by decide +kernel
theorem dRo_firstPlaceOf_10 : decode cRo_firstPlaceOf 10 = .ok (.aload_n 0, 1) := by decide +kernel
theorem dRo_firstPlaceOf_11 : decode cRo_firstPlaceOf 11 = .ok (.getfield 9, 3) := by decide +kernel
theorem dRo_firstPlaceOf_14 : decode cRo_firstPlaceOf 14 = .ok (.iload_n 3, 1) := by decide +kernel
theorem dRo_firstPlaceOf_15 : decode cRo_firstPlaceOf 15 = .ok (.iaload, 1) := by decide +kernel
theorem dRo_firstPlaceOf_16 : decode cRo_firstPlaceOf 16 = .ok (.iload_n 1, 1) := by decide +kernel
theorem dRo_firstPlaceOf_17 : decode cRo_firstPlaceOf 17 = .ok (.if_icmp .ne 5, 3) := by decide +kernel
theorem dRo_firstPlaceOf_20 : decode cRo_firstPlaceOf 20 = .ok (.iload_n 3, 1) := by decide +kernel
theorem dRo_firstPlaceOf_21 : decode cRo_firstPlaceOf 21 = .ok (.ireturn, 1) := by decide +kernel
theorem dRo_firstPlaceOf_22 : decode cRo_firstPlaceOf 22 = .ok (.iinc 3 1, 3) := by decide +kernel
theorem dRo_firstPlaceOf_25 : decode cRo_firstPlaceOf 25 = .ok (.goto (-23), 3) := by decide +kernel
theorem dRo_firstPlaceOf_28 : decode cRo_firstPlaceOf 28 = .ok (.iconst (-1), 1) := by decide +kernel
theorem dRo_firstPlaceOf_29 : decode cRo_firstPlaceOf 29 = .ok (.ireturn, 1) := by decide +kernel
