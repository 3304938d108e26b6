theorem dMR_init_0 : decode cMR_init 0 = .ok (.aload_n 0, 1) := by decide +kernel
theorem dMR_init_1 : decode cMR_init 1 = .ok (.invokespecial 3, 3) := by decide +kernel
theorem dMR_init_4 : decode cMR_init 4 = .ok (.aload_n 0, 1) := by decide +kernel
theorem dMR_init_5 : decode cMR_init 5 = .ok (.bipush 6, 2) := by decide +kernel
theorem dMR_init_7 : decode cMR_init 7 = .ok (.anewarray 9, 3) := by decide +kernel
theorem dMR_init_10 : decode cMR_init 10 = .ok (.putfield 11, 3) := by decide +kernel
theorem dMR_init_13 : decode cMR_init 13 = .ok (.iconst 0, 1) := by decide +kernel
theorem dMR_init_14 : decode cMR_init 14 = .ok (.istore_n 1, 1) := by decide +kernel
theorem dMR_init_15 : decode cMR_init 15 = .ok (.iload_n 1, 1) := by decide +kernel
theorem dMR_init_16 : decode cMR_init 16 = .ok (.bipush 6, 2) := by decide +kernel
theorem dMR_init_18 : decode cMR_init 18 = .ok (.if_icmp .ge 24, 3) := by decide +kernel
theorem dMR_init_21 : decode cMR_init 21 = .ok (.aload_n 0, 1) := by decide +kernel
theorem dMR_init_22 : decode cMR_init 22 = .ok (.getfield 11, 3) := by decide +kernel
theorem dMR_init_25 : decode cMR_init 25 = .ok (.iload_n 1, 1) := by decide +kernel
theorem dMR_init_26 : decode cMR_init 26 = .ok (.new 9, 3) := by decide +kernel
theorem dMR_init_29 : decode cMR_init 29 = .ok (.dup, 1) := by decide +kernel
theorem dMR_init_30 : decode cMR_init 30 = .ok (.bipush 60, 2) := by decide +kernel
theorem dMR_init_32 : decode cMR_init 32 = .ok (.invokespecial 15, 3) := by decide +kernel
theorem dMR_init_35 : decode cMR_init 35 = .ok (.aastore, 1) := by decide +kernel
theorem dMR_init_36 : decode cMR_init 36 = .ok (.iinc 1 1, 3) := by decide +kernel
theorem dMR_init_39 : decode cMR_init 39 = .ok (.goto (-24), 3) := by decide +kernel
theorem dMR_init_42 : decode cMR_init 42 = .ok (.sipush 3721, 3) := by decide +kernel
theorem dMR_init_45 : decode cMR_init 45 = .ok (.newarray .int, 2) := by decide +kernel
theorem dMR_init_47 : decode cMR_init 47 = .ok (.astore_n 1, 1) := by decide +kernel
theorem dMR_init_48 : decode cMR_init 48 = .ok (.new 18, 3) := by decide +kernel
theorem dMR_init_51 : decode cMR_init 51 = .ok (.dup, 1) := by decide +kernel
theorem dMR_init_52 : decode cMR_init 52 = .ok (.aload_n 1, 1) := by decide +kernel
theorem dMR_init_53 : decode cMR_init 53 = .ok (.invokespecial 20, 3) := by decide +kernel
theorem dMR_init_56 : decode cMR_init 56 = .ok (.astore_n 2, 1) := by decide +kernel
theorem dMR_init_57 : decode cMR_init 57 = .ok (.new 18, 3) := by decide +kernel
theorem dMR_init_60 : decode cMR_init 60 = .ok (.dup, 1) := by decide +kernel
theorem dMR_init_61 : decode cMR_init 61 = .ok (.aload_n 1, 1) := by decide +kernel
theorem dMR_init_62 : decode cMR_init 62 = .ok (.invokespecial 20, 3) := by decide +kernel
theorem dMR_init_65 : decode cMR_init 65 = .ok (.astore_n 3, 1) := by decide +kernel
theorem dMR_init_66 : decode cMR_init 66 = .ok (.aload_n 0, 1) := by decide +kernel
theorem dMR_init_67 : decode cMR_init 67 = .ok (.new 18, 3) := by decide +kernel
theorem dMR_init_70 : decode cMR_init 70 = .ok (.dup, 1) := by decide +kernel
theorem dMR_init_71 : decode cMR_init 71 = .ok (.aload_n 1, 1) := by decide +kernel
theorem dMR_init_72 : decode cMR_init 72 = .ok (.invokespecial 20, 3) := by decide +kernel
theorem dMR_init_75 : decode cMR_init 75 = .ok (.putfield 23, 3) := by decide +kernel
theorem dMR_init_78 : decode cMR_init 78 = .ok (.aload_n 0, 1) := by decide +kernel
theorem dMR_init_79 : decode cMR_init 79 = .ok (.new 27, 3) := by decide +kernel
theorem dMR_init_82 : decode cMR_init 82 = .ok (.dup, 1) := by decide +kernel
theorem dMR_init_83 : decode cMR_init 83 = .ok (.aload_n 2, 1) := by decide +kernel
theorem dMR_init_84 : decode cMR_init 84 = .ok (.invokespecial 29, 3) := by decide +kernel
theorem dMR_init_87 : decode cMR_init 87 = .ok (.putfield 32, 3) := by decide +kernel
theorem dMR_init_90 : decode cMR_init 90 = .ok (.aload_n 0, 1) := by decide +kernel
theorem dMR_init_91 : decode cMR_init 91 = .ok (.new 36, 3) := by decide +kernel
theorem dMR_init_94 : decode cMR_init 94 = .ok (.dup, 1) := by decide +kernel
theorem dMR_init_95 : decode cMR_init 95 = .ok (.new 27, 3) := by decide +kernel
theorem dMR_init_98 : decode cMR_init 98 = .ok (.dup, 1) := by decide +kernel
theorem dMR_init_99 : decode cMR_init 99 = .ok (.aload_n 2, 1) := by decide +kernel
theorem dMR_init_100 : decode cMR_init 100 = .ok (.invokespecial 29, 3) := by decide +kernel
theorem dMR_init_103 : decode cMR_init 103 = .ok (.invokespecial 38, 3) := by decide +kernel
theorem dMR_init_106 : decode cMR_init 106 = .ok (.putfield 41, 3) := by decide +kernel
theorem dMR_init_109 : decode cMR_init 109 = .ok (.aload_n 0, 1) := by decide +kernel
theorem dMR_init_110 : decode cMR_init 110 = .ok (.new 45, 3) := by decide +kernel
theorem dMR_init_113 : decode cMR_init 113 = .ok (.dup, 1) := by decide +kernel
theorem dMR_init_114 : decode cMR_init 114 = .ok (.aload_n 2, 1) := by decide +kernel
theorem dMR_init_115 : decode cMR_init 115 = .ok (.invokespecial 47, 3) := by decide +kernel
theorem dMR_init_118 : decode cMR_init 118 = .ok (.putfield 48, 3) := by decide +kernel
theorem dMR_init_121 : decode cMR_init 121 = .ok (.aload_n 0, 1) := by decide +kernel
theorem dMR_init_122 : decode cMR_init 122 = .ok (.new 52, 3) := by decide +kernel
theorem dMR_init_125 : decode cMR_init 125 = .ok (.dup, 1) := by decide +kernel
theorem dMR_init_126 : decode cMR_init 126 = .ok (.aload_n 2, 1) := by decide +kernel
theorem dMR_init_127 : decode cMR_init 127 = .ok (.aload_n 3, 1) := by decide +kernel
theorem dMR_init_128 : decode cMR_init 128 = .ok (.invokespecial 54, 3) := by decide +kernel
theorem dMR_init_131 : decode cMR_init 131 = .ok (.putfield 57, 3) := by decide +kernel
theorem dMR_init_134 : decode cMR_init 134 = .ok (.aload_n 0, 1) := by decide +kernel
theorem dMR_init_135 : decode cMR_init 135 = .ok (.new 52, 3) := by decide +kernel
theorem dMR_init_138 : decode cMR_init 138 = .ok (.dup, 1) := by decide +kernel
theorem dMR_init_139 : decode cMR_init 139 = .ok (.aload_n 2, 1) := by decide +kernel
theorem dMR_init_140 : decode cMR_init 140 = .ok (.aload_n 3, 1) := by decide +kernel
theorem dMR_init_141 : decode cMR_init 141 = .ok (.invokespecial 54, 3) := by decide +kernel
theorem dMR_init_144 : decode cMR_init 144 = .ok (.putfield 61, 3) := by decide +kernel
theorem dMR_init_147 : decode cMR_init 147 = .ok (.return_, 1) := by decide +kernel
theorem dMR_put_0 : decode cMR_put 0 = .ok (.aload_n 0, 1) := by decide +kernel
theorem dMR_put_1 : decode cMR_put 1 = .ok (.iload_n 1, 1) := by decide +kernel
theorem dMR_put_2 : decode cMR_put 2 = .ok (.invokevirtual 64, 3) := by decide +kernel
theorem dMR_put_5 : decode cMR_put 5 = .ok (.astore_n 3, 1) := by decide +kernel
theorem dMR_put_6 : decode cMR_put 6 = .ok (.aload_n 3, 1) := by decide +kernel
theorem dMR_put_7 : decode cMR_put 7 = .ok (.getfield 68, 3) := by decide +kernel
theorem dMR_put_10 : decode cMR_put 10 = .ok (.bipush 60, 2) := by decide +kernel
theorem dMR_put_12 : decode cMR_put 12 = .ok (.if_icmp .lt 13, 3) := by decide +kernel
theorem dMR_put_15 : decode cMR_put 15 = .ok (.new 72, 3) := by decide +kernel
theorem dMR_put_18 : decode cMR_put 18 = .ok (.dup, 1) := by decide +kernel
theorem dMR_put_19 : decode cMR_put 19 = .ok (.ldc 74, 2) := by decide +kernel
theorem dMR_put_21 : decode cMR_put 21 = .ok (.invokespecial 76, 3) := by decide +kernel
theorem dMR_put_24 : decode cMR_put 24 = .ok (.athrow, 1) := by decide +kernel
theorem dMR_put_25 : decode cMR_put 25 = .ok (.aload_n 3, 1) := by decide +kernel
theorem dMR_put_26 : decode cMR_put 26 = .ok (.iload_n 2, 1) := by decide +kernel
theorem dMR_put_27 : decode cMR_put 27 = .ok (.invokevirtual 79, 3) := by decide +kernel
theorem dMR_put_30 : decode cMR_put 30 = .ok (.aload_n 3, 1) := by decide +kernel
theorem dMR_put_31 : decode cMR_put 31 = .ok (.getfield 68, 3) := by decide +kernel
theorem dMR_put_34 : decode cMR_put 34 = .ok (.ireturn, 1) := by decide +kernel
theorem dMR_clear_0 : decode cMR_clear 0 = .ok (.aload_n 0, 1) := by decide +kernel
theorem dMR_clear_1 : decode cMR_clear 1 = .ok (.iload_n 1, 1) := by decide +kernel
theorem dMR_clear_2 : decode cMR_clear 2 = .ok (.invokevirtual 64, 3) := by decide +kernel
theorem dMR_clear_5 : decode cMR_clear 5 = .ok (.iconst 0, 1) := by decide +kernel
theorem dMR_clear_6 : decode cMR_clear 6 = .ok (.putfield 68, 3) := by decide +kernel
theorem dMR_clear_9 : decode cMR_clear 9 = .ok (.return_, 1) := by decide +kernel
theorem dMR_size_0 : decode cMR_size 0 = .ok (.aload_n 0, 1) := by decide +kernel
theorem dMR_size_1 : decode cMR_size 1 = .ok (.iload_n 1, 1) := by decide +kernel
theorem dMR_size_2 : decode cMR_size 2 = .ok (.invokevirtual 64, 3) := by decide +kernel
theorem dMR_size_5 : decode cMR_size 5 = .ok (.getfield 68, 3) := by decide +kernel
theorem dMR_size_8 : decode cMR_size 8 = .ok (.ireturn, 1) := by decide +kernel
theorem dMR_get_0 : decode cMR_get 0 = .ok (.aload_n 0, 1) := by decide +kernel
theorem dMR_get_1 : decode cMR_get 1 = .ok (.iload_n 1, 1) := by decide +kernel
theorem dMR_get_2 : decode cMR_get 2 = .ok (.invokevirtual 64, 3) := by decide +kernel
theorem dMR_get_5 : decode cMR_get 5 = .ok (.astore_n 3, 1) := by decide +kernel
theorem dMR_get_6 : decode cMR_get 6 = .ok (.iload_n 2, 1) := by decide +kernel
theorem dMR_get_7 : decode cMR_get 7 = .ok (.ifCond .lt 11, 3) := by decide +kernel
theorem dMR_get_10 : decode cMR_get 10 = .ok (.iload_n 2, 1) := by decide +kernel
theorem dMR_get_11 : decode cMR_get 11 = .ok (.aload_n 3, 1) := by decide +kernel
theorem dMR_get_12 : decode cMR_get 12 = .ok (.getfield 68, 3) := by decide +kernel
theorem dMR_get_15 : decode cMR_get 15 = .ok (.if_icmp .lt 13, 3) := by decide +kernel
theorem dMR_get_18 : decode cMR_get 18 = .ok (.new 82, 3) := by decide +kernel
theorem dMR_get_21 : decode cMR_get 21 = .ok (.dup, 1) := by decide +kernel
theorem dMR_get_22 : decode cMR_get 22 = .ok (.ldc 84, 2) := by decide +kernel
theorem dMR_get_24 : decode cMR_get 24 = .ok (.invokespecial 86, 3) := by decide +kernel
theorem dMR_get_27 : decode cMR_get 27 = .ok (.athrow, 1) := by decide +kernel
theorem dMR_get_28 : decode cMR_get 28 = .ok (.aload_n 3, 1) := by decide +kernel
theorem dMR_get_29 : decode cMR_get 29 = .ok (.getfield 87, 3) := by decide +kernel
theorem dMR_get_32 : decode cMR_get 32 = .ok (.iload_n 2, 1) := by decide +kernel
theorem dMR_get_33 : decode cMR_get 33 = .ok (.iaload, 1) := by decide +kernel
theorem dMR_get_34 : decode cMR_get 34 = .ok (.ireturn, 1) := by decide +kernel
theorem dMR_common_0 : decode cMR_common 0 = .ok (.aload_n 0, 1) := by decide +kernel
theorem dMR_common_1 : decode cMR_common 1 = .ok (.iload_n 1, 1) := by decide +kernel
theorem dMR_common_2 : decode cMR_common 2 = .ok (.invokevirtual 64, 3) := by decide +kernel
theorem dMR_common_5 : decode cMR_common 5 = .ok (.astore_n 3, 1) := by decide +kernel
theorem dMR_common_6 : decode cMR_common 6 = .ok (.aload_n 0, 1) := by decide +kernel
theorem dMR_common_7 : decode cMR_common 7 = .ok (.iload_n 2, 1) := by decide +kernel
theorem dMR_common_8 : decode cMR_common 8 = .ok (.invokevirtual 64, 3) := by decide +kernel
theorem dMR_common_11 : decode cMR_common 11 = .ok (.astore 4, 2) := by decide +kernel
theorem dMR_common_13 : decode cMR_common 13 = .ok (.aload_n 0, 1) := by decide +kernel
theorem dMR_common_14 : decode cMR_common 14 = .ok (.getfield 23, 3) := by decide +kernel
theorem dMR_common_17 : decode cMR_common 17 = .ok (.aload_n 3, 1) := by decide +kernel
theorem dMR_common_18 : decode cMR_common 18 = .ok (.aload 4, 2) := by decide +kernel
theorem dMR_common_20 : decode cMR_common 20 = .ok (.invokevirtual 91, 3) := by decide +kernel
theorem dMR_common_23 : decode cMR_common 23 = .ok (.aload_n 0, 1) := by decide +kernel
theorem dMR_common_24 : decode cMR_common 24 = .ok (.getfield 23, 3) := by decide +kernel
theorem dMR_common_27 : decode cMR_common 27 = .ok (.getfield 95, 3) := by decide +kernel
theorem dMR_common_30 : decode cMR_common 30 = .ok (.ireturn, 1) := by decide +kernel
theorem dMR_pair_0 : decode cMR_pair 0 = .ok (.iload_n 1, 1) := by decide +kernel
theorem dMR_pair_1 : decode cMR_pair 1 = .ok (.ifCond .lt 23, 3) := by decide +kernel
theorem dMR_pair_4 : decode cMR_pair 4 = .ok (.iload_n 1, 1) := by decide +kernel
theorem dMR_pair_5 : decode cMR_pair 5 = .ok (.aload_n 0, 1) := by decide +kernel
theorem dMR_pair_6 : decode cMR_pair 6 = .ok (.getfield 23, 3) := by decide +kernel
theorem dMR_pair_9 : decode cMR_pair 9 = .ok (.getfield 95, 3) := by decide +kernel
theorem dMR_pair_12 : decode cMR_pair 12 = .ok (.if_icmp .ge 12, 3) := by decide +kernel
theorem dMR_pair_15 : decode cMR_pair 15 = .ok (.iload_n 2, 1) := by decide +kernel
theorem dMR_pair_16 : decode cMR_pair 16 = .ok (.ifCond .lt 8, 3) := by decide +kernel
theorem dMR_pair_19 : decode cMR_pair 19 = .ok (.iload_n 2, 1) := by decide +kernel
theorem dMR_pair_20 : decode cMR_pair 20 = .ok (.iconst 1, 1) := by decide +kernel
theorem dMR_pair_21 : decode cMR_pair 21 = .ok (.if_icmp .le 13, 3) := by decide +kernel
theorem dMR_pair_24 : decode cMR_pair 24 = .ok (.new 82, 3) := by decide +kernel
theorem dMR_pair_27 : decode cMR_pair 27 = .ok (.dup, 1) := by decide +kernel
theorem dMR_pair_28 : decode cMR_pair 28 = .ok (.ldc 96, 2) := by decide +kernel
theorem dMR_pair_30 : decode cMR_pair 30 = .ok (.invokespecial 86, 3) := by decide +kernel
theorem dMR_pair_33 : decode cMR_pair 33 = .ok (.athrow, 1) := by decide +kernel
theorem dMR_pair_34 : decode cMR_pair 34 = .ok (.iload_n 2, 1) := by decide +kernel
theorem dMR_pair_35 : decode cMR_pair 35 = .ok (.ifCond .ne 15, 3) := by decide +kernel
theorem dMR_pair_38 : decode cMR_pair 38 = .ok (.aload_n 0, 1) := by decide +kernel
theorem dMR_pair_39 : decode cMR_pair 39 = .ok (.getfield 23, 3) := by decide +kernel
theorem dMR_pair_42 : decode cMR_pair 42 = .ok (.getfield 98, 3) := by decide +kernel
theorem dMR_pair_45 : decode cMR_pair 45 = .ok (.iload_n 1, 1) := by decide +kernel
theorem dMR_pair_46 : decode cMR_pair 46 = .ok (.iaload, 1) := by decide +kernel
theorem dMR_pair_47 : decode cMR_pair 47 = .ok (.goto 12, 3) := by decide +kernel
theorem dMR_pair_50 : decode cMR_pair 50 = .ok (.aload_n 0, 1) := by decide +kernel
theorem dMR_pair_51 : decode cMR_pair 51 = .ok (.getfield 23, 3) := by decide +kernel
theorem dMR_pair_54 : decode cMR_pair 54 = .ok (.getfield 101, 3) := by decide +kernel
theorem dMR_pair_57 : decode cMR_pair 57 = .ok (.iload_n 1, 1) := by decide +kernel
theorem dMR_pair_58 : decode cMR_pair 58 = .ok (.iaload, 1) := by decide +kernel
theorem dMR_pair_59 : decode cMR_pair 59 = .ok (.ireturn, 1) := by decide +kernel
theorem dMR_hunks_0 : decode cMR_hunks 0 = .ok (.aload_n 0, 1) := by decide +kernel
theorem dMR_hunks_1 : decode cMR_hunks 1 = .ok (.iload_n 1, 1) := by decide +kernel
theorem dMR_hunks_2 : decode cMR_hunks 2 = .ok (.invokevirtual 64, 3) := by decide +kernel
theorem dMR_hunks_5 : decode cMR_hunks 5 = .ok (.astore_n 3, 1) := by decide +kernel
theorem dMR_hunks_6 : decode cMR_hunks 6 = .ok (.aload_n 0, 1) := by decide +kernel
theorem dMR_hunks_7 : decode cMR_hunks 7 = .ok (.iload_n 2, 1) := by decide +kernel
theorem dMR_hunks_8 : decode cMR_hunks 8 = .ok (.invokevirtual 64, 3) := by decide +kernel
theorem dMR_hunks_11 : decode cMR_hunks 11 = .ok (.astore 4, 2) := by decide +kernel
theorem dMR_hunks_13 : decode cMR_hunks 13 = .ok (.aload_n 0, 1) := by decide +kernel
theorem dMR_hunks_14 : decode cMR_hunks 14 = .ok (.getfield 32, 3) := by decide +kernel
theorem dMR_hunks_17 : decode cMR_hunks 17 = .ok (.aload_n 3, 1) := by decide +kernel
theorem dMR_hunks_18 : decode cMR_hunks 18 = .ok (.aload 4, 2) := by decide +kernel
theorem dMR_hunks_20 : decode cMR_hunks 20 = .ok (.invokevirtual 104, 3) := by decide +kernel
theorem dMR_hunks_23 : decode cMR_hunks 23 = .ok (.aload_n 0, 1) := by decide +kernel
theorem dMR_hunks_24 : decode cMR_hunks 24 = .ok (.getfield 32, 3) := by decide +kernel
theorem dMR_hunks_27 : decode cMR_hunks 27 = .ok (.getfield 105, 3) := by decide +kernel
theorem dMR_hunks_30 : decode cMR_hunks 30 = .ok (.ireturn, 1) := by decide +kernel
theorem dMR_hunk_0 : decode cMR_hunk 0 = .ok (.iload_n 1, 1) := by decide +kernel
theorem dMR_hunk_1 : decode cMR_hunk 1 = .ok (.ifCond .lt 23, 3) := by decide +kernel
theorem dMR_hunk_4 : decode cMR_hunk 4 = .ok (.iload_n 1, 1) := by decide +kernel
theorem dMR_hunk_5 : decode cMR_hunk 5 = .ok (.aload_n 0, 1) := by decide +kernel
theorem dMR_hunk_6 : decode cMR_hunk 6 = .ok (.getfield 32, 3) := by decide +kernel
theorem dMR_hunk_9 : decode cMR_hunk 9 = .ok (.getfield 105, 3) := by decide +kernel
theorem dMR_hunk_12 : decode cMR_hunk 12 = .ok (.if_icmp .ge 12, 3) := by decide +kernel
theorem dMR_hunk_15 : decode cMR_hunk 15 = .ok (.iload_n 2, 1) := by decide +kernel
theorem dMR_hunk_16 : decode cMR_hunk 16 = .ok (.ifCond .lt 8, 3) := by decide +kernel
theorem dMR_hunk_19 : decode cMR_hunk 19 = .ok (.iload_n 2, 1) := by decide +kernel
theorem dMR_hunk_20 : decode cMR_hunk 20 = .ok (.iconst 4, 1) := by decide +kernel
theorem dMR_hunk_21 : decode cMR_hunk 21 = .ok (.if_icmp .lt 13, 3) := by decide +kernel
theorem dMR_hunk_24 : decode cMR_hunk 24 = .ok (.new 82, 3) := by decide +kernel
theorem dMR_hunk_27 : decode cMR_hunk 27 = .ok (.dup, 1) := by decide +kernel
theorem dMR_hunk_28 : decode cMR_hunk 28 = .ok (.ldc 106, 2) := by decide +kernel
theorem dMR_hunk_30 : decode cMR_hunk 30 = .ok (.invokespecial 86, 3) := by decide +kernel
theorem dMR_hunk_33 : decode cMR_hunk 33 = .ok (.athrow, 1) := by decide +kernel
theorem dMR_hunk_34 : decode cMR_hunk 34 = .ok (.aload_n 0, 1) := by decide +kernel
theorem dMR_hunk_35 : decode cMR_hunk 35 = .ok (.getfield 32, 3) := by decide +kernel
theorem dMR_hunk_38 : decode cMR_hunk 38 = .ok (.getfield 108, 3) := by decide +kernel
theorem dMR_hunk_41 : decode cMR_hunk 41 = .ok (.iload_n 1, 1) := by decide +kernel
theorem dMR_hunk_42 : decode cMR_hunk 42 = .ok (.iconst 4, 1) := by decide +kernel
theorem dMR_hunk_43 : decode cMR_hunk 43 = .ok (.imul, 1) := by decide +kernel
theorem dMR_hunk_44 : decode cMR_hunk 44 = .ok (.iload_n 2, 1) := by decide +kernel
theorem dMR_hunk_45 : decode cMR_hunk 45 = .ok (.iadd, 1) := by decide +kernel
theorem dMR_hunk_46 : decode cMR_hunk 46 = .ok (.iaload, 1) := by decide +kernel
theorem dMR_hunk_47 : decode cMR_hunk 47 = .ok (.ireturn, 1) := by decide +kernel
theorem dMR_merge_0 : decode cMR_merge 0 = .ok (.aload_n 0, 1) := by decide +kernel
theorem dMR_merge_1 : decode cMR_merge 1 = .ok (.iload_n 1, 1) := by decide +kernel
theorem dMR_merge_2 : decode cMR_merge 2 = .ok (.invokevirtual 64, 3) := by decide +kernel
theorem dMR_merge_5 : decode cMR_merge 5 = .ok (.astore 5, 2) := by decide +kernel
theorem dMR_merge_7 : decode cMR_merge 7 = .ok (.aload_n 0, 1) := by decide +kernel
theorem dMR_merge_8 : decode cMR_merge 8 = .ok (.iload_n 2, 1) := by decide +kernel
theorem dMR_merge_9 : decode cMR_merge 9 = .ok (.invokevirtual 64, 3) := by decide +kernel
theorem dMR_merge_12 : decode cMR_merge 12 = .ok (.astore 6, 2) := by decide +kernel
theorem dMR_merge_14 : decode cMR_merge 14 = .ok (.aload_n 0, 1) := by decide +kernel
theorem dMR_merge_15 : decode cMR_merge 15 = .ok (.iload_n 3, 1) := by decide +kernel
theorem dMR_merge_16 : decode cMR_merge 16 = .ok (.invokevirtual 64, 3) := by decide +kernel
theorem dMR_merge_19 : decode cMR_merge 19 = .ok (.astore 7, 2) := by decide +kernel
theorem dMR_merge_21 : decode cMR_merge 21 = .ok (.aload_n 0, 1) := by decide +kernel
theorem dMR_merge_22 : decode cMR_merge 22 = .ok (.iload 4, 2) := by decide +kernel
theorem dMR_merge_24 : decode cMR_merge 24 = .ok (.invokevirtual 64, 3) := by decide +kernel
theorem dMR_merge_27 : decode cMR_merge 27 = .ok (.astore 8, 2) := by decide +kernel
theorem dMR_merge_29 : decode cMR_merge 29 = .ok (.aload_n 0, 1) := by decide +kernel
theorem dMR_merge_30 : decode cMR_merge 30 = .ok (.getfield 61, 3) := by decide +kernel
theorem dMR_merge_33 : decode cMR_merge 33 = .ok (.aload 5, 2) := by decide +kernel
theorem dMR_merge_35 : decode cMR_merge 35 = .ok (.aload 6, 2) := by decide +kernel
theorem dMR_merge_37 : decode cMR_merge 37 = .ok (.aload 7, 2) := by decide +kernel
theorem dMR_merge_39 : decode cMR_merge 39 = .ok (.invokevirtual 111, 3) := by decide +kernel
theorem dMR_merge_42 : decode cMR_merge 42 = .ok (.aload 8, 2) := by decide +kernel
theorem dMR_merge_44 : decode cMR_merge 44 = .ok (.aload_n 0, 1) := by decide +kernel
theorem dMR_merge_45 : decode cMR_merge 45 = .ok (.getfield 61, 3) := by decide +kernel
theorem dMR_merge_48 : decode cMR_merge 48 = .ok (.getfield 115, 3) := by decide +kernel
theorem dMR_merge_51 : decode cMR_merge 51 = .ok (.invokestatic 119, 3) := by decide +kernel
theorem dMR_merge_54 : decode cMR_merge 54 = .ok (.aload_n 0, 1) := by decide +kernel
theorem dMR_merge_55 : decode cMR_merge 55 = .ok (.getfield 61, 3) := by decide +kernel
theorem dMR_merge_58 : decode cMR_merge 58 = .ok (.astore 9, 2) := by decide +kernel
theorem dMR_merge_60 : decode cMR_merge 60 = .ok (.aload_n 0, 1) := by decide +kernel
theorem dMR_merge_61 : decode cMR_merge 61 = .ok (.aload_n 0, 1) := by decide +kernel
theorem dMR_merge_62 : decode cMR_merge 62 = .ok (.getfield 57, 3) := by decide +kernel
theorem dMR_merge_65 : decode cMR_merge 65 = .ok (.putfield 61, 3) := by decide +kernel
theorem dMR_merge_68 : decode cMR_merge 68 = .ok (.aload_n 0, 1) := by decide +kernel
theorem dMR_merge_69 : decode cMR_merge 69 = .ok (.aload 9, 2) := by decide +kernel
theorem dMR_merge_71 : decode cMR_merge 71 = .ok (.putfield 57, 3) := by decide +kernel
theorem dMR_merge_74 : decode cMR_merge 74 = .ok (.aload 9, 2) := by decide +kernel
theorem dMR_merge_76 : decode cMR_merge 76 = .ok (.getfield 122, 3) := by decide +kernel
theorem dMR_merge_79 : decode cMR_merge 79 = .ok (.ireturn, 1) := by decide +kernel
theorem dMR_conflict_0 : decode cMR_conflict 0 = .ok (.iload_n 1, 1) := by decide +kernel
theorem dMR_conflict_1 : decode cMR_conflict 1 = .ok (.ifCond .lt 23, 3) := by decide +kernel
theorem dMR_conflict_4 : decode cMR_conflict 4 = .ok (.iload_n 1, 1) := by decide +kernel
theorem dMR_conflict_5 : decode cMR_conflict 5 = .ok (.aload_n 0, 1) := by decide +kernel
theorem dMR_conflict_6 : decode cMR_conflict 6 = .ok (.getfield 57, 3) := by decide +kernel
theorem dMR_conflict_9 : decode cMR_conflict 9 = .ok (.getfield 122, 3) := by decide +kernel
theorem dMR_conflict_12 : decode cMR_conflict 12 = .ok (.if_icmp .ge 12, 3) := by decide +kernel
theorem dMR_conflict_15 : decode cMR_conflict 15 = .ok (.iload_n 2, 1) := by decide +kernel
theorem dMR_conflict_16 : decode cMR_conflict 16 = .ok (.ifCond .lt 8, 3) := by decide +kernel
theorem dMR_conflict_19 : decode cMR_conflict 19 = .ok (.iload_n 2, 1) := by decide +kernel
theorem dMR_conflict_20 : decode cMR_conflict 20 = .ok (.iconst 3, 1) := by decide +kernel
theorem dMR_conflict_21 : decode cMR_conflict 21 = .ok (.if_icmp .lt 13, 3) := by decide +kernel
theorem dMR_conflict_24 : decode cMR_conflict 24 = .ok (.new 82, 3) := by decide +kernel
theorem dMR_conflict_27 : decode cMR_conflict 27 = .ok (.dup, 1) := by decide +kernel
theorem dMR_conflict_28 : decode cMR_conflict 28 = .ok (.ldc 125, 2) := by decide +kernel
theorem dMR_conflict_30 : decode cMR_conflict 30 = .ok (.invokespecial 86, 3) := by decide +kernel
theorem dMR_conflict_33 : decode cMR_conflict 33 = .ok (.athrow, 1) := by decide +kernel
theorem dMR_conflict_34 : decode cMR_conflict 34 = .ok (.aload_n 0, 1) := by decide +kernel
theorem dMR_conflict_35 : decode cMR_conflict 35 = .ok (.getfield 57, 3) := by decide +kernel
theorem dMR_conflict_38 : decode cMR_conflict 38 = .ok (.getfield 127, 3) := by decide +kernel
theorem dMR_conflict_41 : decode cMR_conflict 41 = .ok (.iload_n 1, 1) := by decide +kernel
theorem dMR_conflict_42 : decode cMR_conflict 42 = .ok (.iconst 3, 1) := by decide +kernel
theorem dMR_conflict_43 : decode cMR_conflict 43 = .ok (.imul, 1) := by decide +kernel
theorem dMR_conflict_44 : decode cMR_conflict 44 = .ok (.iload_n 2, 1) := by decide +kernel
theorem dMR_conflict_45 : decode cMR_conflict 45 = .ok (.iadd, 1) := by decide +kernel
theorem dMR_conflict_46 : decode cMR_conflict 46 = .ok (.iaload, 1) := by decide +kernel
theorem dMR_conflict_47 : decode cMR_conflict 47 = .ok (.ireturn, 1) := by decide +kernel
theorem dMR_patch_0 : decode cMR_patch 0 = .ok (.aload_n 0, 1) := by decide +kernel
theorem dMR_patch_1 : decode cMR_patch 1 = .ok (.iload_n 1, 1) := by decide +kernel
theorem dMR_patch_2 : decode cMR_patch 2 = .ok (.invokevirtual 64, 3) := by decide +kernel
theorem dMR_patch_5 : decode cMR_patch 5 = .ok (.astore 5, 2) := by decide +kernel
theorem dMR_patch_7 : decode cMR_patch 7 = .ok (.aload_n 0, 1) := by decide +kernel
theorem dMR_patch_8 : decode cMR_patch 8 = .ok (.iload_n 2, 1) := by decide +kernel
theorem dMR_patch_9 : decode cMR_patch 9 = .ok (.invokevirtual 64, 3) := by decide +kernel
theorem dMR_patch_12 : decode cMR_patch 12 = .ok (.astore 6, 2) := by decide +kernel
theorem dMR_patch_14 : decode cMR_patch 14 = .ok (.aload_n 0, 1) := by decide +kernel
theorem dMR_patch_15 : decode cMR_patch 15 = .ok (.iload_n 3, 1) := by decide +kernel
theorem dMR_patch_16 : decode cMR_patch 16 = .ok (.invokevirtual 64, 3) := by decide +kernel
theorem dMR_patch_19 : decode cMR_patch 19 = .ok (.astore 7, 2) := by decide +kernel
theorem dMR_patch_21 : decode cMR_patch 21 = .ok (.aload_n 0, 1) := by decide +kernel
theorem dMR_patch_22 : decode cMR_patch 22 = .ok (.iload 4, 2) := by decide +kernel
theorem dMR_patch_24 : decode cMR_patch 24 = .ok (.invokevirtual 64, 3) := by decide +kernel
theorem dMR_patch_27 : decode cMR_patch 27 = .ok (.astore 8, 2) := by decide +kernel
theorem dMR_patch_29 : decode cMR_patch 29 = .ok (.aload_n 0, 1) := by decide +kernel
theorem dMR_patch_30 : decode cMR_patch 30 = .ok (.getfield 41, 3) := by decide +kernel
theorem dMR_patch_33 : decode cMR_patch 33 = .ok (.aload 5, 2) := by decide +kernel
theorem dMR_patch_35 : decode cMR_patch 35 = .ok (.aload 6, 2) := by decide +kernel
theorem dMR_patch_37 : decode cMR_patch 37 = .ok (.aload 7, 2) := by decide +kernel
theorem dMR_patch_39 : decode cMR_patch 39 = .ok (.invokevirtual 130, 3) := by decide +kernel
theorem dMR_patch_42 : decode cMR_patch 42 = .ok (.aload 8, 2) := by decide +kernel
theorem dMR_patch_44 : decode cMR_patch 44 = .ok (.aload_n 0, 1) := by decide +kernel
theorem dMR_patch_45 : decode cMR_patch 45 = .ok (.getfield 41, 3) := by decide +kernel
theorem dMR_patch_48 : decode cMR_patch 48 = .ok (.getfield 131, 3) := by decide +kernel
theorem dMR_patch_51 : decode cMR_patch 51 = .ok (.invokestatic 119, 3) := by decide +kernel
theorem dMR_patch_54 : decode cMR_patch 54 = .ok (.aload_n 0, 1) := by decide +kernel
theorem dMR_patch_55 : decode cMR_patch 55 = .ok (.getfield 41, 3) := by decide +kernel
theorem dMR_patch_58 : decode cMR_patch 58 = .ok (.getfield 132, 3) := by decide +kernel
theorem dMR_patch_61 : decode cMR_patch 61 = .ok (.ireturn, 1) := by decide +kernel
theorem dMR_commit_0 : decode cMR_commit 0 = .ok (.aload_n 0, 1) := by decide +kernel
theorem dMR_commit_1 : decode cMR_commit 1 = .ok (.iload_n 1, 1) := by decide +kernel
theorem dMR_commit_2 : decode cMR_commit 2 = .ok (.invokevirtual 64, 3) := by decide +kernel
theorem dMR_commit_5 : decode cMR_commit 5 = .ok (.astore_n 2, 1) := by decide +kernel
theorem dMR_commit_6 : decode cMR_commit 6 = .ok (.aload_n 0, 1) := by decide +kernel
theorem dMR_commit_7 : decode cMR_commit 7 = .ok (.getfield 48, 3) := by decide +kernel
theorem dMR_commit_10 : decode cMR_commit 10 = .ok (.getfield 135, 3) := by decide +kernel
theorem dMR_commit_13 : decode cMR_commit 13 = .ok (.bipush 30, 2) := by decide +kernel
theorem dMR_commit_15 : decode cMR_commit 15 = .ok (.if_icmp .lt 13, 3) := by decide +kernel
theorem dMR_commit_18 : decode cMR_commit 18 = .ok (.new 72, 3) := by decide +kernel
theorem dMR_commit_21 : decode cMR_commit 21 = .ok (.dup, 1) := by decide +kernel
theorem dMR_commit_22 : decode cMR_commit 22 = .ok (.ldc 136, 2) := by decide +kernel
theorem dMR_commit_24 : decode cMR_commit 24 = .ok (.invokespecial 76, 3) := by decide +kernel
theorem dMR_commit_27 : decode cMR_commit 27 = .ok (.athrow, 1) := by decide +kernel
theorem dMR_commit_28 : decode cMR_commit 28 = .ok (.aload_n 0, 1) := by decide +kernel
theorem dMR_commit_29 : decode cMR_commit 29 = .ok (.getfield 48, 3) := by decide +kernel
theorem dMR_commit_32 : decode cMR_commit 32 = .ok (.aload_n 2, 1) := by decide +kernel
theorem dMR_commit_33 : decode cMR_commit 33 = .ok (.invokevirtual 138, 3) := by decide +kernel
theorem dMR_commit_36 : decode cMR_commit 36 = .ok (.aload_n 0, 1) := by decide +kernel
theorem dMR_commit_37 : decode cMR_commit 37 = .ok (.getfield 48, 3) := by decide +kernel
theorem dMR_commit_40 : decode cMR_commit 40 = .ok (.getfield 135, 3) := by decide +kernel
theorem dMR_commit_43 : decode cMR_commit 43 = .ok (.iconst 1, 1) := by decide +kernel
theorem dMR_commit_44 : decode cMR_commit 44 = .ok (.isub, 1) := by decide +kernel
theorem dMR_commit_45 : decode cMR_commit 45 = .ok (.ireturn, 1) := by decide +kernel
theorem dMR_origin_0 : decode cMR_origin 0 = .ok (.iload_n 1, 1) := by decide +kernel
theorem dMR_origin_1 : decode cMR_origin 1 = .ok (.ifCond .lt 14, 3) := by decide +kernel
theorem dMR_origin_4 : decode cMR_origin 4 = .ok (.iload_n 1, 1) := by decide +kernel
theorem dMR_origin_5 : decode cMR_origin 5 = .ok (.aload_n 0, 1) := by decide +kernel
theorem dMR_origin_6 : decode cMR_origin 6 = .ok (.getfield 48, 3) := by decide +kernel
theorem dMR_origin_9 : decode cMR_origin 9 = .ok (.getfield 135, 3) := by decide +kernel
theorem dMR_origin_12 : decode cMR_origin 12 = .ok (.if_icmp .lt 13, 3) := by decide +kernel
theorem dMR_origin_15 : decode cMR_origin 15 = .ok (.new 141, 3) := by decide +kernel
theorem dMR_origin_18 : decode cMR_origin 18 = .ok (.dup, 1) := by decide +kernel
theorem dMR_origin_19 : decode cMR_origin 19 = .ok (.ldc 143, 2) := by decide +kernel
theorem dMR_origin_21 : decode cMR_origin 21 = .ok (.invokespecial 145, 3) := by decide +kernel
theorem dMR_origin_24 : decode cMR_origin 24 = .ok (.athrow, 1) := by decide +kernel
theorem dMR_origin_25 : decode cMR_origin 25 = .ok (.iload_n 2, 1) := by decide +kernel
theorem dMR_origin_26 : decode cMR_origin 26 = .ok (.ifCond .lt 16, 3) := by decide +kernel
theorem dMR_origin_29 : decode cMR_origin 29 = .ok (.iload_n 2, 1) := by decide +kernel
theorem dMR_origin_30 : decode cMR_origin 30 = .ok (.aload_n 0, 1) := by decide +kernel
theorem dMR_origin_31 : decode cMR_origin 31 = .ok (.getfield 48, 3) := by decide +kernel
theorem dMR_origin_34 : decode cMR_origin 34 = .ok (.getfield 146, 3) := by decide +kernel
theorem dMR_origin_37 : decode cMR_origin 37 = .ok (.iload_n 1, 1) := by decide +kernel
theorem dMR_origin_38 : decode cMR_origin 38 = .ok (.iaload, 1) := by decide +kernel
theorem dMR_origin_39 : decode cMR_origin 39 = .ok (.if_icmp .lt 13, 3) := by decide +kernel
theorem dMR_origin_42 : decode cMR_origin 42 = .ok (.new 82, 3) := by decide +kernel
theorem dMR_origin_45 : decode cMR_origin 45 = .ok (.dup, 1) := by decide +kernel
theorem dMR_origin_46 : decode cMR_origin 46 = .ok (.ldc 84, 2) := by decide +kernel
theorem dMR_origin_48 : decode cMR_origin 48 = .ok (.invokespecial 86, 3) := by decide +kernel
theorem dMR_origin_51 : decode cMR_origin 51 = .ok (.athrow, 1) := by decide +kernel
theorem dMR_origin_52 : decode cMR_origin 52 = .ok (.aload_n 0, 1) := by decide +kernel
theorem dMR_origin_53 : decode cMR_origin 53 = .ok (.getfield 48, 3) := by decide +kernel
theorem dMR_origin_56 : decode cMR_origin 56 = .ok (.getfield 149, 3) := by decide +kernel
theorem dMR_origin_59 : decode cMR_origin 59 = .ok (.iload_n 1, 1) := by decide +kernel
theorem dMR_origin_60 : decode cMR_origin 60 = .ok (.bipush 60, 2) := by decide +kernel
theorem dMR_origin_62 : decode cMR_origin 62 = .ok (.imul, 1) := by decide +kernel
theorem dMR_origin_63 : decode cMR_origin 63 = .ok (.iload_n 2, 1) := by decide +kernel
theorem dMR_origin_64 : decode cMR_origin 64 = .ok (.iadd, 1) := by decide +kernel
theorem dMR_origin_65 : decode cMR_origin 65 = .ok (.iaload, 1) := by decide +kernel
theorem dMR_origin_66 : decode cMR_origin 66 = .ok (.ireturn, 1) := by decide +kernel
theorem dMR_rowAt_0 : decode cMR_rowAt 0 = .ok (.iload_n 1, 1) := by decide +kernel
theorem dMR_rowAt_1 : decode cMR_rowAt 1 = .ok (.ifCond .lt 12, 3) := by decide +kernel
theorem dMR_rowAt_4 : decode cMR_rowAt 4 = .ok (.iload_n 1, 1) := by decide +kernel
theorem dMR_rowAt_5 : decode cMR_rowAt 5 = .ok (.aload_n 0, 1) := by decide +kernel
theorem dMR_rowAt_6 : decode cMR_rowAt 6 = .ok (.getfield 11, 3) := by decide +kernel
theorem dMR_rowAt_9 : decode cMR_rowAt 9 = .ok (.arraylength, 1) := by decide +kernel
theorem dMR_rowAt_10 : decode cMR_rowAt 10 = .ok (.if_icmp .lt 13, 3) := by decide +kernel
theorem dMR_rowAt_13 : decode cMR_rowAt 13 = .ok (.new 141, 3) := by decide +kernel
theorem dMR_rowAt_16 : decode cMR_rowAt 16 = .ok (.dup, 1) := by decide +kernel
theorem dMR_rowAt_17 : decode cMR_rowAt 17 = .ok (.ldc 152, 2) := by decide +kernel
theorem dMR_rowAt_19 : decode cMR_rowAt 19 = .ok (.invokespecial 145, 3) := by decide +kernel
theorem dMR_rowAt_22 : decode cMR_rowAt 22 = .ok (.athrow, 1) := by decide +kernel
theorem dMR_rowAt_23 : decode cMR_rowAt 23 = .ok (.aload_n 0, 1) := by decide +kernel
theorem dMR_rowAt_24 : decode cMR_rowAt 24 = .ok (.getfield 11, 3) := by decide +kernel
theorem dMR_rowAt_27 : decode cMR_rowAt 27 = .ok (.iload_n 1, 1) := by decide +kernel
theorem dMR_rowAt_28 : decode cMR_rowAt 28 = .ok (.aaload, 1) := by decide +kernel
theorem dMR_rowAt_29 : decode cMR_rowAt 29 = .ok (.areturn, 1) := by decide +kernel
theorem dMR_fillWithOutcome_0 : decode cMR_fillWithOutcome 0 = .ok (.aload_n 1, 1) := by decide +kernel
theorem dMR_fillWithOutcome_1 : decode cMR_fillWithOutcome 1 = .ok (.getfield 68, 3) := by decide +kernel
theorem dMR_fillWithOutcome_4 : decode cMR_fillWithOutcome 4 = .ok (.bipush 60, 2) := by decide +kernel
theorem dMR_fillWithOutcome_6 : decode cMR_fillWithOutcome 6 = .ok (.if_icmp .le 13, 3) := by decide +kernel
theorem dMR_fillWithOutcome_9 : decode cMR_fillWithOutcome 9 = .ok (.new 72, 3) := by decide +kernel
theorem dMR_fillWithOutcome_12 : decode cMR_fillWithOutcome 12 = .ok (.dup, 1) := by decide +kernel
theorem dMR_fillWithOutcome_13 : decode cMR_fillWithOutcome 13 = .ok (.ldc 154, 2) := by decide +kernel
theorem dMR_fillWithOutcome_15 : decode cMR_fillWithOutcome 15 = .ok (.invokespecial 76, 3) := by decide +kernel
theorem dMR_fillWithOutcome_18 : decode cMR_fillWithOutcome 18 = .ok (.athrow, 1) := by decide +kernel
theorem dMR_fillWithOutcome_19 : decode cMR_fillWithOutcome 19 = .ok (.aload_n 0, 1) := by decide +kernel
theorem dMR_fillWithOutcome_20 : decode cMR_fillWithOutcome 20 = .ok (.aload_n 1, 1) := by decide +kernel
theorem dMR_fillWithOutcome_21 : decode cMR_fillWithOutcome 21 = .ok (.invokevirtual 156, 3) := by decide +kernel
theorem dMR_fillWithOutcome_24 : decode cMR_fillWithOutcome 24 = .ok (.return_, 1) := by decide +kernel
theorem dMg_init_0 : decode cMg_init 0 = .ok (.aload_n 0, 1) := by decide +kernel
theorem dMg_init_1 : decode cMg_init 1 = .ok (.invokespecial 3, 3) := by decide +kernel
theorem dMg_init_4 : decode cMg_init 4 = .ok (.aload_n 0, 1) := by decide +kernel
theorem dMg_init_5 : decode cMg_init 5 = .ok (.new 9, 3) := by decide +kernel
theorem dMg_init_8 : decode cMg_init 8 = .ok (.dup, 1) := by decide +kernel
theorem dMg_init_9 : decode cMg_init 9 = .ok (.bipush 120, 2) := by decide +kernel
theorem dMg_init_11 : decode cMg_init 11 = .ok (.invokespecial 11, 3) := by decide +kernel
theorem dMg_init_14 : decode cMg_init 14 = .ok (.putfield 14, 3) := by decide +kernel
theorem dMg_init_17 : decode cMg_init 17 = .ok (.aload_n 0, 1) := by decide +kernel
theorem dMg_init_18 : decode cMg_init 18 = .ok (.sipush 183, 3) := by decide +kernel
theorem dMg_init_21 : decode cMg_init 21 = .ok (.newarray .int, 2) := by decide +kernel
theorem dMg_init_23 : decode cMg_init 23 = .ok (.putfield 20, 3) := by decide +kernel
theorem dMg_init_26 : decode cMg_init 26 = .ok (.aload_n 0, 1) := by decide +kernel
theorem dMg_init_27 : decode cMg_init 27 = .ok (.iconst 0, 1) := by decide +kernel
theorem dMg_init_28 : decode cMg_init 28 = .ok (.putfield 24, 3) := by decide +kernel
theorem dMg_init_31 : decode cMg_init 31 = .ok (.aload_n 0, 1) := by decide +kernel
theorem dMg_init_32 : decode cMg_init 32 = .ok (.aload_n 1, 1) := by decide +kernel
theorem dMg_init_33 : decode cMg_init 33 = .ok (.putfield 28, 3) := by decide +kernel
theorem dMg_init_36 : decode cMg_init 36 = .ok (.aload_n 0, 1) := by decide +kernel
theorem dMg_init_37 : decode cMg_init 37 = .ok (.aload_n 2, 1) := by decide +kernel
theorem dMg_init_38 : decode cMg_init 38 = .ok (.putfield 32, 3) := by decide +kernel
theorem dMg_init_41 : decode cMg_init 41 = .ok (.aload_n 0, 1) := by decide +kernel
theorem dMg_init_42 : decode cMg_init 42 = .ok (.new 35, 3) := by decide +kernel
theorem dMg_init_45 : decode cMg_init 45 = .ok (.dup, 1) := by decide +kernel
theorem dMg_init_46 : decode cMg_init 46 = .ok (.invokespecial 37, 3) := by decide +kernel
theorem dMg_init_49 : decode cMg_init 49 = .ok (.putfield 38, 3) := by decide +kernel
theorem dMg_init_52 : decode cMg_init 52 = .ok (.aload_n 0, 1) := by decide +kernel
theorem dMg_init_53 : decode cMg_init 53 = .ok (.new 35, 3) := by decide +kernel
theorem dMg_init_56 : decode cMg_init 56 = .ok (.dup, 1) := by decide +kernel
theorem dMg_init_57 : decode cMg_init 57 = .ok (.invokespecial 37, 3) := by decide +kernel
theorem dMg_init_60 : decode cMg_init 60 = .ok (.putfield 42, 3) := by decide +kernel
theorem dMg_init_63 : decode cMg_init 63 = .ok (.aload_n 0, 1) := by decide +kernel
theorem dMg_init_64 : decode cMg_init 64 = .ok (.new 35, 3) := by decide +kernel
theorem dMg_init_67 : decode cMg_init 67 = .ok (.dup, 1) := by decide +kernel
theorem dMg_init_68 : decode cMg_init 68 = .ok (.invokespecial 37, 3) := by decide +kernel
theorem dMg_init_71 : decode cMg_init 71 = .ok (.putfield 45, 3) := by decide +kernel
theorem dMg_init_74 : decode cMg_init 74 = .ok (.return_, 1) := by decide +kernel
theorem dMg_run_0 : decode cMg_run 0 = .ok (.aload_n 0, 1) := by decide +kernel
theorem dMg_run_1 : decode cMg_run 1 = .ok (.getfield 28, 3) := by decide +kernel
theorem dMg_run_4 : decode cMg_run 4 = .ok (.aload_n 1, 1) := by decide +kernel
theorem dMg_run_5 : decode cMg_run 5 = .ok (.aload_n 2, 1) := by decide +kernel
theorem dMg_run_6 : decode cMg_run 6 = .ok (.invokevirtual 48, 3) := by decide +kernel
theorem dMg_run_9 : decode cMg_run 9 = .ok (.aload_n 0, 1) := by decide +kernel
theorem dMg_run_10 : decode cMg_run 10 = .ok (.getfield 32, 3) := by decide +kernel
theorem dMg_run_13 : decode cMg_run 13 = .ok (.aload_n 1, 1) := by decide +kernel
theorem dMg_run_14 : decode cMg_run 14 = .ok (.aload_n 3, 1) := by decide +kernel
theorem dMg_run_15 : decode cMg_run 15 = .ok (.invokevirtual 48, 3) := by decide +kernel
theorem dMg_run_18 : decode cMg_run 18 = .ok (.aload_n 0, 1) := by decide +kernel
theorem dMg_run_19 : decode cMg_run 19 = .ok (.getfield 14, 3) := by decide +kernel
theorem dMg_run_22 : decode cMg_run 22 = .ok (.iconst 0, 1) := by decide +kernel
theorem dMg_run_23 : decode cMg_run 23 = .ok (.putfield 54, 3) := by decide +kernel
theorem dMg_run_26 : decode cMg_run 26 = .ok (.aload_n 0, 1) := by decide +kernel
theorem dMg_run_27 : decode cMg_run 27 = .ok (.iconst 0, 1) := by decide +kernel
theorem dMg_run_28 : decode cMg_run 28 = .ok (.putfield 24, 3) := by decide +kernel
theorem dMg_run_31 : decode cMg_run 31 = .ok (.aload_n 0, 1) := by decide +kernel
theorem dMg_run_32 : decode cMg_run 32 = .ok (.getfield 38, 3) := by decide +kernel
theorem dMg_run_35 : decode cMg_run 35 = .ok (.aload_n 1, 1) := by decide +kernel
theorem dMg_run_36 : decode cMg_run 36 = .ok (.invokevirtual 57, 3) := by decide +kernel
theorem dMg_run_39 : decode cMg_run 39 = .ok (.aload_n 0, 1) := by decide +kernel
theorem dMg_run_40 : decode cMg_run 40 = .ok (.getfield 42, 3) := by decide +kernel
theorem dMg_run_43 : decode cMg_run 43 = .ok (.aload_n 2, 1) := by decide +kernel
theorem dMg_run_44 : decode cMg_run 44 = .ok (.invokevirtual 57, 3) := by decide +kernel
theorem dMg_run_47 : decode cMg_run 47 = .ok (.aload_n 0, 1) := by decide +kernel
theorem dMg_run_48 : decode cMg_run 48 = .ok (.getfield 45, 3) := by decide +kernel
theorem dMg_run_51 : decode cMg_run 51 = .ok (.aload_n 3, 1) := by decide +kernel
theorem dMg_run_52 : decode cMg_run 52 = .ok (.invokevirtual 57, 3) := by decide +kernel
theorem dMg_run_55 : decode cMg_run 55 = .ok (.aload_n 0, 1) := by decide +kernel
theorem dMg_run_56 : decode cMg_run 56 = .ok (.aload_n 1, 1) := by decide +kernel
theorem dMg_run_57 : decode cMg_run 57 = .ok (.invokevirtual 61, 3) := by decide +kernel
theorem dMg_run_60 : decode cMg_run 60 = .ok (.aload_n 0, 1) := by decide +kernel
theorem dMg_run_61 : decode cMg_run 61 = .ok (.aload_n 1, 1) := by decide +kernel
theorem dMg_run_62 : decode cMg_run 62 = .ok (.getfield 54, 3) := by decide +kernel
theorem dMg_run_65 : decode cMg_run 65 = .ok (.aload_n 2, 1) := by decide +kernel
theorem dMg_run_66 : decode cMg_run 66 = .ok (.getfield 54, 3) := by decide +kernel
theorem dMg_run_69 : decode cMg_run 69 = .ok (.aload_n 3, 1) := by decide +kernel
theorem dMg_run_70 : decode cMg_run 70 = .ok (.getfield 54, 3) := by decide +kernel
theorem dMg_run_73 : decode cMg_run 73 = .ok (.invokevirtual 64, 3) := by decide +kernel
theorem dMg_run_76 : decode cMg_run 76 = .ok (.return_, 1) := by decide +kernel
theorem dMg_mergeUpToAnchors_0 : decode cMg_mergeUpToAnchors 0 = .ok (.iconst 0, 1) := by decide +kernel
theorem dMg_mergeUpToAnchors_1 : decode cMg_mergeUpToAnchors 1 = .ok (.istore_n 2, 1) := by decide +kernel
theorem dMg_mergeUpToAnchors_2 : decode cMg_mergeUpToAnchors 2 = .ok (.iconst 0, 1) := by decide +kernel
theorem dMg_mergeUpToAnchors_3 : decode cMg_mergeUpToAnchors 3 = .ok (.istore_n 3, 1) := by decide +kernel
theorem dMg_mergeUpToAnchors_4 : decode cMg_mergeUpToAnchors 4 = .ok (.iload_n 3, 1) := by decide +kernel
theorem dMg_mergeUpToAnchors_5 : decode cMg_mergeUpToAnchors 5 = .ok (.aload_n 0, 1) := by decide +kernel
theorem dMg_mergeUpToAnchors_6 : decode cMg_mergeUpToAnchors 6 = .ok (.getfield 28, 3) := by decide +kernel
theorem dMg_mergeUpToAnchors_9 : decode cMg_mergeUpToAnchors 9 = .ok (.getfield 68, 3) := by decide +kernel
theorem dMg_mergeUpToAnchors_12 : decode cMg_mergeUpToAnchors 12 = .ok (.if_icmp .ge 118, 3) := by decide +kernel
theorem dMg_mergeUpToAnchors_15 : decode cMg_mergeUpToAnchors 15 = .ok (.aload_n 0, 1) := by decide +kernel
theorem dMg_mergeUpToAnchors_16 : decode cMg_mergeUpToAnchors 16 = .ok (.getfield 28, 3) := by decide +kernel
theorem dMg_mergeUpToAnchors_19 : decode cMg_mergeUpToAnchors 19 = .ok (.getfield 69, 3) := by decide +kernel
theorem dMg_mergeUpToAnchors_22 : decode cMg_mergeUpToAnchors 22 = .ok (.iload_n 3, 1) := by decide +kernel
theorem dMg_mergeUpToAnchors_23 : decode cMg_mergeUpToAnchors 23 = .ok (.iaload, 1) := by decide +kernel
theorem dMg_mergeUpToAnchors_24 : decode cMg_mergeUpToAnchors 24 = .ok (.istore 4, 2) := by decide +kernel
theorem dMg_mergeUpToAnchors_26 : decode cMg_mergeUpToAnchors 26 = .ok (.iload_n 2, 1) := by decide +kernel
theorem dMg_mergeUpToAnchors_27 : decode cMg_mergeUpToAnchors 27 = .ok (.aload_n 0, 1) := by decide +kernel
theorem dMg_mergeUpToAnchors_28 : decode cMg_mergeUpToAnchors 28 = .ok (.getfield 32, 3) := by decide +kernel
theorem dMg_mergeUpToAnchors_31 : decode cMg_mergeUpToAnchors 31 = .ok (.getfield 68, 3) := by decide +kernel
theorem dMg_mergeUpToAnchors_34 : decode cMg_mergeUpToAnchors 34 = .ok (.if_icmp .ge 23, 3) := by decide +kernel
theorem dMg_mergeUpToAnchors_37 : decode cMg_mergeUpToAnchors 37 = .ok (.aload_n 0, 1) := by decide +kernel
theorem dMg_mergeUpToAnchors_38 : decode cMg_mergeUpToAnchors 38 = .ok (.getfield 32, 3) := by decide +kernel
theorem dMg_mergeUpToAnchors_41 : decode cMg_mergeUpToAnchors 41 = .ok (.getfield 69, 3) := by decide +kernel
theorem dMg_mergeUpToAnchors_44 : decode cMg_mergeUpToAnchors 44 = .ok (.iload_n 2, 1) := by decide +kernel
theorem dMg_mergeUpToAnchors_45 : decode cMg_mergeUpToAnchors 45 = .ok (.iaload, 1) := by decide +kernel
theorem dMg_mergeUpToAnchors_46 : decode cMg_mergeUpToAnchors 46 = .ok (.iload 4, 2) := by decide +kernel
theorem dMg_mergeUpToAnchors_48 : decode cMg_mergeUpToAnchors 48 = .ok (.if_icmp .ge 9, 3) := by decide +kernel
theorem dMg_mergeUpToAnchors_51 : decode cMg_mergeUpToAnchors 51 = .ok (.iinc 2 1, 3) := by decide +kernel
theorem dMg_mergeUpToAnchors_54 : decode cMg_mergeUpToAnchors 54 = .ok (.goto (-28), 3) := by decide +kernel
theorem dMg_mergeUpToAnchors_57 : decode cMg_mergeUpToAnchors 57 = .ok (.iload_n 2, 1) := by decide +kernel
theorem dMg_mergeUpToAnchors_58 : decode cMg_mergeUpToAnchors 58 = .ok (.aload_n 0, 1) := by decide +kernel
theorem dMg_mergeUpToAnchors_59 : decode cMg_mergeUpToAnchors 59 = .ok (.getfield 32, 3) := by decide +kernel
theorem dMg_mergeUpToAnchors_62 : decode cMg_mergeUpToAnchors 62 = .ok (.getfield 68, 3) := by decide +kernel
theorem dMg_mergeUpToAnchors_65 : decode cMg_mergeUpToAnchors 65 = .ok (.if_icmp .ge 59, 3) := by decide +kernel
theorem dMg_mergeUpToAnchors_68 : decode cMg_mergeUpToAnchors 68 = .ok (.aload_n 0, 1) := by decide +kernel
theorem dMg_mergeUpToAnchors_69 : decode cMg_mergeUpToAnchors 69 = .ok (.getfield 32, 3) := by decide +kernel
theorem dMg_mergeUpToAnchors_72 : decode cMg_mergeUpToAnchors 72 = .ok (.getfield 69, 3) := by decide +kernel
theorem dMg_mergeUpToAnchors_75 : decode cMg_mergeUpToAnchors 75 = .ok (.iload_n 2, 1) := by decide +kernel
theorem dMg_mergeUpToAnchors_76 : decode cMg_mergeUpToAnchors 76 = .ok (.iaload, 1) := by decide +kernel
theorem dMg_mergeUpToAnchors_77 : decode cMg_mergeUpToAnchors 77 = .ok (.iload 4, 2) := by decide +kernel
theorem dMg_mergeUpToAnchors_79 : decode cMg_mergeUpToAnchors 79 = .ok (.if_icmp .ne 45, 3) := by decide +kernel
theorem dMg_mergeUpToAnchors_82 : decode cMg_mergeUpToAnchors 82 = .ok (.aload_n 0, 1) := by decide +kernel
theorem dMg_mergeUpToAnchors_83 : decode cMg_mergeUpToAnchors 83 = .ok (.iload 4, 2) := by decide +kernel
theorem dMg_mergeUpToAnchors_85 : decode cMg_mergeUpToAnchors 85 = .ok (.aload_n 0, 1) := by decide +kernel
theorem dMg_mergeUpToAnchors_86 : decode cMg_mergeUpToAnchors 86 = .ok (.getfield 28, 3) := by decide +kernel
theorem dMg_mergeUpToAnchors_89 : decode cMg_mergeUpToAnchors 89 = .ok (.getfield 72, 3) := by decide +kernel
theorem dMg_mergeUpToAnchors_92 : decode cMg_mergeUpToAnchors 92 = .ok (.iload_n 3, 1) := by decide +kernel
theorem dMg_mergeUpToAnchors_93 : decode cMg_mergeUpToAnchors 93 = .ok (.iaload, 1) := by decide +kernel
theorem dMg_mergeUpToAnchors_94 : decode cMg_mergeUpToAnchors 94 = .ok (.aload_n 0, 1) := by decide +kernel
theorem dMg_mergeUpToAnchors_95 : decode cMg_mergeUpToAnchors 95 = .ok (.getfield 32, 3) := by decide +kernel
theorem dMg_mergeUpToAnchors_98 : decode cMg_mergeUpToAnchors 98 = .ok (.getfield 72, 3) := by decide +kernel
theorem dMg_mergeUpToAnchors_101 : decode cMg_mergeUpToAnchors 101 = .ok (.iload_n 2, 1) := by decide +kernel
theorem dMg_mergeUpToAnchors_102 : decode cMg_mergeUpToAnchors 102 = .ok (.iaload, 1) := by decide +kernel
theorem dMg_mergeUpToAnchors_103 : decode cMg_mergeUpToAnchors 103 = .ok (.invokevirtual 64, 3) := by decide +kernel
theorem dMg_mergeUpToAnchors_106 : decode cMg_mergeUpToAnchors 106 = .ok (.aload_n 0, 1) := by decide +kernel
theorem dMg_mergeUpToAnchors_107 : decode cMg_mergeUpToAnchors 107 = .ok (.getfield 14, 3) := by decide +kernel
theorem dMg_mergeUpToAnchors_110 : decode cMg_mergeUpToAnchors 110 = .ok (.aload_n 1, 1) := by decide +kernel
theorem dMg_mergeUpToAnchors_111 : decode cMg_mergeUpToAnchors 111 = .ok (.iload 4, 2) := by decide +kernel
theorem dMg_mergeUpToAnchors_113 : decode cMg_mergeUpToAnchors 113 = .ok (.iload 4, 2) := by decide +kernel
theorem dMg_mergeUpToAnchors_115 : decode cMg_mergeUpToAnchors 115 = .ok (.iconst 1, 1) := by decide +kernel
theorem dMg_mergeUpToAnchors_116 : decode cMg_mergeUpToAnchors 116 = .ok (.iadd, 1) := by decide +kernel
theorem dMg_mergeUpToAnchors_117 : decode cMg_mergeUpToAnchors 117 = .ok (.invokevirtual 75, 3) := by decide +kernel
theorem dMg_mergeUpToAnchors_120 : decode cMg_mergeUpToAnchors 120 = .ok (.aload_n 0, 1) := by decide +kernel
theorem dMg_mergeUpToAnchors_121 : decode cMg_mergeUpToAnchors 121 = .ok (.invokevirtual 79, 3) := by decide +kernel
theorem dMg_mergeUpToAnchors_124 : decode cMg_mergeUpToAnchors 124 = .ok (.iinc 3 1, 3) := by decide +kernel
theorem dMg_mergeUpToAnchors_127 : decode cMg_mergeUpToAnchors 127 = .ok (.goto (-123), 3) := by decide +kernel
theorem dMg_mergeUpToAnchors_130 : decode cMg_mergeUpToAnchors 130 = .ok (.return_, 1) := by decide +kernel
theorem dMg_stepPartsOverAnchor_0 : decode cMg_stepPartsOverAnchor 0 = .ok (.aload_n 0, 1) := by decide +kernel
theorem dMg_stepPartsOverAnchor_1 : decode cMg_stepPartsOverAnchor 1 = .ok (.getfield 38, 3) := by decide +kernel
theorem dMg_stepPartsOverAnchor_4 : decode cMg_stepPartsOverAnchor 4 = .ok (.invokevirtual 82, 3) := by decide +kernel
theorem dMg_stepPartsOverAnchor_7 : decode cMg_stepPartsOverAnchor 7 = .ok (.aload_n 0, 1) := by decide +kernel
theorem dMg_stepPartsOverAnchor_8 : decode cMg_stepPartsOverAnchor 8 = .ok (.getfield 42, 3) := by decide +kernel
theorem dMg_stepPartsOverAnchor_11 : decode cMg_stepPartsOverAnchor 11 = .ok (.invokevirtual 82, 3) := by decide +kernel
theorem dMg_stepPartsOverAnchor_14 : decode cMg_stepPartsOverAnchor 14 = .ok (.aload_n 0, 1) := by decide +kernel
theorem dMg_stepPartsOverAnchor_15 : decode cMg_stepPartsOverAnchor 15 = .ok (.getfield 45, 3) := by decide +kernel
theorem dMg_stepPartsOverAnchor_18 : decode cMg_stepPartsOverAnchor 18 = .ok (.invokevirtual 82, 3) := by decide +kernel
theorem dMg_stepPartsOverAnchor_21 : decode cMg_stepPartsOverAnchor 21 = .ok (.return_, 1) := by decide +kernel
theorem dMg_mergeParts_0 : decode cMg_mergeParts 0 = .ok (.aload_n 0, 1) := by decide +kernel
theorem dMg_mergeParts_1 : decode cMg_mergeParts 1 = .ok (.getfield 38, 3) := by decide +kernel
theorem dMg_mergeParts_4 : decode cMg_mergeParts 4 = .ok (.iload_n 1, 1) := by decide +kernel
theorem dMg_mergeParts_5 : decode cMg_mergeParts 5 = .ok (.putfield 85, 3) := by decide +kernel
theorem dMg_mergeParts_8 : decode cMg_mergeParts 8 = .ok (.aload_n 0, 1) := by decide +kernel
theorem dMg_mergeParts_9 : decode cMg_mergeParts 9 = .ok (.getfield 42, 3) := by decide +kernel
theorem dMg_mergeParts_12 : decode cMg_mergeParts 12 = .ok (.iload_n 2, 1) := by decide +kernel
theorem dMg_mergeParts_13 : decode cMg_mergeParts 13 = .ok (.putfield 85, 3) := by decide +kernel
theorem dMg_mergeParts_16 : decode cMg_mergeParts 16 = .ok (.aload_n 0, 1) := by decide +kernel
theorem dMg_mergeParts_17 : decode cMg_mergeParts 17 = .ok (.getfield 45, 3) := by decide +kernel
theorem dMg_mergeParts_20 : decode cMg_mergeParts 20 = .ok (.iload_n 3, 1) := by decide +kernel
theorem dMg_mergeParts_21 : decode cMg_mergeParts 21 = .ok (.putfield 85, 3) := by decide +kernel
theorem dMg_mergeParts_24 : decode cMg_mergeParts 24 = .ok (.aload_n 0, 1) := by decide +kernel
theorem dMg_mergeParts_25 : decode cMg_mergeParts 25 = .ok (.getfield 42, 3) := by decide +kernel
theorem dMg_mergeParts_28 : decode cMg_mergeParts 28 = .ok (.aload_n 0, 1) := by decide +kernel
theorem dMg_mergeParts_29 : decode cMg_mergeParts 29 = .ok (.getfield 45, 3) := by decide +kernel
theorem dMg_mergeParts_32 : decode cMg_mergeParts 32 = .ok (.invokevirtual 88, 3) := by decide +kernel
theorem dMg_mergeParts_35 : decode cMg_mergeParts 35 = .ok (.ifCond .ne 17, 3) := by decide +kernel
theorem dMg_mergeParts_38 : decode cMg_mergeParts 38 = .ok (.aload_n 0, 1) := by decide +kernel
theorem dMg_mergeParts_39 : decode cMg_mergeParts 39 = .ok (.getfield 45, 3) := by decide +kernel
theorem dMg_mergeParts_42 : decode cMg_mergeParts 42 = .ok (.aload_n 0, 1) := by decide +kernel
theorem dMg_mergeParts_43 : decode cMg_mergeParts 43 = .ok (.getfield 38, 3) := by decide +kernel
theorem dMg_mergeParts_46 : decode cMg_mergeParts 46 = .ok (.invokevirtual 88, 3) := by decide +kernel
theorem dMg_mergeParts_49 : decode cMg_mergeParts 49 = .ok (.ifCond .eq 14, 3) := by decide +kernel
theorem dMg_mergeParts_52 : decode cMg_mergeParts 52 = .ok (.aload_n 0, 1) := by decide +kernel
theorem dMg_mergeParts_53 : decode cMg_mergeParts 53 = .ok (.aload_n 0, 1) := by decide +kernel
theorem dMg_mergeParts_54 : decode cMg_mergeParts 54 = .ok (.getfield 42, 3) := by decide +kernel
theorem dMg_mergeParts_57 : decode cMg_mergeParts 57 = .ok (.invokevirtual 92, 3) := by decide +kernel
theorem dMg_mergeParts_60 : decode cMg_mergeParts 60 = .ok (.goto 48, 3) := by decide +kernel
theorem dMg_mergeParts_63 : decode cMg_mergeParts 63 = .ok (.aload_n 0, 1) := by decide +kernel
theorem dMg_mergeParts_64 : decode cMg_mergeParts 64 = .ok (.getfield 42, 3) := by decide +kernel
theorem dMg_mergeParts_67 : decode cMg_mergeParts 67 = .ok (.aload_n 0, 1) := by decide +kernel
theorem dMg_mergeParts_68 : decode cMg_mergeParts 68 = .ok (.getfield 38, 3) := by decide +kernel
theorem dMg_mergeParts_71 : decode cMg_mergeParts 71 = .ok (.invokevirtual 88, 3) := by decide +kernel
theorem dMg_mergeParts_74 : decode cMg_mergeParts 74 = .ok (.ifCond .eq 14, 3) := by decide +kernel
theorem dMg_mergeParts_77 : decode cMg_mergeParts 77 = .ok (.aload_n 0, 1) := by decide +kernel
theorem dMg_mergeParts_78 : decode cMg_mergeParts 78 = .ok (.aload_n 0, 1) := by decide +kernel
theorem dMg_mergeParts_79 : decode cMg_mergeParts 79 = .ok (.getfield 45, 3) := by decide +kernel
theorem dMg_mergeParts_82 : decode cMg_mergeParts 82 = .ok (.invokevirtual 92, 3) := by decide +kernel
theorem dMg_mergeParts_85 : decode cMg_mergeParts 85 = .ok (.goto 23, 3) := by decide +kernel
theorem dMg_mergeParts_88 : decode cMg_mergeParts 88 = .ok (.aload_n 0, 1) := by decide +kernel
theorem dMg_mergeParts_89 : decode cMg_mergeParts 89 = .ok (.invokevirtual 96, 3) := by decide +kernel
theorem dMg_mergeParts_92 : decode cMg_mergeParts 92 = .ok (.aload_n 0, 1) := by decide +kernel
theorem dMg_mergeParts_93 : decode cMg_mergeParts 93 = .ok (.aload_n 0, 1) := by decide +kernel
theorem dMg_mergeParts_94 : decode cMg_mergeParts 94 = .ok (.getfield 42, 3) := by decide +kernel
theorem dMg_mergeParts_97 : decode cMg_mergeParts 97 = .ok (.invokevirtual 92, 3) := by decide +kernel
theorem dMg_mergeParts_100 : decode cMg_mergeParts 100 = .ok (.aload_n 0, 1) := by decide +kernel
theorem dMg_mergeParts_101 : decode cMg_mergeParts 101 = .ok (.aload_n 0, 1) := by decide +kernel
theorem dMg_mergeParts_102 : decode cMg_mergeParts 102 = .ok (.getfield 45, 3) := by decide +kernel
theorem dMg_mergeParts_105 : decode cMg_mergeParts 105 = .ok (.invokevirtual 92, 3) := by decide +kernel
theorem dMg_mergeParts_108 : decode cMg_mergeParts 108 = .ok (.return_, 1) := by decide +kernel
theorem dMg_take_0 : decode cMg_take 0 = .ok (.aload_n 0, 1) := by decide +kernel
theorem dMg_take_1 : decode cMg_take 1 = .ok (.getfield 14, 3) := by decide +kernel
theorem dMg_take_4 : decode cMg_take 4 = .ok (.aload_n 1, 1) := by decide +kernel
theorem dMg_take_5 : decode cMg_take 5 = .ok (.getfield 99, 3) := by decide +kernel
theorem dMg_take_8 : decode cMg_take 8 = .ok (.aload_n 1, 1) := by decide +kernel
theorem dMg_take_9 : decode cMg_take 9 = .ok (.getfield 102, 3) := by decide +kernel
theorem dMg_take_12 : decode cMg_take 12 = .ok (.aload_n 1, 1) := by decide +kernel
theorem dMg_take_13 : decode cMg_take 13 = .ok (.getfield 85, 3) := by decide +kernel
theorem dMg_take_16 : decode cMg_take 16 = .ok (.invokevirtual 75, 3) := by decide +kernel
theorem dMg_take_19 : decode cMg_take 19 = .ok (.return_, 1) := by decide +kernel
theorem dMg_addConflict_0 : decode cMg_addConflict 0 = .ok (.aload_n 0, 1) := by decide +kernel
theorem dMg_addConflict_1 : decode cMg_addConflict 1 = .ok (.getfield 24, 3) := by decide +kernel
theorem dMg_addConflict_4 : decode cMg_addConflict 4 = .ok (.bipush 61, 2) := by decide +kernel
theorem dMg_addConflict_6 : decode cMg_addConflict 6 = .ok (.if_icmp .ge 65, 3) := by decide +kernel
theorem dMg_addConflict_9 : decode cMg_addConflict 9 = .ok (.aload_n 0, 1) := by decide +kernel
theorem dMg_addConflict_10 : decode cMg_addConflict 10 = .ok (.getfield 24, 3) := by decide +kernel
theorem dMg_addConflict_13 : decode cMg_addConflict 13 = .ok (.iconst 3, 1) := by decide +kernel
theorem dMg_addConflict_14 : decode cMg_addConflict 14 = .ok (.imul, 1) := by decide +kernel
theorem dMg_addConflict_15 : decode cMg_addConflict 15 = .ok (.istore_n 1, 1) := by decide +kernel
theorem dMg_addConflict_16 : decode cMg_addConflict 16 = .ok (.aload_n 0, 1) := by decide +kernel
theorem dMg_addConflict_17 : decode cMg_addConflict 17 = .ok (.getfield 20, 3) := by decide +kernel
theorem dMg_addConflict_20 : decode cMg_addConflict 20 = .ok (.iload_n 1, 1) := by decide +kernel
theorem dMg_addConflict_21 : decode cMg_addConflict 21 = .ok (.iconst 0, 1) := by decide +kernel
theorem dMg_addConflict_22 : decode cMg_addConflict 22 = .ok (.iadd, 1) := by decide +kernel
theorem dMg_addConflict_23 : decode cMg_addConflict 23 = .ok (.aload_n 0, 1) := by decide +kernel
theorem dMg_addConflict_24 : decode cMg_addConflict 24 = .ok (.getfield 14, 3) := by decide +kernel
theorem dMg_addConflict_27 : decode cMg_addConflict 27 = .ok (.getfield 54, 3) := by decide +kernel
theorem dMg_addConflict_30 : decode cMg_addConflict 30 = .ok (.iastore, 1) := by decide +kernel
theorem dMg_addConflict_31 : decode cMg_addConflict 31 = .ok (.aload_n 0, 1) := by decide +kernel
theorem dMg_addConflict_32 : decode cMg_addConflict 32 = .ok (.getfield 20, 3) := by decide +kernel
theorem dMg_addConflict_35 : decode cMg_addConflict 35 = .ok (.iload_n 1, 1) := by decide +kernel
theorem dMg_addConflict_36 : decode cMg_addConflict 36 = .ok (.iconst 1, 1) := by decide +kernel
theorem dMg_addConflict_37 : decode cMg_addConflict 37 = .ok (.iadd, 1) := by decide +kernel
theorem dMg_addConflict_38 : decode cMg_addConflict 38 = .ok (.aload_n 0, 1) := by decide +kernel
theorem dMg_addConflict_39 : decode cMg_addConflict 39 = .ok (.getfield 42, 3) := by decide +kernel
theorem dMg_addConflict_42 : decode cMg_addConflict 42 = .ok (.invokevirtual 105, 3) := by decide +kernel
theorem dMg_addConflict_45 : decode cMg_addConflict 45 = .ok (.iastore, 1) := by decide +kernel
theorem dMg_addConflict_46 : decode cMg_addConflict 46 = .ok (.aload_n 0, 1) := by decide +kernel
theorem dMg_addConflict_47 : decode cMg_addConflict 47 = .ok (.getfield 20, 3) := by decide +kernel
theorem dMg_addConflict_50 : decode cMg_addConflict 50 = .ok (.iload_n 1, 1) := by decide +kernel
theorem dMg_addConflict_51 : decode cMg_addConflict 51 = .ok (.iconst 2, 1) := by decide +kernel
theorem dMg_addConflict_52 : decode cMg_addConflict 52 = .ok (.iadd, 1) := by decide +kernel
theorem dMg_addConflict_53 : decode cMg_addConflict 53 = .ok (.aload_n 0, 1) := by decide +kernel
theorem dMg_addConflict_54 : decode cMg_addConflict 54 = .ok (.getfield 45, 3) := by decide +kernel
theorem dMg_addConflict_57 : decode cMg_addConflict 57 = .ok (.invokevirtual 105, 3) := by decide +kernel
theorem dMg_addConflict_60 : decode cMg_addConflict 60 = .ok (.iastore, 1) := by decide +kernel
theorem dMg_addConflict_61 : decode cMg_addConflict 61 = .ok (.aload_n 0, 1) := by decide +kernel
theorem dMg_addConflict_62 : decode cMg_addConflict 62 = .ok (.dup, 1) := by decide +kernel
theorem dMg_addConflict_63 : decode cMg_addConflict 63 = .ok (.getfield 24, 3) := by decide +kernel
theorem dMg_addConflict_66 : decode cMg_addConflict 66 = .ok (.iconst 1, 1) := by decide +kernel
theorem dMg_addConflict_67 : decode cMg_addConflict 67 = .ok (.iadd, 1) := by decide +kernel
theorem dMg_addConflict_68 : decode cMg_addConflict 68 = .ok (.putfield 24, 3) := by decide +kernel
theorem dMg_addConflict_71 : decode cMg_addConflict 71 = .ok (.return_, 1) := by decide +kernel
theorem dPg_init_0 : decode cPg_init 0 = .ok (.aload_n 0, 1) := by decide +kernel
theorem dPg_init_1 : decode cPg_init 1 = .ok (.invokespecial 3, 3) := by decide +kernel
theorem dPg_init_4 : decode cPg_init 4 = .ok (.aload_n 0, 1) := by decide +kernel
theorem dPg_init_5 : decode cPg_init 5 = .ok (.new 9, 3) := by decide +kernel
theorem dPg_init_8 : decode cPg_init 8 = .ok (.dup, 1) := by decide +kernel
theorem dPg_init_9 : decode cPg_init 9 = .ok (.bipush 120, 2) := by decide +kernel
theorem dPg_init_11 : decode cPg_init 11 = .ok (.invokespecial 11, 3) := by decide +kernel
theorem dPg_init_14 : decode cPg_init 14 = .ok (.putfield 14, 3) := by decide +kernel
theorem dPg_init_17 : decode cPg_init 17 = .ok (.aload_n 0, 1) := by decide +kernel
theorem dPg_init_18 : decode cPg_init 18 = .ok (.iconst 0, 1) := by decide +kernel
theorem dPg_init_19 : decode cPg_init 19 = .ok (.putfield 20, 3) := by decide +kernel
theorem dPg_init_22 : decode cPg_init 22 = .ok (.aload_n 0, 1) := by decide +kernel
theorem dPg_init_23 : decode cPg_init 23 = .ok (.aload_n 1, 1) := by decide +kernel
theorem dPg_init_24 : decode cPg_init 24 = .ok (.putfield 24, 3) := by decide +kernel
theorem dPg_init_27 : decode cPg_init 27 = .ok (.return_, 1) := by decide +kernel
theorem dPg_run_0 : decode cPg_run 0 = .ok (.aload_n 0, 1) := by decide +kernel
theorem dPg_run_1 : decode cPg_run 1 = .ok (.getfield 24, 3) := by decide +kernel
theorem dPg_run_4 : decode cPg_run 4 = .ok (.aload_n 1, 1) := by decide +kernel
theorem dPg_run_5 : decode cPg_run 5 = .ok (.aload_n 2, 1) := by decide +kernel
theorem dPg_run_6 : decode cPg_run 6 = .ok (.invokevirtual 28, 3) := by decide +kernel
theorem dPg_run_9 : decode cPg_run 9 = .ok (.aload_n 0, 1) := by decide +kernel
theorem dPg_run_10 : decode cPg_run 10 = .ok (.getfield 14, 3) := by decide +kernel
theorem dPg_run_13 : decode cPg_run 13 = .ok (.iconst 0, 1) := by decide +kernel
theorem dPg_run_14 : decode cPg_run 14 = .ok (.putfield 34, 3) := by decide +kernel
theorem dPg_run_17 : decode cPg_run 17 = .ok (.aload_n 0, 1) := by decide +kernel
theorem dPg_run_18 : decode cPg_run 18 = .ok (.iconst 0, 1) := by decide +kernel
theorem dPg_run_19 : decode cPg_run 19 = .ok (.putfield 20, 3) := by decide +kernel
theorem dPg_run_22 : decode cPg_run 22 = .ok (.iconst 0, 1) := by decide +kernel
theorem dPg_run_23 : decode cPg_run 23 = .ok (.istore 4, 2) := by decide +kernel
theorem dPg_run_25 : decode cPg_run 25 = .ok (.iconst 0, 1) := by decide +kernel
theorem dPg_run_26 : decode cPg_run 26 = .ok (.istore 5, 2) := by decide +kernel
theorem dPg_run_28 : decode cPg_run 28 = .ok (.iconst 0, 1) := by decide +kernel
theorem dPg_run_29 : decode cPg_run 29 = .ok (.istore 6, 2) := by decide +kernel
theorem dPg_run_31 : decode cPg_run 31 = .ok (.iload 6, 2) := by decide +kernel
theorem dPg_run_33 : decode cPg_run 33 = .ok (.aload_n 0, 1) := by decide +kernel
theorem dPg_run_34 : decode cPg_run 34 = .ok (.getfield 24, 3) := by decide +kernel
theorem dPg_run_37 : decode cPg_run 37 = .ok (.getfield 37, 3) := by decide +kernel
theorem dPg_run_40 : decode cPg_run 40 = .ok (.if_icmp .ge 145, 3) := by decide +kernel
theorem dPg_run_43 : decode cPg_run 43 = .ok (.iload 6, 2) := by decide +kernel
theorem dPg_run_45 : decode cPg_run 45 = .ok (.iconst 4, 1) := by decide +kernel
theorem dPg_run_46 : decode cPg_run 46 = .ok (.imul, 1) := by decide +kernel
theorem dPg_run_47 : decode cPg_run 47 = .ok (.istore 7, 2) := by decide +kernel
theorem dPg_run_49 : decode cPg_run 49 = .ok (.aload_n 0, 1) := by decide +kernel
theorem dPg_run_50 : decode cPg_run 50 = .ok (.getfield 24, 3) := by decide +kernel
theorem dPg_run_53 : decode cPg_run 53 = .ok (.getfield 38, 3) := by decide +kernel
theorem dPg_run_56 : decode cPg_run 56 = .ok (.iload 7, 2) := by decide +kernel
theorem dPg_run_58 : decode cPg_run 58 = .ok (.iconst 0, 1) := by decide +kernel
theorem dPg_run_59 : decode cPg_run 59 = .ok (.iadd, 1) := by decide +kernel
theorem dPg_run_60 : decode cPg_run 60 = .ok (.iaload, 1) := by decide +kernel
theorem dPg_run_61 : decode cPg_run 61 = .ok (.istore 8, 2) := by decide +kernel
theorem dPg_run_63 : decode cPg_run 63 = .ok (.aload_n 0, 1) := by decide +kernel
theorem dPg_run_64 : decode cPg_run 64 = .ok (.getfield 24, 3) := by decide +kernel
theorem dPg_run_67 : decode cPg_run 67 = .ok (.getfield 38, 3) := by decide +kernel
theorem dPg_run_70 : decode cPg_run 70 = .ok (.iload 7, 2) := by decide +kernel
theorem dPg_run_72 : decode cPg_run 72 = .ok (.iconst 1, 1) := by decide +kernel
theorem dPg_run_73 : decode cPg_run 73 = .ok (.iadd, 1) := by decide +kernel
theorem dPg_run_74 : decode cPg_run 74 = .ok (.iaload, 1) := by decide +kernel
theorem dPg_run_75 : decode cPg_run 75 = .ok (.istore 9, 2) := by decide +kernel
theorem dPg_run_77 : decode cPg_run 77 = .ok (.aload_n 0, 1) := by decide +kernel
theorem dPg_run_78 : decode cPg_run 78 = .ok (.getfield 24, 3) := by decide +kernel
theorem dPg_run_81 : decode cPg_run 81 = .ok (.getfield 38, 3) := by decide +kernel
theorem dPg_run_84 : decode cPg_run 84 = .ok (.iload 7, 2) := by decide +kernel
theorem dPg_run_86 : decode cPg_run 86 = .ok (.iconst 2, 1) := by decide +kernel
theorem dPg_run_87 : decode cPg_run 87 = .ok (.iadd, 1) := by decide +kernel
theorem dPg_run_88 : decode cPg_run 88 = .ok (.iaload, 1) := by decide +kernel
theorem dPg_run_89 : decode cPg_run 89 = .ok (.istore 10, 2) := by decide +kernel
theorem dPg_run_91 : decode cPg_run 91 = .ok (.aload_n 1, 1) := by decide +kernel
theorem dPg_run_92 : decode cPg_run 92 = .ok (.iload 8, 2) := by decide +kernel
theorem dPg_run_94 : decode cPg_run 94 = .ok (.iload 9, 2) := by decide +kernel
theorem dPg_run_96 : decode cPg_run 96 = .ok (.aload_n 3, 1) := by decide +kernel
theorem dPg_run_97 : decode cPg_run 97 = .ok (.iload 4, 2) := by decide +kernel
theorem dPg_run_99 : decode cPg_run 99 = .ok (.iload 8, 2) := by decide +kernel
theorem dPg_run_101 : decode cPg_run 101 = .ok (.iload 5, 2) := by decide +kernel
theorem dPg_run_103 : decode cPg_run 103 = .ok (.iadd, 1) := by decide +kernel
theorem dPg_run_104 : decode cPg_run 104 = .ok (.invokestatic 42, 3) := by decide +kernel
theorem dPg_run_107 : decode cPg_run 107 = .ok (.istore 11, 2) := by decide +kernel
theorem dPg_run_109 : decode cPg_run 109 = .ok (.iload 11, 2) := by decide +kernel
theorem dPg_run_111 : decode cPg_run 111 = .ok (.iconst (-1), 1) := by decide +kernel
theorem dPg_run_112 : decode cPg_run 112 = .ok (.if_icmp .ne 16, 3) := by decide +kernel
theorem dPg_run_115 : decode cPg_run 115 = .ok (.aload_n 0, 1) := by decide +kernel
theorem dPg_run_116 : decode cPg_run 116 = .ok (.dup, 1) := by decide +kernel
theorem dPg_run_117 : decode cPg_run 117 = .ok (.getfield 20, 3) := by decide +kernel
theorem dPg_run_120 : decode cPg_run 120 = .ok (.iconst 1, 1) := by decide +kernel
theorem dPg_run_121 : decode cPg_run 121 = .ok (.iadd, 1) := by decide +kernel
theorem dPg_run_122 : decode cPg_run 122 = .ok (.putfield 20, 3) := by decide +kernel
theorem dPg_run_125 : decode cPg_run 125 = .ok (.goto 54, 3) := by decide +kernel
theorem dPg_run_128 : decode cPg_run 128 = .ok (.aload_n 0, 1) := by decide +kernel
theorem dPg_run_129 : decode cPg_run 129 = .ok (.getfield 14, 3) := by decide +kernel
theorem dPg_run_132 : decode cPg_run 132 = .ok (.aload_n 3, 1) := by decide +kernel
theorem dPg_run_133 : decode cPg_run 133 = .ok (.iload 4, 2) := by decide +kernel
theorem dPg_run_135 : decode cPg_run 135 = .ok (.iload 11, 2) := by decide +kernel
theorem dPg_run_137 : decode cPg_run 137 = .ok (.invokevirtual 46, 3) := by decide +kernel
theorem dPg_run_140 : decode cPg_run 140 = .ok (.aload_n 0, 1) := by decide +kernel
theorem dPg_run_141 : decode cPg_run 141 = .ok (.getfield 14, 3) := by decide +kernel
theorem dPg_run_144 : decode cPg_run 144 = .ok (.aload_n 2, 1) := by decide +kernel
theorem dPg_run_145 : decode cPg_run 145 = .ok (.iload 10, 2) := by decide +kernel
theorem dPg_run_147 : decode cPg_run 147 = .ok (.iload 10, 2) := by decide +kernel
theorem dPg_run_149 : decode cPg_run 149 = .ok (.aload_n 0, 1) := by decide +kernel
theorem dPg_run_150 : decode cPg_run 150 = .ok (.getfield 24, 3) := by decide +kernel
theorem dPg_run_153 : decode cPg_run 153 = .ok (.getfield 38, 3) := by decide +kernel
theorem dPg_run_156 : decode cPg_run 156 = .ok (.iload 7, 2) := by decide +kernel
theorem dPg_run_158 : decode cPg_run 158 = .ok (.iconst 3, 1) := by decide +kernel
theorem dPg_run_159 : decode cPg_run 159 = .ok (.iadd, 1) := by decide +kernel
theorem dPg_run_160 : decode cPg_run 160 = .ok (.iaload, 1) := by decide +kernel
theorem dPg_run_161 : decode cPg_run 161 = .ok (.iadd, 1) := by decide +kernel
theorem dPg_run_162 : decode cPg_run 162 = .ok (.invokevirtual 46, 3) := by decide +kernel
theorem dPg_run_165 : decode cPg_run 165 = .ok (.iload 11, 2) := by decide +kernel
theorem dPg_run_167 : decode cPg_run 167 = .ok (.iload 9, 2) := by decide +kernel
theorem dPg_run_169 : decode cPg_run 169 = .ok (.iadd, 1) := by decide +kernel
theorem dPg_run_170 : decode cPg_run 170 = .ok (.istore 4, 2) := by decide +kernel
theorem dPg_run_172 : decode cPg_run 172 = .ok (.iload 11, 2) := by decide +kernel
theorem dPg_run_174 : decode cPg_run 174 = .ok (.iload 8, 2) := by decide +kernel
theorem dPg_run_176 : decode cPg_run 176 = .ok (.isub, 1) := by decide +kernel
theorem dPg_run_177 : decode cPg_run 177 = .ok (.istore 5, 2) := by decide +kernel
theorem dPg_run_179 : decode cPg_run 179 = .ok (.iinc 6 1, 3) := by decide +kernel
theorem dPg_run_182 : decode cPg_run 182 = .ok (.goto (-151), 3) := by decide +kernel
theorem dPg_run_185 : decode cPg_run 185 = .ok (.aload_n 0, 1) := by decide +kernel
theorem dPg_run_186 : decode cPg_run 186 = .ok (.getfield 14, 3) := by decide +kernel
theorem dPg_run_189 : decode cPg_run 189 = .ok (.aload_n 3, 1) := by decide +kernel
theorem dPg_run_190 : decode cPg_run 190 = .ok (.iload 4, 2) := by decide +kernel
theorem dPg_run_192 : decode cPg_run 192 = .ok (.aload_n 3, 1) := by decide +kernel
theorem dPg_run_193 : decode cPg_run 193 = .ok (.getfield 34, 3) := by decide +kernel
theorem dPg_run_196 : decode cPg_run 196 = .ok (.invokevirtual 46, 3) := by decide +kernel
theorem dPg_run_199 : decode cPg_run 199 = .ok (.return_, 1) := by decide +kernel
theorem dPg_nearestFit_0 : decode cPg_nearestFit 0 = .ok (.iconst (-1), 1) := by decide +kernel
theorem dPg_nearestFit_1 : decode cPg_nearestFit 1 = .ok (.istore 6, 2) := by decide +kernel
theorem dPg_nearestFit_3 : decode cPg_nearestFit 3 = .ok (.iload 4, 2) := by decide +kernel
theorem dPg_nearestFit_5 : decode cPg_nearestFit 5 = .ok (.istore 7, 2) := by decide +kernel
theorem dPg_nearestFit_7 : decode cPg_nearestFit 7 = .ok (.iload 7, 2) := by decide +kernel
theorem dPg_nearestFit_9 : decode cPg_nearestFit 9 = .ok (.aload_n 3, 1) := by decide +kernel
theorem dPg_nearestFit_10 : decode cPg_nearestFit 10 = .ok (.getfield 34, 3) := by decide +kernel
theorem dPg_nearestFit_13 : decode cPg_nearestFit 13 = .ok (.iload_n 2, 1) := by decide +kernel
theorem dPg_nearestFit_14 : decode cPg_nearestFit 14 = .ok (.isub, 1) := by decide +kernel
theorem dPg_nearestFit_15 : decode cPg_nearestFit 15 = .ok (.if_icmp .gt 62, 3) := by decide +kernel
theorem dPg_nearestFit_18 : decode cPg_nearestFit 18 = .ok (.iload 6, 2) := by decide +kernel
theorem dPg_nearestFit_20 : decode cPg_nearestFit 20 = .ok (.iconst (-1), 1) := by decide +kernel
theorem dPg_nearestFit_21 : decode cPg_nearestFit 21 = .ok (.if_icmp .eq 22, 3) := by decide +kernel
theorem dPg_nearestFit_24 : decode cPg_nearestFit 24 = .ok (.iload 7, 2) := by decide +kernel
theorem dPg_nearestFit_26 : decode cPg_nearestFit 26 = .ok (.iload 5, 2) := by decide +kernel
theorem dPg_nearestFit_28 : decode cPg_nearestFit 28 = .ok (.isub, 1) := by decide +kernel
theorem dPg_nearestFit_29 : decode cPg_nearestFit 29 = .ok (.invokestatic 50, 3) := by decide +kernel
theorem dPg_nearestFit_32 : decode cPg_nearestFit 32 = .ok (.iload 6, 2) := by decide +kernel
theorem dPg_nearestFit_34 : decode cPg_nearestFit 34 = .ok (.iload 5, 2) := by decide +kernel
theorem dPg_nearestFit_36 : decode cPg_nearestFit 36 = .ok (.isub, 1) := by decide +kernel
theorem dPg_nearestFit_37 : decode cPg_nearestFit 37 = .ok (.invokestatic 50, 3) := by decide +kernel
theorem dPg_nearestFit_40 : decode cPg_nearestFit 40 = .ok (.if_icmp .ge 7, 3) := by decide +kernel
theorem dPg_nearestFit_43 : decode cPg_nearestFit 43 = .ok (.iconst 1, 1) := by decide +kernel
theorem dPg_nearestFit_44 : decode cPg_nearestFit 44 = .ok (.goto 4, 3) := by decide +kernel
theorem dPg_nearestFit_47 : decode cPg_nearestFit 47 = .ok (.iconst 0, 1) := by decide +kernel
theorem dPg_nearestFit_48 : decode cPg_nearestFit 48 = .ok (.istore 8, 2) := by decide +kernel
theorem dPg_nearestFit_50 : decode cPg_nearestFit 50 = .ok (.iload 8, 2) := by decide +kernel
theorem dPg_nearestFit_52 : decode cPg_nearestFit 52 = .ok (.ifCond .eq 19, 3) := by decide +kernel
theorem dPg_nearestFit_55 : decode cPg_nearestFit 55 = .ok (.aload_n 0, 1) := by decide +kernel
theorem dPg_nearestFit_56 : decode cPg_nearestFit 56 = .ok (.iload_n 1, 1) := by decide +kernel
theorem dPg_nearestFit_57 : decode cPg_nearestFit 57 = .ok (.iload_n 2, 1) := by decide +kernel
theorem dPg_nearestFit_58 : decode cPg_nearestFit 58 = .ok (.aload_n 3, 1) := by decide +kernel
theorem dPg_nearestFit_59 : decode cPg_nearestFit 59 = .ok (.iload 7, 2) := by decide +kernel
theorem dPg_nearestFit_61 : decode cPg_nearestFit 61 = .ok (.invokestatic 56, 3) := by decide +kernel
theorem dPg_nearestFit_64 : decode cPg_nearestFit 64 = .ok (.ifCond .eq 7, 3) := by decide +kernel
theorem dPg_nearestFit_67 : decode cPg_nearestFit 67 = .ok (.iload 7, 2) := by decide +kernel
theorem dPg_nearestFit_69 : decode cPg_nearestFit 69 = .ok (.istore 6, 2) := by decide +kernel
theorem dPg_nearestFit_71 : decode cPg_nearestFit 71 = .ok (.iinc 7 1, 3) := by decide +kernel
theorem dPg_nearestFit_74 : decode cPg_nearestFit 74 = .ok (.goto (-67), 3) := by decide +kernel
theorem dPg_nearestFit_77 : decode cPg_nearestFit 77 = .ok (.iload 6, 2) := by decide +kernel
theorem dPg_nearestFit_79 : decode cPg_nearestFit 79 = .ok (.ireturn, 1) := by decide +kernel
theorem dPg_fits_0 : decode cPg_fits 0 = .ok (.iload_n 1, 1) := by decide +kernel
theorem dPg_fits_1 : decode cPg_fits 1 = .ok (.iconst 1, 1) := by decide +kernel
theorem dPg_fits_2 : decode cPg_fits 2 = .ok (.isub, 1) := by decide +kernel
theorem dPg_fits_3 : decode cPg_fits 3 = .ok (.iconst 0, 1) := by decide +kernel
theorem dPg_fits_4 : decode cPg_fits 4 = .ok (.invokestatic 60, 3) := by decide +kernel
theorem dPg_fits_7 : decode cPg_fits 7 = .ok (.istore 5, 2) := by decide +kernel
theorem dPg_fits_9 : decode cPg_fits 9 = .ok (.iload_n 1, 1) := by decide +kernel
theorem dPg_fits_10 : decode cPg_fits 10 = .ok (.iload_n 2, 1) := by decide +kernel
theorem dPg_fits_11 : decode cPg_fits 11 = .ok (.iadd, 1) := by decide +kernel
theorem dPg_fits_12 : decode cPg_fits 12 = .ok (.iconst 1, 1) := by decide +kernel
theorem dPg_fits_13 : decode cPg_fits 13 = .ok (.iadd, 1) := by decide +kernel
theorem dPg_fits_14 : decode cPg_fits 14 = .ok (.aload_n 0, 1) := by decide +kernel
theorem dPg_fits_15 : decode cPg_fits 15 = .ok (.getfield 34, 3) := by decide +kernel
theorem dPg_fits_18 : decode cPg_fits 18 = .ok (.invokestatic 64, 3) := by decide +kernel
theorem dPg_fits_21 : decode cPg_fits 21 = .ok (.istore 6, 2) := by decide +kernel
theorem dPg_fits_23 : decode cPg_fits 23 = .ok (.iload 5, 2) := by decide +kernel
theorem dPg_fits_25 : decode cPg_fits 25 = .ok (.istore 7, 2) := by decide +kernel
theorem dPg_fits_27 : decode cPg_fits 27 = .ok (.iload 7, 2) := by decide +kernel
theorem dPg_fits_29 : decode cPg_fits 29 = .ok (.iload 6, 2) := by decide +kernel
theorem dPg_fits_31 : decode cPg_fits 31 = .ok (.if_icmp .ge 32, 3) := by decide +kernel
theorem dPg_fits_34 : decode cPg_fits 34 = .ok (.aload_n 3, 1) := by decide +kernel
theorem dPg_fits_35 : decode cPg_fits 35 = .ok (.iload 4, 2) := by decide +kernel
theorem dPg_fits_37 : decode cPg_fits 37 = .ok (.iload 7, 2) := by decide +kernel
theorem dPg_fits_39 : decode cPg_fits 39 = .ok (.iadd, 1) := by decide +kernel
theorem dPg_fits_40 : decode cPg_fits 40 = .ok (.iload_n 1, 1) := by decide +kernel
theorem dPg_fits_41 : decode cPg_fits 41 = .ok (.isub, 1) := by decide +kernel
theorem dPg_fits_42 : decode cPg_fits 42 = .ok (.aload_n 0, 1) := by decide +kernel
theorem dPg_fits_43 : decode cPg_fits 43 = .ok (.getfield 67, 3) := by decide +kernel
theorem dPg_fits_46 : decode cPg_fits 46 = .ok (.iload 7, 2) := by decide +kernel
theorem dPg_fits_48 : decode cPg_fits 48 = .ok (.iaload, 1) := by decide +kernel
theorem dPg_fits_49 : decode cPg_fits 49 = .ok (.invokevirtual 70, 3) := by decide +kernel
theorem dPg_fits_52 : decode cPg_fits 52 = .ok (.ifCond .ne 5, 3) := by decide +kernel
theorem dPg_fits_55 : decode cPg_fits 55 = .ok (.iconst 0, 1) := by decide +kernel
theorem dPg_fits_56 : decode cPg_fits 56 = .ok (.ireturn, 1) := by decide +kernel
theorem dPg_fits_57 : decode cPg_fits 57 = .ok (.iinc 7 1, 3) := by decide +kernel
theorem dPg_fits_60 : decode cPg_fits 60 = .ok (.goto (-33), 3) := by decide +kernel
theorem dPg_fits_63 : decode cPg_fits 63 = .ok (.iconst 1, 1) := by decide +kernel
theorem dPg_fits_64 : decode cPg_fits 64 = .ok (.ireturn, 1) := by decide +kernel
theorem dVe_init_0 : decode cVe_init 0 = .ok (.aload_n 0, 1) := by decide +kernel
theorem dVe_init_1 : decode cVe_init 1 = .ok (.invokespecial 3, 3) := by decide +kernel
theorem dVe_init_4 : decode cVe_init 4 = .ok (.aload_n 0, 1) := by decide +kernel
theorem dVe_init_5 : decode cVe_init 5 = .ok (.bipush 30, 2) := by decide +kernel
theorem dVe_init_7 : decode cVe_init 7 = .ok (.newarray .int, 2) := by decide +kernel
theorem dVe_init_9 : decode cVe_init 9 = .ok (.putfield 9, 3) := by decide +kernel
theorem dVe_init_12 : decode cVe_init 12 = .ok (.aload_n 0, 1) := by decide +kernel
theorem dVe_init_13 : decode cVe_init 13 = .ok (.sipush 1800, 3) := by decide +kernel
theorem dVe_init_16 : decode cVe_init 16 = .ok (.newarray .int, 2) := by decide +kernel
theorem dVe_init_18 : decode cVe_init 18 = .ok (.putfield 15, 3) := by decide +kernel
theorem dVe_init_21 : decode cVe_init 21 = .ok (.aload_n 0, 1) := by decide +kernel
theorem dVe_init_22 : decode cVe_init 22 = .ok (.iconst 0, 1) := by decide +kernel
theorem dVe_init_23 : decode cVe_init 23 = .ok (.putfield 18, 3) := by decide +kernel
theorem dVe_init_26 : decode cVe_init 26 = .ok (.aload_n 0, 1) := by decide +kernel
theorem dVe_init_27 : decode cVe_init 27 = .ok (.new 22, 3) := by decide +kernel
theorem dVe_init_30 : decode cVe_init 30 = .ok (.dup, 1) := by decide +kernel
theorem dVe_init_31 : decode cVe_init 31 = .ok (.bipush 60, 2) := by decide +kernel
theorem dVe_init_33 : decode cVe_init 33 = .ok (.invokespecial 24, 3) := by decide +kernel
theorem dVe_init_36 : decode cVe_init 36 = .ok (.putfield 27, 3) := by decide +kernel
theorem dVe_init_39 : decode cVe_init 39 = .ok (.aload_n 0, 1) := by decide +kernel
theorem dVe_init_40 : decode cVe_init 40 = .ok (.aload_n 1, 1) := by decide +kernel
theorem dVe_init_41 : decode cVe_init 41 = .ok (.putfield 31, 3) := by decide +kernel
theorem dVe_init_44 : decode cVe_init 44 = .ok (.return_, 1) := by decide +kernel
theorem dVe_add_0 : decode cVe_add 0 = .ok (.aload_n 0, 1) := by decide +kernel
theorem dVe_add_1 : decode cVe_add 1 = .ok (.getfield 18, 3) := by decide +kernel
theorem dVe_add_4 : decode cVe_add 4 = .ok (.bipush 30, 2) := by decide +kernel
theorem dVe_add_6 : decode cVe_add 6 = .ok (.if_icmp .ge 39, 3) := by decide +kernel
theorem dVe_add_9 : decode cVe_add 9 = .ok (.aload_n 0, 1) := by decide +kernel
theorem dVe_add_10 : decode cVe_add 10 = .ok (.aload_n 1, 1) := by decide +kernel
theorem dVe_add_11 : decode cVe_add 11 = .ok (.invokevirtual 35, 3) := by decide +kernel
theorem dVe_add_14 : decode cVe_add 14 = .ok (.aload_n 0, 1) := by decide +kernel
theorem dVe_add_15 : decode cVe_add 15 = .ok (.getfield 9, 3) := by decide +kernel
theorem dVe_add_18 : decode cVe_add 18 = .ok (.aload_n 0, 1) := by decide +kernel
theorem dVe_add_19 : decode cVe_add 19 = .ok (.getfield 18, 3) := by decide +kernel
theorem dVe_add_22 : decode cVe_add 22 = .ok (.aload_n 1, 1) := by decide +kernel
theorem dVe_add_23 : decode cVe_add 23 = .ok (.getfield 39, 3) := by decide +kernel
theorem dVe_add_26 : decode cVe_add 26 = .ok (.iastore, 1) := by decide +kernel
theorem dVe_add_27 : decode cVe_add 27 = .ok (.aload_n 0, 1) := by decide +kernel
theorem dVe_add_28 : decode cVe_add 28 = .ok (.getfield 27, 3) := by decide +kernel
theorem dVe_add_31 : decode cVe_add 31 = .ok (.aload_n 1, 1) := by decide +kernel
theorem dVe_add_32 : decode cVe_add 32 = .ok (.invokevirtual 40, 3) := by decide +kernel
theorem dVe_add_35 : decode cVe_add 35 = .ok (.aload_n 0, 1) := by decide +kernel
theorem dVe_add_36 : decode cVe_add 36 = .ok (.dup, 1) := by decide +kernel
theorem dVe_add_37 : decode cVe_add 37 = .ok (.getfield 18, 3) := by decide +kernel
theorem dVe_add_40 : decode cVe_add 40 = .ok (.iconst 1, 1) := by decide +kernel
theorem dVe_add_41 : decode cVe_add 41 = .ok (.iadd, 1) := by decide +kernel
theorem dVe_add_42 : decode cVe_add 42 = .ok (.putfield 18, 3) := by decide +kernel
theorem dVe_add_45 : decode cVe_add 45 = .ok (.return_, 1) := by decide +kernel
theorem dVe_fillOrigins_0 : decode cVe_fillOrigins 0 = .ok (.aload_n 0, 1) := by decide +kernel
theorem dVe_fillOrigins_1 : decode cVe_fillOrigins 1 = .ok (.getfield 18, 3) := by decide +kernel
theorem dVe_fillOrigins_4 : decode cVe_fillOrigins 4 = .ok (.bipush 60, 2) := by decide +kernel
theorem dVe_fillOrigins_6 : decode cVe_fillOrigins 6 = .ok (.imul, 1) := by decide +kernel
theorem dVe_fillOrigins_7 : decode cVe_fillOrigins 7 = .ok (.istore_n 2, 1) := by decide +kernel
theorem dVe_fillOrigins_8 : decode cVe_fillOrigins 8 = .ok (.iconst 0, 1) := by decide +kernel
theorem dVe_fillOrigins_9 : decode cVe_fillOrigins 9 = .ok (.istore_n 3, 1) := by decide +kernel
theorem dVe_fillOrigins_10 : decode cVe_fillOrigins 10 = .ok (.iload_n 3, 1) := by decide +kernel
theorem dVe_fillOrigins_11 : decode cVe_fillOrigins 11 = .ok (.aload_n 1, 1) := by decide +kernel
theorem dVe_fillOrigins_12 : decode cVe_fillOrigins 12 = .ok (.getfield 39, 3) := by decide +kernel
theorem dVe_fillOrigins_15 : decode cVe_fillOrigins 15 = .ok (.if_icmp .ge 21, 3) := by decide +kernel
theorem dVe_fillOrigins_18 : decode cVe_fillOrigins 18 = .ok (.aload_n 0, 1) := by decide +kernel
theorem dVe_fillOrigins_19 : decode cVe_fillOrigins 19 = .ok (.getfield 15, 3) := by decide +kernel
theorem dVe_fillOrigins_22 : decode cVe_fillOrigins 22 = .ok (.iload_n 2, 1) := by decide +kernel
theorem dVe_fillOrigins_23 : decode cVe_fillOrigins 23 = .ok (.iload_n 3, 1) := by decide +kernel
theorem dVe_fillOrigins_24 : decode cVe_fillOrigins 24 = .ok (.iadd, 1) := by decide +kernel
theorem dVe_fillOrigins_25 : decode cVe_fillOrigins 25 = .ok (.aload_n 0, 1) := by decide +kernel
theorem dVe_fillOrigins_26 : decode cVe_fillOrigins 26 = .ok (.getfield 18, 3) := by decide +kernel
theorem dVe_fillOrigins_29 : decode cVe_fillOrigins 29 = .ok (.iastore, 1) := by decide +kernel
theorem dVe_fillOrigins_30 : decode cVe_fillOrigins 30 = .ok (.iinc 3 1, 3) := by decide +kernel
theorem dVe_fillOrigins_33 : decode cVe_fillOrigins 33 = .ok (.goto (-23), 3) := by decide +kernel
theorem dVe_fillOrigins_36 : decode cVe_fillOrigins 36 = .ok (.aload_n 0, 1) := by decide +kernel
theorem dVe_fillOrigins_37 : decode cVe_fillOrigins 37 = .ok (.getfield 18, 3) := by decide +kernel
theorem dVe_fillOrigins_40 : decode cVe_fillOrigins 40 = .ok (.ifCond .le 69, 3) := by decide +kernel
theorem dVe_fillOrigins_43 : decode cVe_fillOrigins 43 = .ok (.aload_n 0, 1) := by decide +kernel
theorem dVe_fillOrigins_44 : decode cVe_fillOrigins 44 = .ok (.getfield 31, 3) := by decide +kernel
theorem dVe_fillOrigins_47 : decode cVe_fillOrigins 47 = .ok (.aload_n 0, 1) := by decide +kernel
theorem dVe_fillOrigins_48 : decode cVe_fillOrigins 48 = .ok (.getfield 27, 3) := by decide +kernel
theorem dVe_fillOrigins_51 : decode cVe_fillOrigins 51 = .ok (.aload_n 1, 1) := by decide +kernel
theorem dVe_fillOrigins_52 : decode cVe_fillOrigins 52 = .ok (.invokevirtual 43, 3) := by decide +kernel
theorem dVe_fillOrigins_55 : decode cVe_fillOrigins 55 = .ok (.iconst 0, 1) := by decide +kernel
theorem dVe_fillOrigins_56 : decode cVe_fillOrigins 56 = .ok (.istore_n 3, 1) := by decide +kernel
theorem dVe_fillOrigins_57 : decode cVe_fillOrigins 57 = .ok (.iload_n 3, 1) := by decide +kernel
theorem dVe_fillOrigins_58 : decode cVe_fillOrigins 58 = .ok (.aload_n 0, 1) := by decide +kernel
theorem dVe_fillOrigins_59 : decode cVe_fillOrigins 59 = .ok (.getfield 31, 3) := by decide +kernel
theorem dVe_fillOrigins_62 : decode cVe_fillOrigins 62 = .ok (.getfield 49, 3) := by decide +kernel
theorem dVe_fillOrigins_65 : decode cVe_fillOrigins 65 = .ok (.if_icmp .ge 44, 3) := by decide +kernel
theorem dVe_fillOrigins_68 : decode cVe_fillOrigins 68 = .ok (.aload_n 0, 1) := by decide +kernel
theorem dVe_fillOrigins_69 : decode cVe_fillOrigins 69 = .ok (.getfield 15, 3) := by decide +kernel
theorem dVe_fillOrigins_72 : decode cVe_fillOrigins 72 = .ok (.iload_n 2, 1) := by decide +kernel
theorem dVe_fillOrigins_73 : decode cVe_fillOrigins 73 = .ok (.aload_n 0, 1) := by decide +kernel
theorem dVe_fillOrigins_74 : decode cVe_fillOrigins 74 = .ok (.getfield 31, 3) := by decide +kernel
theorem dVe_fillOrigins_77 : decode cVe_fillOrigins 77 = .ok (.getfield 50, 3) := by decide +kernel
theorem dVe_fillOrigins_80 : decode cVe_fillOrigins 80 = .ok (.iload_n 3, 1) := by decide +kernel
theorem dVe_fillOrigins_81 : decode cVe_fillOrigins 81 = .ok (.iaload, 1) := by decide +kernel
theorem dVe_fillOrigins_82 : decode cVe_fillOrigins 82 = .ok (.iadd, 1) := by decide +kernel
theorem dVe_fillOrigins_83 : decode cVe_fillOrigins 83 = .ok (.aload_n 0, 1) := by decide +kernel
theorem dVe_fillOrigins_84 : decode cVe_fillOrigins 84 = .ok (.getfield 15, 3) := by decide +kernel
theorem dVe_fillOrigins_87 : decode cVe_fillOrigins 87 = .ok (.iload_n 2, 1) := by decide +kernel
theorem dVe_fillOrigins_88 : decode cVe_fillOrigins 88 = .ok (.bipush 60, 2) := by decide +kernel
theorem dVe_fillOrigins_90 : decode cVe_fillOrigins 90 = .ok (.isub, 1) := by decide +kernel
theorem dVe_fillOrigins_91 : decode cVe_fillOrigins 91 = .ok (.aload_n 0, 1) := by decide +kernel
theorem dVe_fillOrigins_92 : decode cVe_fillOrigins 92 = .ok (.getfield 31, 3) := by decide +kernel
theorem dVe_fillOrigins_95 : decode cVe_fillOrigins 95 = .ok (.getfield 53, 3) := by decide +kernel
theorem dVe_fillOrigins_98 : decode cVe_fillOrigins 98 = .ok (.iload_n 3, 1) := by decide +kernel
theorem dVe_fillOrigins_99 : decode cVe_fillOrigins 99 = .ok (.iaload, 1) := by decide +kernel
theorem dVe_fillOrigins_100 : decode cVe_fillOrigins 100 = .ok (.iadd, 1) := by decide +kernel
theorem dVe_fillOrigins_101 : decode cVe_fillOrigins 101 = .ok (.iaload, 1) := by decide +kernel
theorem dVe_fillOrigins_102 : decode cVe_fillOrigins 102 = .ok (.iastore, 1) := by decide +kernel
theorem dVe_fillOrigins_103 : decode cVe_fillOrigins 103 = .ok (.iinc 3 1, 3) := by decide +kernel
theorem dVe_fillOrigins_106 : decode cVe_fillOrigins 106 = .ok (.goto (-49), 3) := by decide +kernel
theorem dVe_fillOrigins_109 : decode cVe_fillOrigins 109 = .ok (.return_, 1) := by decide +kernel
