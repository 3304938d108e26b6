theorem dMM_init_0 : decode cMM_init 0 = .ok (.aload_n 0, 1) := by decide +kernel
theorem dMM_init_1 : decode cMM_init 1 = .ok (.invokespecial 1, 3) := by decide +kernel
theorem dMM_init_4 : decode cMM_init 4 = .ok (.aload_n 0, 1) := by decide +kernel
theorem dMM_init_5 : decode cMM_init 5 = .ok (.bipush 6, 2) := by decide +kernel
theorem dMM_init_7 : decode cMM_init 7 = .ok (.newarray .int, 2) := by decide +kernel
theorem dMM_init_9 : decode cMM_init 9 = .ok (.putfield 7, 3) := by decide +kernel
theorem dMM_init_12 : decode cMM_init 12 = .ok (.aload_n 0, 1) := by decide +kernel
theorem dMM_init_13 : decode cMM_init 13 = .ok (.sipush 360, 3) := by decide +kernel
theorem dMM_init_16 : decode cMM_init 16 = .ok (.newarray .int, 2) := by decide +kernel
theorem dMM_init_18 : decode cMM_init 18 = .ok (.putfield 13, 3) := by decide +kernel
theorem dMM_init_21 : decode cMM_init 21 = .ok (.aload_n 0, 1) := by decide +kernel
theorem dMM_init_22 : decode cMM_init 22 = .ok (.bipush 60, 2) := by decide +kernel
theorem dMM_init_24 : decode cMM_init 24 = .ok (.newarray .int, 2) := by decide +kernel
theorem dMM_init_26 : decode cMM_init 26 = .ok (.putfield 16, 3) := by decide +kernel
theorem dMM_init_29 : decode cMM_init 29 = .ok (.aload_n 0, 1) := by decide +kernel
theorem dMM_init_30 : decode cMM_init 30 = .ok (.bipush 60, 2) := by decide +kernel
theorem dMM_init_32 : decode cMM_init 32 = .ok (.newarray .int, 2) := by decide +kernel
theorem dMM_init_34 : decode cMM_init 34 = .ok (.putfield 19, 3) := by decide +kernel
theorem dMM_init_37 : decode cMM_init 37 = .ok (.aload_n 0, 1) := by decide +kernel
theorem dMM_init_38 : decode cMM_init 38 = .ok (.sipush 3721, 3) := by decide +kernel
theorem dMM_init_41 : decode cMM_init 41 = .ok (.newarray .int, 2) := by decide +kernel
theorem dMM_init_43 : decode cMM_init 43 = .ok (.putfield 22, 3) := by decide +kernel
theorem dMM_init_46 : decode cMM_init 46 = .ok (.aload_n 0, 1) := by decide +kernel
theorem dMM_init_47 : decode cMM_init 47 = .ok (.bipush 60, 2) := by decide +kernel
theorem dMM_init_49 : decode cMM_init 49 = .ok (.newarray .int, 2) := by decide +kernel
theorem dMM_init_51 : decode cMM_init 51 = .ok (.putfield 25, 3) := by decide +kernel
theorem dMM_init_54 : decode cMM_init 54 = .ok (.aload_n 0, 1) := by decide +kernel
theorem dMM_init_55 : decode cMM_init 55 = .ok (.bipush 60, 2) := by decide +kernel
theorem dMM_init_57 : decode cMM_init 57 = .ok (.newarray .int, 2) := by decide +kernel
theorem dMM_init_59 : decode cMM_init 59 = .ok (.putfield 28, 3) := by decide +kernel
theorem dMM_init_62 : decode cMM_init 62 = .ok (.aload_n 0, 1) := by decide +kernel
theorem dMM_init_63 : decode cMM_init 63 = .ok (.bipush 60, 2) := by decide +kernel
theorem dMM_init_65 : decode cMM_init 65 = .ok (.newarray .int, 2) := by decide +kernel
theorem dMM_init_67 : decode cMM_init 67 = .ok (.putfield 31, 3) := by decide +kernel
theorem dMM_init_70 : decode cMM_init 70 = .ok (.aload_n 0, 1) := by decide +kernel
theorem dMM_init_71 : decode cMM_init 71 = .ok (.sipush 250, 3) := by decide +kernel
theorem dMM_init_74 : decode cMM_init 74 = .ok (.newarray .int, 2) := by decide +kernel
theorem dMM_init_76 : decode cMM_init 76 = .ok (.putfield 34, 3) := by decide +kernel
theorem dMM_init_79 : decode cMM_init 79 = .ok (.aload_n 0, 1) := by decide +kernel
theorem dMM_init_80 : decode cMM_init 80 = .ok (.sipush 250, 3) := by decide +kernel
theorem dMM_init_83 : decode cMM_init 83 = .ok (.newarray .int, 2) := by decide +kernel
theorem dMM_init_85 : decode cMM_init 85 = .ok (.putfield 37, 3) := by decide +kernel
theorem dMM_init_88 : decode cMM_init 88 = .ok (.aload_n 0, 1) := by decide +kernel
theorem dMM_init_89 : decode cMM_init 89 = .ok (.bipush 60, 2) := by decide +kernel
theorem dMM_init_91 : decode cMM_init 91 = .ok (.newarray .int, 2) := by decide +kernel
theorem dMM_init_93 : decode cMM_init 93 = .ok (.putfield 40, 3) := by decide +kernel
theorem dMM_init_96 : decode cMM_init 96 = .ok (.aload_n 0, 1) := by decide +kernel
theorem dMM_init_97 : decode cMM_init 97 = .ok (.bipush 60, 2) := by decide +kernel
theorem dMM_init_99 : decode cMM_init 99 = .ok (.newarray .int, 2) := by decide +kernel
theorem dMM_init_101 : decode cMM_init 101 = .ok (.putfield 43, 3) := by decide +kernel
theorem dMM_init_104 : decode cMM_init 104 = .ok (.aload_n 0, 1) := by decide +kernel
theorem dMM_init_105 : decode cMM_init 105 = .ok (.bipush 60, 2) := by decide +kernel
theorem dMM_init_107 : decode cMM_init 107 = .ok (.newarray .int, 2) := by decide +kernel
theorem dMM_init_109 : decode cMM_init 109 = .ok (.putfield 46, 3) := by decide +kernel
theorem dMM_init_112 : decode cMM_init 112 = .ok (.aload_n 0, 1) := by decide +kernel
theorem dMM_init_113 : decode cMM_init 113 = .ok (.sipush 400, 3) := by decide +kernel
theorem dMM_init_116 : decode cMM_init 116 = .ok (.newarray .int, 2) := by decide +kernel
theorem dMM_init_118 : decode cMM_init 118 = .ok (.putfield 49, 3) := by decide +kernel
theorem dMM_init_121 : decode cMM_init 121 = .ok (.aload_n 0, 1) := by decide +kernel
theorem dMM_init_122 : decode cMM_init 122 = .ok (.sipush 400, 3) := by decide +kernel
theorem dMM_init_125 : decode cMM_init 125 = .ok (.newarray .int, 2) := by decide +kernel
theorem dMM_init_127 : decode cMM_init 127 = .ok (.putfield 52, 3) := by decide +kernel
theorem dMM_init_130 : decode cMM_init 130 = .ok (.aload_n 0, 1) := by decide +kernel
theorem dMM_init_131 : decode cMM_init 131 = .ok (.bipush 30, 2) := by decide +kernel
theorem dMM_init_133 : decode cMM_init 133 = .ok (.newarray .int, 2) := by decide +kernel
theorem dMM_init_135 : decode cMM_init 135 = .ok (.putfield 55, 3) := by decide +kernel
theorem dMM_init_138 : decode cMM_init 138 = .ok (.aload_n 0, 1) := by decide +kernel
theorem dMM_init_139 : decode cMM_init 139 = .ok (.sipush 1800, 3) := by decide +kernel
theorem dMM_init_142 : decode cMM_init 142 = .ok (.newarray .int, 2) := by decide +kernel
theorem dMM_init_144 : decode cMM_init 144 = .ok (.putfield 58, 3) := by decide +kernel
theorem dMM_init_147 : decode cMM_init 147 = .ok (.aload_n 0, 1) := by decide +kernel
theorem dMM_init_148 : decode cMM_init 148 = .ok (.sipush 1800, 3) := by decide +kernel
theorem dMM_init_151 : decode cMM_init 151 = .ok (.newarray .int, 2) := by decide +kernel
theorem dMM_init_153 : decode cMM_init 153 = .ok (.putfield 61, 3) := by decide +kernel
theorem dMM_init_156 : decode cMM_init 156 = .ok (.return_, 1) := by decide +kernel
theorem dMM_thrown_0 : decode cMM_thrown 0 = .ok (.aload_n 0, 1) := by decide +kernel
theorem dMM_thrown_1 : decode cMM_thrown 1 = .ok (.getfield 64, 3) := by decide +kernel
theorem dMM_thrown_4 : decode cMM_thrown 4 = .ok (.ireturn, 1) := by decide +kernel
theorem dMM_refuse_0 : decode cMM_refuse 0 = .ok (.aload_n 0, 1) := by decide +kernel
theorem dMM_refuse_1 : decode cMM_refuse 1 = .ok (.iload_n 1, 1) := by decide +kernel
theorem dMM_refuse_2 : decode cMM_refuse 2 = .ok (.ifCond .eq 7, 3) := by decide +kernel
theorem dMM_refuse_5 : decode cMM_refuse 5 = .ok (.iconst 1, 1) := by decide +kernel
theorem dMM_refuse_6 : decode cMM_refuse 6 = .ok (.goto 12, 3) := by decide +kernel
theorem dMM_refuse_9 : decode cMM_refuse 9 = .ok (.iload_n 2, 1) := by decide +kernel
theorem dMM_refuse_10 : decode cMM_refuse 10 = .ok (.ifCond .eq 7, 3) := by decide +kernel
theorem dMM_refuse_13 : decode cMM_refuse 13 = .ok (.iconst 2, 1) := by decide +kernel
theorem dMM_refuse_14 : decode cMM_refuse 14 = .ok (.goto 4, 3) := by decide +kernel
theorem dMM_refuse_17 : decode cMM_refuse 17 = .ok (.iconst 0, 1) := by decide +kernel
theorem dMM_refuse_18 : decode cMM_refuse 18 = .ok (.putfield 64, 3) := by decide +kernel
theorem dMM_refuse_21 : decode cMM_refuse 21 = .ok (.aload_n 0, 1) := by decide +kernel
theorem dMM_refuse_22 : decode cMM_refuse 22 = .ok (.getfield 64, 3) := by decide +kernel
theorem dMM_refuse_25 : decode cMM_refuse 25 = .ok (.ifCond .le 7, 3) := by decide +kernel
theorem dMM_refuse_28 : decode cMM_refuse 28 = .ok (.iconst 1, 1) := by decide +kernel
theorem dMM_refuse_29 : decode cMM_refuse 29 = .ok (.goto 4, 3) := by decide +kernel
theorem dMM_refuse_32 : decode cMM_refuse 32 = .ok (.iconst 0, 1) := by decide +kernel
theorem dMM_refuse_33 : decode cMM_refuse 33 = .ok (.ireturn, 1) := by decide +kernel
theorem dMM_isRow_0 : decode cMM_isRow 0 = .ok (.iload_n 0, 1) := by decide +kernel
theorem dMM_isRow_1 : decode cMM_isRow 1 = .ok (.ifCond .lt 13, 3) := by decide +kernel
theorem dMM_isRow_4 : decode cMM_isRow 4 = .ok (.iload_n 0, 1) := by decide +kernel
theorem dMM_isRow_5 : decode cMM_isRow 5 = .ok (.bipush 6, 2) := by decide +kernel
theorem dMM_isRow_7 : decode cMM_isRow 7 = .ok (.if_icmp .ge 7, 3) := by decide +kernel
theorem dMM_isRow_10 : decode cMM_isRow 10 = .ok (.iconst 1, 1) := by decide +kernel
theorem dMM_isRow_11 : decode cMM_isRow 11 = .ok (.goto 4, 3) := by decide +kernel
theorem dMM_isRow_14 : decode cMM_isRow 14 = .ok (.iconst 0, 1) := by decide +kernel
theorem dMM_isRow_15 : decode cMM_isRow 15 = .ok (.ireturn, 1) := by decide +kernel
theorem dMM_put_0 : decode cMM_put 0 = .ok (.iload_n 1, 1) := by decide +kernel
theorem dMM_put_1 : decode cMM_put 1 = .ok (.invokestatic 68, 3) := by decide +kernel
theorem dMM_put_4 : decode cMM_put 4 = .ok (.istore_n 3, 1) := by decide +kernel
theorem dMM_put_5 : decode cMM_put 5 = .ok (.aload_n 0, 1) := by decide +kernel
theorem dMM_put_6 : decode cMM_put 6 = .ok (.iload_n 3, 1) := by decide +kernel
theorem dMM_put_7 : decode cMM_put 7 = .ok (.ifCond .ne 7, 3) := by decide +kernel
theorem dMM_put_10 : decode cMM_put 10 = .ok (.iconst 1, 1) := by decide +kernel
theorem dMM_put_11 : decode cMM_put 11 = .ok (.goto 4, 3) := by decide +kernel
theorem dMM_put_14 : decode cMM_put 14 = .ok (.iconst 0, 1) := by decide +kernel
theorem dMM_put_15 : decode cMM_put 15 = .ok (.iload_n 3, 1) := by decide +kernel
theorem dMM_put_16 : decode cMM_put 16 = .ok (.ifCond .eq 26, 3) := by decide +kernel
theorem dMM_put_19 : decode cMM_put 19 = .ok (.aload_n 0, 1) := by decide +kernel
theorem dMM_put_20 : decode cMM_put 20 = .ok (.getfield 7, 3) := by decide +kernel
theorem dMM_put_23 : decode cMM_put 23 = .ok (.iload_n 3, 1) := by decide +kernel
theorem dMM_put_24 : decode cMM_put 24 = .ok (.ifCond .eq 7, 3) := by decide +kernel
theorem dMM_put_27 : decode cMM_put 27 = .ok (.iload_n 1, 1) := by decide +kernel
theorem dMM_put_28 : decode cMM_put 28 = .ok (.goto 4, 3) := by decide +kernel
theorem dMM_put_31 : decode cMM_put 31 = .ok (.iconst 0, 1) := by decide +kernel
theorem dMM_put_32 : decode cMM_put 32 = .ok (.iaload, 1) := by decide +kernel
theorem dMM_put_33 : decode cMM_put 33 = .ok (.bipush 60, 2) := by decide +kernel
theorem dMM_put_35 : decode cMM_put 35 = .ok (.if_icmp .ne 7, 3) := by decide +kernel
theorem dMM_put_38 : decode cMM_put 38 = .ok (.iconst 1, 1) := by decide +kernel
theorem dMM_put_39 : decode cMM_put 39 = .ok (.goto 4, 3) := by decide +kernel
theorem dMM_put_42 : decode cMM_put 42 = .ok (.iconst 0, 1) := by decide +kernel
theorem dMM_put_43 : decode cMM_put 43 = .ok (.invokevirtual 72, 3) := by decide +kernel
theorem dMM_put_46 : decode cMM_put 46 = .ok (.ifCond .eq 5, 3) := by decide +kernel
theorem dMM_put_49 : decode cMM_put 49 = .ok (.iconst 0, 1) := by decide +kernel
theorem dMM_put_50 : decode cMM_put 50 = .ok (.ireturn, 1) := by decide +kernel
theorem dMM_put_51 : decode cMM_put 51 = .ok (.aload_n 0, 1) := by decide +kernel
theorem dMM_put_52 : decode cMM_put 52 = .ok (.getfield 13, 3) := by decide +kernel
theorem dMM_put_55 : decode cMM_put 55 = .ok (.bipush 60, 2) := by decide +kernel
theorem dMM_put_57 : decode cMM_put 57 = .ok (.iload_n 1, 1) := by decide +kernel
theorem dMM_put_58 : decode cMM_put 58 = .ok (.imul, 1) := by decide +kernel
theorem dMM_put_59 : decode cMM_put 59 = .ok (.aload_n 0, 1) := by decide +kernel
theorem dMM_put_60 : decode cMM_put 60 = .ok (.getfield 7, 3) := by decide +kernel
theorem dMM_put_63 : decode cMM_put 63 = .ok (.iload_n 1, 1) := by decide +kernel
theorem dMM_put_64 : decode cMM_put 64 = .ok (.iaload, 1) := by decide +kernel
theorem dMM_put_65 : decode cMM_put 65 = .ok (.iadd, 1) := by decide +kernel
theorem dMM_put_66 : decode cMM_put 66 = .ok (.iload_n 2, 1) := by decide +kernel
theorem dMM_put_67 : decode cMM_put 67 = .ok (.iastore, 1) := by decide +kernel
theorem dMM_put_68 : decode cMM_put 68 = .ok (.aload_n 0, 1) := by decide +kernel
theorem dMM_put_69 : decode cMM_put 69 = .ok (.getfield 7, 3) := by decide +kernel
theorem dMM_put_72 : decode cMM_put 72 = .ok (.iload_n 1, 1) := by decide +kernel
theorem dMM_put_73 : decode cMM_put 73 = .ok (.dup2, 1) := by decide +kernel
theorem dMM_put_74 : decode cMM_put 74 = .ok (.iaload, 1) := by decide +kernel
theorem dMM_put_75 : decode cMM_put 75 = .ok (.iconst 1, 1) := by decide +kernel
theorem dMM_put_76 : decode cMM_put 76 = .ok (.iadd, 1) := by decide +kernel
theorem dMM_put_77 : decode cMM_put 77 = .ok (.iastore, 1) := by decide +kernel
theorem dMM_put_78 : decode cMM_put 78 = .ok (.aload_n 0, 1) := by decide +kernel
theorem dMM_put_79 : decode cMM_put 79 = .ok (.getfield 7, 3) := by decide +kernel
theorem dMM_put_82 : decode cMM_put 82 = .ok (.iload_n 1, 1) := by decide +kernel
theorem dMM_put_83 : decode cMM_put 83 = .ok (.iaload, 1) := by decide +kernel
theorem dMM_put_84 : decode cMM_put 84 = .ok (.ireturn, 1) := by decide +kernel
theorem dMM_clear_0 : decode cMM_clear 0 = .ok (.aload_n 0, 1) := by decide +kernel
theorem dMM_clear_1 : decode cMM_clear 1 = .ok (.iload_n 1, 1) := by decide +kernel
theorem dMM_clear_2 : decode cMM_clear 2 = .ok (.invokestatic 68, 3) := by decide +kernel
theorem dMM_clear_5 : decode cMM_clear 5 = .ok (.ifCond .ne 7, 3) := by decide +kernel
theorem dMM_clear_8 : decode cMM_clear 8 = .ok (.iconst 1, 1) := by decide +kernel
theorem dMM_clear_9 : decode cMM_clear 9 = .ok (.goto 4, 3) := by decide +kernel
theorem dMM_clear_12 : decode cMM_clear 12 = .ok (.iconst 0, 1) := by decide +kernel
theorem dMM_clear_13 : decode cMM_clear 13 = .ok (.iconst 0, 1) := by decide +kernel
theorem dMM_clear_14 : decode cMM_clear 14 = .ok (.invokevirtual 72, 3) := by decide +kernel
theorem dMM_clear_17 : decode cMM_clear 17 = .ok (.ifCond .ne 10, 3) := by decide +kernel
theorem dMM_clear_20 : decode cMM_clear 20 = .ok (.aload_n 0, 1) := by decide +kernel
theorem dMM_clear_21 : decode cMM_clear 21 = .ok (.getfield 7, 3) := by decide +kernel
theorem dMM_clear_24 : decode cMM_clear 24 = .ok (.iload_n 1, 1) := by decide +kernel
theorem dMM_clear_25 : decode cMM_clear 25 = .ok (.iconst 0, 1) := by decide +kernel
theorem dMM_clear_26 : decode cMM_clear 26 = .ok (.iastore, 1) := by decide +kernel
theorem dMM_clear_27 : decode cMM_clear 27 = .ok (.return_, 1) := by decide +kernel
theorem dMM_size_0 : decode cMM_size 0 = .ok (.aload_n 0, 1) := by decide +kernel
theorem dMM_size_1 : decode cMM_size 1 = .ok (.iload_n 1, 1) := by decide +kernel
theorem dMM_size_2 : decode cMM_size 2 = .ok (.invokestatic 68, 3) := by decide +kernel
theorem dMM_size_5 : decode cMM_size 5 = .ok (.ifCond .ne 7, 3) := by decide +kernel
theorem dMM_size_8 : decode cMM_size 8 = .ok (.iconst 1, 1) := by decide +kernel
theorem dMM_size_9 : decode cMM_size 9 = .ok (.goto 4, 3) := by decide +kernel
theorem dMM_size_12 : decode cMM_size 12 = .ok (.iconst 0, 1) := by decide +kernel
theorem dMM_size_13 : decode cMM_size 13 = .ok (.iconst 0, 1) := by decide +kernel
theorem dMM_size_14 : decode cMM_size 14 = .ok (.invokevirtual 72, 3) := by decide +kernel
theorem dMM_size_17 : decode cMM_size 17 = .ok (.ifCond .eq 7, 3) := by decide +kernel
theorem dMM_size_20 : decode cMM_size 20 = .ok (.iconst 0, 1) := by decide +kernel
theorem dMM_size_21 : decode cMM_size 21 = .ok (.goto 9, 3) := by decide +kernel
theorem dMM_size_24 : decode cMM_size 24 = .ok (.aload_n 0, 1) := by decide +kernel
theorem dMM_size_25 : decode cMM_size 25 = .ok (.getfield 7, 3) := by decide +kernel
theorem dMM_size_28 : decode cMM_size 28 = .ok (.iload_n 1, 1) := by decide +kernel
theorem dMM_size_29 : decode cMM_size 29 = .ok (.iaload, 1) := by decide +kernel
theorem dMM_size_30 : decode cMM_size 30 = .ok (.ireturn, 1) := by decide +kernel
theorem dMM_get_0 : decode cMM_get 0 = .ok (.iload_n 1, 1) := by decide +kernel
theorem dMM_get_1 : decode cMM_get 1 = .ok (.invokestatic 68, 3) := by decide +kernel
theorem dMM_get_4 : decode cMM_get 4 = .ok (.istore_n 3, 1) := by decide +kernel
theorem dMM_get_5 : decode cMM_get 5 = .ok (.aload_n 0, 1) := by decide +kernel
theorem dMM_get_6 : decode cMM_get 6 = .ok (.iload_n 3, 1) := by decide +kernel
theorem dMM_get_7 : decode cMM_get 7 = .ok (.ifCond .ne 7, 3) := by decide +kernel
theorem dMM_get_10 : decode cMM_get 10 = .ok (.iconst 1, 1) := by decide +kernel
theorem dMM_get_11 : decode cMM_get 11 = .ok (.goto 4, 3) := by decide +kernel
theorem dMM_get_14 : decode cMM_get 14 = .ok (.iconst 0, 1) := by decide +kernel
theorem dMM_get_15 : decode cMM_get 15 = .ok (.iload_n 3, 1) := by decide +kernel
theorem dMM_get_16 : decode cMM_get 16 = .ok (.ifCond .eq 29, 3) := by decide +kernel
theorem dMM_get_19 : decode cMM_get 19 = .ok (.iload_n 2, 1) := by decide +kernel
theorem dMM_get_20 : decode cMM_get 20 = .ok (.ifCond .lt 21, 3) := by decide +kernel
theorem dMM_get_23 : decode cMM_get 23 = .ok (.iload_n 2, 1) := by decide +kernel
theorem dMM_get_24 : decode cMM_get 24 = .ok (.aload_n 0, 1) := by decide +kernel
theorem dMM_get_25 : decode cMM_get 25 = .ok (.getfield 7, 3) := by decide +kernel
theorem dMM_get_28 : decode cMM_get 28 = .ok (.iload_n 3, 1) := by decide +kernel
theorem dMM_get_29 : decode cMM_get 29 = .ok (.ifCond .eq 7, 3) := by decide +kernel
theorem dMM_get_32 : decode cMM_get 32 = .ok (.iload_n 1, 1) := by decide +kernel
theorem dMM_get_33 : decode cMM_get 33 = .ok (.goto 4, 3) := by decide +kernel
theorem dMM_get_36 : decode cMM_get 36 = .ok (.iconst 0, 1) := by decide +kernel
theorem dMM_get_37 : decode cMM_get 37 = .ok (.iaload, 1) := by decide +kernel
theorem dMM_get_38 : decode cMM_get 38 = .ok (.if_icmp .lt 7, 3) := by decide +kernel
theorem dMM_get_41 : decode cMM_get 41 = .ok (.iconst 1, 1) := by decide +kernel
theorem dMM_get_42 : decode cMM_get 42 = .ok (.goto 4, 3) := by decide +kernel
theorem dMM_get_45 : decode cMM_get 45 = .ok (.iconst 0, 1) := by decide +kernel
theorem dMM_get_46 : decode cMM_get 46 = .ok (.invokevirtual 72, 3) := by decide +kernel
theorem dMM_get_49 : decode cMM_get 49 = .ok (.ifCond .eq 5, 3) := by decide +kernel
theorem dMM_get_52 : decode cMM_get 52 = .ok (.iconst 0, 1) := by decide +kernel
theorem dMM_get_53 : decode cMM_get 53 = .ok (.ireturn, 1) := by decide +kernel
theorem dMM_get_54 : decode cMM_get 54 = .ok (.aload_n 0, 1) := by decide +kernel
theorem dMM_get_55 : decode cMM_get 55 = .ok (.getfield 13, 3) := by decide +kernel
theorem dMM_get_58 : decode cMM_get 58 = .ok (.bipush 60, 2) := by decide +kernel
theorem dMM_get_60 : decode cMM_get 60 = .ok (.iload_n 1, 1) := by decide +kernel
theorem dMM_get_61 : decode cMM_get 61 = .ok (.imul, 1) := by decide +kernel
theorem dMM_get_62 : decode cMM_get 62 = .ok (.iload_n 2, 1) := by decide +kernel
theorem dMM_get_63 : decode cMM_get 63 = .ok (.iadd, 1) := by decide +kernel
theorem dMM_get_64 : decode cMM_get 64 = .ok (.iaload, 1) := by decide +kernel
theorem dMM_get_65 : decode cMM_get 65 = .ok (.ireturn, 1) := by decide +kernel
theorem dMM_first_0 : decode cMM_first 0 = .ok (.aload_n 0, 1) := by decide +kernel
theorem dMM_first_1 : decode cMM_first 1 = .ok (.iload_n 3, 1) := by decide +kernel
theorem dMM_first_2 : decode cMM_first 2 = .ok (.putfield 76, 3) := by decide +kernel
theorem dMM_first_5 : decode cMM_first 5 = .ok (.iconst 0, 1) := by decide +kernel
theorem dMM_first_6 : decode cMM_first 6 = .ok (.istore 4, 2) := by decide +kernel
theorem dMM_first_8 : decode cMM_first 8 = .ok (.iload 4, 2) := by decide +kernel
theorem dMM_first_10 : decode cMM_first 10 = .ok (.iload_n 3, 1) := by decide +kernel
theorem dMM_first_11 : decode cMM_first 11 = .ok (.if_icmp .ge 22, 3) := by decide +kernel
theorem dMM_first_14 : decode cMM_first 14 = .ok (.aload_n 0, 1) := by decide +kernel
theorem dMM_first_15 : decode cMM_first 15 = .ok (.getfield 16, 3) := by decide +kernel
theorem dMM_first_18 : decode cMM_first 18 = .ok (.iload 4, 2) := by decide +kernel
theorem dMM_first_20 : decode cMM_first 20 = .ok (.aload_n 1, 1) := by decide +kernel
theorem dMM_first_21 : decode cMM_first 21 = .ok (.iload_n 2, 1) := by decide +kernel
theorem dMM_first_22 : decode cMM_first 22 = .ok (.iload 4, 2) := by decide +kernel
theorem dMM_first_24 : decode cMM_first 24 = .ok (.iadd, 1) := by decide +kernel
theorem dMM_first_25 : decode cMM_first 25 = .ok (.iaload, 1) := by decide +kernel
theorem dMM_first_26 : decode cMM_first 26 = .ok (.iastore, 1) := by decide +kernel
theorem dMM_first_27 : decode cMM_first 27 = .ok (.iinc 4 1, 3) := by decide +kernel
theorem dMM_first_30 : decode cMM_first 30 = .ok (.goto (-22), 3) := by decide +kernel
theorem dMM_first_33 : decode cMM_first 33 = .ok (.return_, 1) := by decide +kernel
theorem dMM_second_0 : decode cMM_second 0 = .ok (.aload_n 0, 1) := by decide +kernel
theorem dMM_second_1 : decode cMM_second 1 = .ok (.iload_n 3, 1) := by decide +kernel
theorem dMM_second_2 : decode cMM_second 2 = .ok (.putfield 79, 3) := by decide +kernel
theorem dMM_second_5 : decode cMM_second 5 = .ok (.iconst 0, 1) := by decide +kernel
theorem dMM_second_6 : decode cMM_second 6 = .ok (.istore 4, 2) := by decide +kernel
theorem dMM_second_8 : decode cMM_second 8 = .ok (.iload 4, 2) := by decide +kernel
theorem dMM_second_10 : decode cMM_second 10 = .ok (.iload_n 3, 1) := by decide +kernel
theorem dMM_second_11 : decode cMM_second 11 = .ok (.if_icmp .ge 22, 3) := by decide +kernel
theorem dMM_second_14 : decode cMM_second 14 = .ok (.aload_n 0, 1) := by decide +kernel
theorem dMM_second_15 : decode cMM_second 15 = .ok (.getfield 19, 3) := by decide +kernel
theorem dMM_second_18 : decode cMM_second 18 = .ok (.iload 4, 2) := by decide +kernel
theorem dMM_second_20 : decode cMM_second 20 = .ok (.aload_n 1, 1) := by decide +kernel
theorem dMM_second_21 : decode cMM_second 21 = .ok (.iload_n 2, 1) := by decide +kernel
theorem dMM_second_22 : decode cMM_second 22 = .ok (.iload 4, 2) := by decide +kernel
theorem dMM_second_24 : decode cMM_second 24 = .ok (.iadd, 1) := by decide +kernel
theorem dMM_second_25 : decode cMM_second 25 = .ok (.iaload, 1) := by decide +kernel
theorem dMM_second_26 : decode cMM_second 26 = .ok (.iastore, 1) := by decide +kernel
theorem dMM_second_27 : decode cMM_second 27 = .ok (.iinc 4 1, 3) := by decide +kernel
theorem dMM_second_30 : decode cMM_second 30 = .ok (.goto (-22), 3) := by decide +kernel
theorem dMM_second_33 : decode cMM_second 33 = .ok (.return_, 1) := by decide +kernel
theorem dMM_rows_0 : decode cMM_rows 0 = .ok (.aload_n 0, 1) := by decide +kernel
theorem dMM_rows_1 : decode cMM_rows 1 = .ok (.aload_n 0, 1) := by decide +kernel
theorem dMM_rows_2 : decode cMM_rows 2 = .ok (.getfield 13, 3) := by decide +kernel
theorem dMM_rows_5 : decode cMM_rows 5 = .ok (.bipush 60, 2) := by decide +kernel
theorem dMM_rows_7 : decode cMM_rows 7 = .ok (.iload_n 1, 1) := by decide +kernel
theorem dMM_rows_8 : decode cMM_rows 8 = .ok (.imul, 1) := by decide +kernel
theorem dMM_rows_9 : decode cMM_rows 9 = .ok (.aload_n 0, 1) := by decide +kernel
theorem dMM_rows_10 : decode cMM_rows 10 = .ok (.getfield 7, 3) := by decide +kernel
theorem dMM_rows_13 : decode cMM_rows 13 = .ok (.iload_n 1, 1) := by decide +kernel
theorem dMM_rows_14 : decode cMM_rows 14 = .ok (.iaload, 1) := by decide +kernel
theorem dMM_rows_15 : decode cMM_rows 15 = .ok (.invokevirtual 82, 3) := by decide +kernel
theorem dMM_rows_18 : decode cMM_rows 18 = .ok (.aload_n 0, 1) := by decide +kernel
theorem dMM_rows_19 : decode cMM_rows 19 = .ok (.aload_n 0, 1) := by decide +kernel
theorem dMM_rows_20 : decode cMM_rows 20 = .ok (.getfield 13, 3) := by decide +kernel
theorem dMM_rows_23 : decode cMM_rows 23 = .ok (.bipush 60, 2) := by decide +kernel
theorem dMM_rows_25 : decode cMM_rows 25 = .ok (.iload_n 2, 1) := by decide +kernel
theorem dMM_rows_26 : decode cMM_rows 26 = .ok (.imul, 1) := by decide +kernel
theorem dMM_rows_27 : decode cMM_rows 27 = .ok (.aload_n 0, 1) := by decide +kernel
theorem dMM_rows_28 : decode cMM_rows 28 = .ok (.getfield 7, 3) := by decide +kernel
theorem dMM_rows_31 : decode cMM_rows 31 = .ok (.iload_n 2, 1) := by decide +kernel
theorem dMM_rows_32 : decode cMM_rows 32 = .ok (.iaload, 1) := by decide +kernel
theorem dMM_rows_33 : decode cMM_rows 33 = .ok (.invokevirtual 86, 3) := by decide +kernel
theorem dMM_rows_36 : decode cMM_rows 36 = .ok (.return_, 1) := by decide +kernel
theorem dMM_compare_0 : decode cMM_compare 0 = .ok (.aload_n 0, 1) := by decide +kernel
theorem dMM_compare_1 : decode cMM_compare 1 = .ok (.getfield 76, 3) := by decide +kernel
theorem dMM_compare_4 : decode cMM_compare 4 = .ok (.istore_n 1, 1) := by decide +kernel
theorem dMM_compare_5 : decode cMM_compare 5 = .ok (.iload_n 1, 1) := by decide +kernel
theorem dMM_compare_6 : decode cMM_compare 6 = .ok (.ifCond .lt 150, 3) := by decide +kernel
theorem dMM_compare_9 : decode cMM_compare 9 = .ok (.aload_n 0, 1) := by decide +kernel
theorem dMM_compare_10 : decode cMM_compare 10 = .ok (.getfield 79, 3) := by decide +kernel
theorem dMM_compare_13 : decode cMM_compare 13 = .ok (.istore_n 2, 1) := by decide +kernel
theorem dMM_compare_14 : decode cMM_compare 14 = .ok (.iload_n 2, 1) := by decide +kernel
theorem dMM_compare_15 : decode cMM_compare 15 = .ok (.ifCond .lt 135, 3) := by decide +kernel
theorem dMM_compare_18 : decode cMM_compare 18 = .ok (.iconst 0, 1) := by decide +kernel
theorem dMM_compare_19 : decode cMM_compare 19 = .ok (.istore_n 3, 1) := by decide +kernel
theorem dMM_compare_20 : decode cMM_compare 20 = .ok (.iload_n 1, 1) := by decide +kernel
theorem dMM_compare_21 : decode cMM_compare 21 = .ok (.aload_n 0, 1) := by decide +kernel
theorem dMM_compare_22 : decode cMM_compare 22 = .ok (.getfield 76, 3) := by decide +kernel
theorem dMM_compare_25 : decode cMM_compare 25 = .ok (.if_icmp .ge 107, 3) := by decide +kernel
theorem dMM_compare_28 : decode cMM_compare 28 = .ok (.iload_n 2, 1) := by decide +kernel
theorem dMM_compare_29 : decode cMM_compare 29 = .ok (.aload_n 0, 1) := by decide +kernel
theorem dMM_compare_30 : decode cMM_compare 30 = .ok (.getfield 79, 3) := by decide +kernel
theorem dMM_compare_33 : decode cMM_compare 33 = .ok (.if_icmp .ge 99, 3) := by decide +kernel
theorem dMM_compare_36 : decode cMM_compare 36 = .ok (.aload_n 0, 1) := by decide +kernel
theorem dMM_compare_37 : decode cMM_compare 37 = .ok (.getfield 22, 3) := by decide +kernel
theorem dMM_compare_40 : decode cMM_compare 40 = .ok (.bipush 61, 2) := by decide +kernel
theorem dMM_compare_42 : decode cMM_compare 42 = .ok (.iload_n 1, 1) := by decide +kernel
theorem dMM_compare_43 : decode cMM_compare 43 = .ok (.iconst 1, 1) := by decide +kernel
theorem dMM_compare_44 : decode cMM_compare 44 = .ok (.iadd, 1) := by decide +kernel
theorem dMM_compare_45 : decode cMM_compare 45 = .ok (.imul, 1) := by decide +kernel
theorem dMM_compare_46 : decode cMM_compare 46 = .ok (.iload_n 2, 1) := by decide +kernel
theorem dMM_compare_47 : decode cMM_compare 47 = .ok (.iadd, 1) := by decide +kernel
theorem dMM_compare_48 : decode cMM_compare 48 = .ok (.iaload, 1) := by decide +kernel
theorem dMM_compare_49 : decode cMM_compare 49 = .ok (.istore 4, 2) := by decide +kernel
theorem dMM_compare_51 : decode cMM_compare 51 = .ok (.aload_n 0, 1) := by decide +kernel
theorem dMM_compare_52 : decode cMM_compare 52 = .ok (.getfield 22, 3) := by decide +kernel
theorem dMM_compare_55 : decode cMM_compare 55 = .ok (.bipush 61, 2) := by decide +kernel
theorem dMM_compare_57 : decode cMM_compare 57 = .ok (.iload_n 1, 1) := by decide +kernel
theorem dMM_compare_58 : decode cMM_compare 58 = .ok (.imul, 1) := by decide +kernel
theorem dMM_compare_59 : decode cMM_compare 59 = .ok (.iload_n 2, 1) := by decide +kernel
theorem dMM_compare_60 : decode cMM_compare 60 = .ok (.iadd, 1) := by decide +kernel
theorem dMM_compare_61 : decode cMM_compare 61 = .ok (.iconst 1, 1) := by decide +kernel
theorem dMM_compare_62 : decode cMM_compare 62 = .ok (.iadd, 1) := by decide +kernel
theorem dMM_compare_63 : decode cMM_compare 63 = .ok (.iaload, 1) := by decide +kernel
theorem dMM_compare_64 : decode cMM_compare 64 = .ok (.istore 5, 2) := by decide +kernel
theorem dMM_compare_66 : decode cMM_compare 66 = .ok (.iload 4, 2) := by decide +kernel
theorem dMM_compare_68 : decode cMM_compare 68 = .ok (.iload 5, 2) := by decide +kernel
theorem dMM_compare_70 : decode cMM_compare 70 = .ok (.if_icmp .le 8, 3) := by decide +kernel
theorem dMM_compare_73 : decode cMM_compare 73 = .ok (.iload 4, 2) := by decide +kernel
theorem dMM_compare_75 : decode cMM_compare 75 = .ok (.goto 5, 3) := by decide +kernel
theorem dMM_compare_78 : decode cMM_compare 78 = .ok (.iload 5, 2) := by decide +kernel
theorem dMM_compare_80 : decode cMM_compare 80 = .ok (.istore_n 3, 1) := by decide +kernel
theorem dMM_compare_81 : decode cMM_compare 81 = .ok (.aload_n 0, 1) := by decide +kernel
theorem dMM_compare_82 : decode cMM_compare 82 = .ok (.getfield 16, 3) := by decide +kernel
theorem dMM_compare_85 : decode cMM_compare 85 = .ok (.iload_n 1, 1) := by decide +kernel
theorem dMM_compare_86 : decode cMM_compare 86 = .ok (.iaload, 1) := by decide +kernel
theorem dMM_compare_87 : decode cMM_compare 87 = .ok (.aload_n 0, 1) := by decide +kernel
theorem dMM_compare_88 : decode cMM_compare 88 = .ok (.getfield 19, 3) := by decide +kernel
theorem dMM_compare_91 : decode cMM_compare 91 = .ok (.iload_n 2, 1) := by decide +kernel
theorem dMM_compare_92 : decode cMM_compare 92 = .ok (.iaload, 1) := by decide +kernel
theorem dMM_compare_93 : decode cMM_compare 93 = .ok (.if_icmp .ne 23, 3) := by decide +kernel
theorem dMM_compare_96 : decode cMM_compare 96 = .ok (.iconst 1, 1) := by decide +kernel
theorem dMM_compare_97 : decode cMM_compare 97 = .ok (.aload_n 0, 1) := by decide +kernel
theorem dMM_compare_98 : decode cMM_compare 98 = .ok (.getfield 22, 3) := by decide +kernel
theorem dMM_compare_101 : decode cMM_compare 101 = .ok (.bipush 61, 2) := by decide +kernel
theorem dMM_compare_103 : decode cMM_compare 103 = .ok (.iload_n 1, 1) := by decide +kernel
theorem dMM_compare_104 : decode cMM_compare 104 = .ok (.iconst 1, 1) := by decide +kernel
theorem dMM_compare_105 : decode cMM_compare 105 = .ok (.iadd, 1) := by decide +kernel
theorem dMM_compare_106 : decode cMM_compare 106 = .ok (.imul, 1) := by decide +kernel
theorem dMM_compare_107 : decode cMM_compare 107 = .ok (.iload_n 2, 1) := by decide +kernel
theorem dMM_compare_108 : decode cMM_compare 108 = .ok (.iadd, 1) := by decide +kernel
theorem dMM_compare_109 : decode cMM_compare 109 = .ok (.iconst 1, 1) := by decide +kernel
theorem dMM_compare_110 : decode cMM_compare 110 = .ok (.iadd, 1) := by decide +kernel
theorem dMM_compare_111 : decode cMM_compare 111 = .ok (.iaload, 1) := by decide +kernel
theorem dMM_compare_112 : decode cMM_compare 112 = .ok (.iadd, 1) := by decide +kernel
theorem dMM_compare_113 : decode cMM_compare 113 = .ok (.goto 4, 3) := by decide +kernel
theorem dMM_compare_116 : decode cMM_compare 116 = .ok (.iconst 0, 1) := by decide +kernel
theorem dMM_compare_117 : decode cMM_compare 117 = .ok (.istore 6, 2) := by decide +kernel
theorem dMM_compare_119 : decode cMM_compare 119 = .ok (.iload 6, 2) := by decide +kernel
theorem dMM_compare_121 : decode cMM_compare 121 = .ok (.iload_n 3, 1) := by decide +kernel
theorem dMM_compare_122 : decode cMM_compare 122 = .ok (.if_icmp .le 8, 3) := by decide +kernel
theorem dMM_compare_125 : decode cMM_compare 125 = .ok (.iload 6, 2) := by decide +kernel
theorem dMM_compare_127 : decode cMM_compare 127 = .ok (.goto 4, 3) := by decide +kernel
theorem dMM_compare_130 : decode cMM_compare 130 = .ok (.iload_n 3, 1) := by decide +kernel
theorem dMM_compare_131 : decode cMM_compare 131 = .ok (.istore_n 3, 1) := by decide +kernel
theorem dMM_compare_132 : decode cMM_compare 132 = .ok (.aload_n 0, 1) := by decide +kernel
theorem dMM_compare_133 : decode cMM_compare 133 = .ok (.getfield 22, 3) := by decide +kernel
theorem dMM_compare_136 : decode cMM_compare 136 = .ok (.bipush 61, 2) := by decide +kernel
theorem dMM_compare_138 : decode cMM_compare 138 = .ok (.iload_n 1, 1) := by decide +kernel
theorem dMM_compare_139 : decode cMM_compare 139 = .ok (.imul, 1) := by decide +kernel
theorem dMM_compare_140 : decode cMM_compare 140 = .ok (.iload_n 2, 1) := by decide +kernel
theorem dMM_compare_141 : decode cMM_compare 141 = .ok (.iadd, 1) := by decide +kernel
theorem dMM_compare_142 : decode cMM_compare 142 = .ok (.iload_n 3, 1) := by decide +kernel
theorem dMM_compare_143 : decode cMM_compare 143 = .ok (.iastore, 1) := by decide +kernel
theorem dMM_compare_144 : decode cMM_compare 144 = .ok (.iinc 2 (-1), 3) := by decide +kernel
theorem dMM_compare_147 : decode cMM_compare 147 = .ok (.goto (-133), 3) := by decide +kernel
theorem dMM_compare_150 : decode cMM_compare 150 = .ok (.iinc 1 (-1), 3) := by decide +kernel
theorem dMM_compare_153 : decode cMM_compare 153 = .ok (.goto (-148), 3) := by decide +kernel
theorem dMM_compare_156 : decode cMM_compare 156 = .ok (.iconst 0, 1) := by decide +kernel
theorem dMM_compare_157 : decode cMM_compare 157 = .ok (.istore_n 1, 1) := by decide +kernel
theorem dMM_compare_158 : decode cMM_compare 158 = .ok (.iconst 0, 1) := by decide +kernel
theorem dMM_compare_159 : decode cMM_compare 159 = .ok (.istore_n 2, 1) := by decide +kernel
theorem dMM_compare_160 : decode cMM_compare 160 = .ok (.iload_n 2, 1) := by decide +kernel
theorem dMM_compare_161 : decode cMM_compare 161 = .ok (.aload_n 0, 1) := by decide +kernel
theorem dMM_compare_162 : decode cMM_compare 162 = .ok (.getfield 76, 3) := by decide +kernel
theorem dMM_compare_165 : decode cMM_compare 165 = .ok (.if_icmp .ge 97, 3) := by decide +kernel
theorem dMM_compare_168 : decode cMM_compare 168 = .ok (.aload_n 0, 1) := by decide +kernel
theorem dMM_compare_169 : decode cMM_compare 169 = .ok (.getfield 25, 3) := by decide +kernel
theorem dMM_compare_172 : decode cMM_compare 172 = .ok (.iload_n 2, 1) := by decide +kernel
theorem dMM_compare_173 : decode cMM_compare 173 = .ok (.iconst (-1), 1) := by decide +kernel
theorem dMM_compare_174 : decode cMM_compare 174 = .ok (.iastore, 1) := by decide +kernel
theorem dMM_compare_175 : decode cMM_compare 175 = .ok (.iload_n 1, 1) := by decide +kernel
theorem dMM_compare_176 : decode cMM_compare 176 = .ok (.istore_n 3, 1) := by decide +kernel
theorem dMM_compare_177 : decode cMM_compare 177 = .ok (.iload_n 3, 1) := by decide +kernel
theorem dMM_compare_178 : decode cMM_compare 178 = .ok (.aload_n 0, 1) := by decide +kernel
theorem dMM_compare_179 : decode cMM_compare 179 = .ok (.getfield 79, 3) := by decide +kernel
theorem dMM_compare_182 : decode cMM_compare 182 = .ok (.if_icmp .ge 24, 3) := by decide +kernel
theorem dMM_compare_185 : decode cMM_compare 185 = .ok (.aload_n 0, 1) := by decide +kernel
theorem dMM_compare_186 : decode cMM_compare 186 = .ok (.getfield 19, 3) := by decide +kernel
theorem dMM_compare_189 : decode cMM_compare 189 = .ok (.iload_n 3, 1) := by decide +kernel
theorem dMM_compare_190 : decode cMM_compare 190 = .ok (.iaload, 1) := by decide +kernel
theorem dMM_compare_191 : decode cMM_compare 191 = .ok (.aload_n 0, 1) := by decide +kernel
theorem dMM_compare_192 : decode cMM_compare 192 = .ok (.getfield 16, 3) := by decide +kernel
theorem dMM_compare_195 : decode cMM_compare 195 = .ok (.iload_n 2, 1) := by decide +kernel
theorem dMM_compare_196 : decode cMM_compare 196 = .ok (.iaload, 1) := by decide +kernel
theorem dMM_compare_197 : decode cMM_compare 197 = .ok (.if_icmp .eq 9, 3) := by decide +kernel
theorem dMM_compare_200 : decode cMM_compare 200 = .ok (.iinc 3 1, 3) := by decide +kernel
theorem dMM_compare_203 : decode cMM_compare 203 = .ok (.goto (-26), 3) := by decide +kernel
theorem dMM_compare_206 : decode cMM_compare 206 = .ok (.iload_n 3, 1) := by decide +kernel
theorem dMM_compare_207 : decode cMM_compare 207 = .ok (.aload_n 0, 1) := by decide +kernel
theorem dMM_compare_208 : decode cMM_compare 208 = .ok (.getfield 79, 3) := by decide +kernel
theorem dMM_compare_211 : decode cMM_compare 211 = .ok (.if_icmp .ge 45, 3) := by decide +kernel
theorem dMM_compare_214 : decode cMM_compare 214 = .ok (.iconst 1, 1) := by decide +kernel
theorem dMM_compare_215 : decode cMM_compare 215 = .ok (.aload_n 0, 1) := by decide +kernel
theorem dMM_compare_216 : decode cMM_compare 216 = .ok (.getfield 22, 3) := by decide +kernel
theorem dMM_compare_219 : decode cMM_compare 219 = .ok (.bipush 61, 2) := by decide +kernel
theorem dMM_compare_221 : decode cMM_compare 221 = .ok (.iload_n 2, 1) := by decide +kernel
theorem dMM_compare_222 : decode cMM_compare 222 = .ok (.iconst 1, 1) := by decide +kernel
theorem dMM_compare_223 : decode cMM_compare 223 = .ok (.iadd, 1) := by decide +kernel
theorem dMM_compare_224 : decode cMM_compare 224 = .ok (.imul, 1) := by decide +kernel
theorem dMM_compare_225 : decode cMM_compare 225 = .ok (.iload_n 3, 1) := by decide +kernel
theorem dMM_compare_226 : decode cMM_compare 226 = .ok (.iadd, 1) := by decide +kernel
theorem dMM_compare_227 : decode cMM_compare 227 = .ok (.iconst 1, 1) := by decide +kernel
theorem dMM_compare_228 : decode cMM_compare 228 = .ok (.iadd, 1) := by decide +kernel
theorem dMM_compare_229 : decode cMM_compare 229 = .ok (.iaload, 1) := by decide +kernel
theorem dMM_compare_230 : decode cMM_compare 230 = .ok (.iadd, 1) := by decide +kernel
theorem dMM_compare_231 : decode cMM_compare 231 = .ok (.aload_n 0, 1) := by decide +kernel
theorem dMM_compare_232 : decode cMM_compare 232 = .ok (.getfield 22, 3) := by decide +kernel
theorem dMM_compare_235 : decode cMM_compare 235 = .ok (.bipush 61, 2) := by decide +kernel
theorem dMM_compare_237 : decode cMM_compare 237 = .ok (.iload_n 2, 1) := by decide +kernel
theorem dMM_compare_238 : decode cMM_compare 238 = .ok (.imul, 1) := by decide +kernel
theorem dMM_compare_239 : decode cMM_compare 239 = .ok (.iload_n 1, 1) := by decide +kernel
theorem dMM_compare_240 : decode cMM_compare 240 = .ok (.iadd, 1) := by decide +kernel
theorem dMM_compare_241 : decode cMM_compare 241 = .ok (.iaload, 1) := by decide +kernel
theorem dMM_compare_242 : decode cMM_compare 242 = .ok (.if_icmp .ne 14, 3) := by decide +kernel
theorem dMM_compare_245 : decode cMM_compare 245 = .ok (.aload_n 0, 1) := by decide +kernel
theorem dMM_compare_246 : decode cMM_compare 246 = .ok (.getfield 25, 3) := by decide +kernel
theorem dMM_compare_249 : decode cMM_compare 249 = .ok (.iload_n 2, 1) := by decide +kernel
theorem dMM_compare_250 : decode cMM_compare 250 = .ok (.iload_n 3, 1) := by decide +kernel
theorem dMM_compare_251 : decode cMM_compare 251 = .ok (.iastore, 1) := by decide +kernel
theorem dMM_compare_252 : decode cMM_compare 252 = .ok (.iload_n 3, 1) := by decide +kernel
theorem dMM_compare_253 : decode cMM_compare 253 = .ok (.iconst 1, 1) := by decide +kernel
theorem dMM_compare_254 : decode cMM_compare 254 = .ok (.iadd, 1) := by decide +kernel
theorem dMM_compare_255 : decode cMM_compare 255 = .ok (.istore_n 1, 1) := by decide +kernel
theorem dMM_compare_256 : decode cMM_compare 256 = .ok (.iinc 2 1, 3) := by decide +kernel
theorem dMM_compare_259 : decode cMM_compare 259 = .ok (.goto (-99), 3) := by decide +kernel
theorem dMM_compare_262 : decode cMM_compare 262 = .ok (.return_, 1) := by decide +kernel
theorem dMM_common_0 : decode cMM_common 0 = .ok (.aload_n 0, 1) := by decide +kernel
theorem dMM_common_1 : decode cMM_common 1 = .ok (.iload_n 1, 1) := by decide +kernel
theorem dMM_common_2 : decode cMM_common 2 = .ok (.invokestatic 68, 3) := by decide +kernel
theorem dMM_common_5 : decode cMM_common 5 = .ok (.ifCond .eq 10, 3) := by decide +kernel
theorem dMM_common_8 : decode cMM_common 8 = .ok (.iload_n 2, 1) := by decide +kernel
theorem dMM_common_9 : decode cMM_common 9 = .ok (.invokestatic 68, 3) := by decide +kernel
theorem dMM_common_12 : decode cMM_common 12 = .ok (.ifCond .ne 7, 3) := by decide +kernel
theorem dMM_common_15 : decode cMM_common 15 = .ok (.iconst 1, 1) := by decide +kernel
theorem dMM_common_16 : decode cMM_common 16 = .ok (.goto 4, 3) := by decide +kernel
theorem dMM_common_19 : decode cMM_common 19 = .ok (.iconst 0, 1) := by decide +kernel
theorem dMM_common_20 : decode cMM_common 20 = .ok (.iconst 0, 1) := by decide +kernel
theorem dMM_common_21 : decode cMM_common 21 = .ok (.invokevirtual 72, 3) := by decide +kernel
theorem dMM_common_24 : decode cMM_common 24 = .ok (.ifCond .eq 5, 3) := by decide +kernel
theorem dMM_common_27 : decode cMM_common 27 = .ok (.iconst 0, 1) := by decide +kernel
theorem dMM_common_28 : decode cMM_common 28 = .ok (.ireturn, 1) := by decide +kernel
theorem dMM_common_29 : decode cMM_common 29 = .ok (.aload_n 0, 1) := by decide +kernel
theorem dMM_common_30 : decode cMM_common 30 = .ok (.iload_n 1, 1) := by decide +kernel
theorem dMM_common_31 : decode cMM_common 31 = .ok (.iload_n 2, 1) := by decide +kernel
theorem dMM_common_32 : decode cMM_common 32 = .ok (.invokevirtual 89, 3) := by decide +kernel
theorem dMM_common_35 : decode cMM_common 35 = .ok (.aload_n 0, 1) := by decide +kernel
theorem dMM_common_36 : decode cMM_common 36 = .ok (.invokevirtual 93, 3) := by decide +kernel
theorem dMM_common_39 : decode cMM_common 39 = .ok (.aload_n 0, 1) := by decide +kernel
theorem dMM_common_40 : decode cMM_common 40 = .ok (.iconst 0, 1) := by decide +kernel
theorem dMM_common_41 : decode cMM_common 41 = .ok (.putfield 96, 3) := by decide +kernel
theorem dMM_common_44 : decode cMM_common 44 = .ok (.iconst 0, 1) := by decide +kernel
theorem dMM_common_45 : decode cMM_common 45 = .ok (.istore_n 3, 1) := by decide +kernel
theorem dMM_common_46 : decode cMM_common 46 = .ok (.iload_n 3, 1) := by decide +kernel
theorem dMM_common_47 : decode cMM_common 47 = .ok (.aload_n 0, 1) := by decide +kernel
theorem dMM_common_48 : decode cMM_common 48 = .ok (.getfield 76, 3) := by decide +kernel
theorem dMM_common_51 : decode cMM_common 51 = .ok (.if_icmp .ge 53, 3) := by decide +kernel
theorem dMM_common_54 : decode cMM_common 54 = .ok (.aload_n 0, 1) := by decide +kernel
theorem dMM_common_55 : decode cMM_common 55 = .ok (.getfield 25, 3) := by decide +kernel
theorem dMM_common_58 : decode cMM_common 58 = .ok (.iload_n 3, 1) := by decide +kernel
theorem dMM_common_59 : decode cMM_common 59 = .ok (.iaload, 1) := by decide +kernel
theorem dMM_common_60 : decode cMM_common 60 = .ok (.ifCond .lt 38, 3) := by decide +kernel
theorem dMM_common_63 : decode cMM_common 63 = .ok (.aload_n 0, 1) := by decide +kernel
theorem dMM_common_64 : decode cMM_common 64 = .ok (.getfield 28, 3) := by decide +kernel
theorem dMM_common_67 : decode cMM_common 67 = .ok (.aload_n 0, 1) := by decide +kernel
theorem dMM_common_68 : decode cMM_common 68 = .ok (.getfield 96, 3) := by decide +kernel
theorem dMM_common_71 : decode cMM_common 71 = .ok (.iload_n 3, 1) := by decide +kernel
theorem dMM_common_72 : decode cMM_common 72 = .ok (.iastore, 1) := by decide +kernel
theorem dMM_common_73 : decode cMM_common 73 = .ok (.aload_n 0, 1) := by decide +kernel
theorem dMM_common_74 : decode cMM_common 74 = .ok (.getfield 31, 3) := by decide +kernel
theorem dMM_common_77 : decode cMM_common 77 = .ok (.aload_n 0, 1) := by decide +kernel
theorem dMM_common_78 : decode cMM_common 78 = .ok (.getfield 96, 3) := by decide +kernel
theorem dMM_common_81 : decode cMM_common 81 = .ok (.aload_n 0, 1) := by decide +kernel
theorem dMM_common_82 : decode cMM_common 82 = .ok (.getfield 25, 3) := by decide +kernel
theorem dMM_common_85 : decode cMM_common 85 = .ok (.iload_n 3, 1) := by decide +kernel
theorem dMM_common_86 : decode cMM_common 86 = .ok (.iaload, 1) := by decide +kernel
theorem dMM_common_87 : decode cMM_common 87 = .ok (.iastore, 1) := by decide +kernel
theorem dMM_common_88 : decode cMM_common 88 = .ok (.aload_n 0, 1) := by decide +kernel
theorem dMM_common_89 : decode cMM_common 89 = .ok (.dup, 1) := by decide +kernel
theorem dMM_common_90 : decode cMM_common 90 = .ok (.getfield 96, 3) := by decide +kernel
theorem dMM_common_93 : decode cMM_common 93 = .ok (.iconst 1, 1) := by decide +kernel
theorem dMM_common_94 : decode cMM_common 94 = .ok (.iadd, 1) := by decide +kernel
theorem dMM_common_95 : decode cMM_common 95 = .ok (.putfield 96, 3) := by decide +kernel
theorem dMM_common_98 : decode cMM_common 98 = .ok (.iinc 3 1, 3) := by decide +kernel
theorem dMM_common_101 : decode cMM_common 101 = .ok (.goto (-55), 3) := by decide +kernel
theorem dMM_common_104 : decode cMM_common 104 = .ok (.aload_n 0, 1) := by decide +kernel
theorem dMM_common_105 : decode cMM_common 105 = .ok (.getfield 96, 3) := by decide +kernel
theorem dMM_common_108 : decode cMM_common 108 = .ok (.ireturn, 1) := by decide +kernel
theorem dMM_pair_0 : decode cMM_pair 0 = .ok (.aload_n 0, 1) := by decide +kernel
theorem dMM_pair_1 : decode cMM_pair 1 = .ok (.iload_n 1, 1) := by decide +kernel
theorem dMM_pair_2 : decode cMM_pair 2 = .ok (.ifCond .lt 20, 3) := by decide +kernel
theorem dMM_pair_5 : decode cMM_pair 5 = .ok (.iload_n 1, 1) := by decide +kernel
theorem dMM_pair_6 : decode cMM_pair 6 = .ok (.aload_n 0, 1) := by decide +kernel
theorem dMM_pair_7 : decode cMM_pair 7 = .ok (.getfield 96, 3) := by decide +kernel
theorem dMM_pair_10 : decode cMM_pair 10 = .ok (.if_icmp .ge 12, 3) := by decide +kernel
theorem dMM_pair_13 : decode cMM_pair 13 = .ok (.iload_n 2, 1) := by decide +kernel
theorem dMM_pair_14 : decode cMM_pair 14 = .ok (.ifCond .lt 8, 3) := by decide +kernel
theorem dMM_pair_17 : decode cMM_pair 17 = .ok (.iload_n 2, 1) := by decide +kernel
theorem dMM_pair_18 : decode cMM_pair 18 = .ok (.iconst 1, 1) := by decide +kernel
theorem dMM_pair_19 : decode cMM_pair 19 = .ok (.if_icmp .le 7, 3) := by decide +kernel
theorem dMM_pair_22 : decode cMM_pair 22 = .ok (.iconst 1, 1) := by decide +kernel
theorem dMM_pair_23 : decode cMM_pair 23 = .ok (.goto 4, 3) := by decide +kernel
theorem dMM_pair_26 : decode cMM_pair 26 = .ok (.iconst 0, 1) := by decide +kernel
theorem dMM_pair_27 : decode cMM_pair 27 = .ok (.iconst 0, 1) := by decide +kernel
theorem dMM_pair_28 : decode cMM_pair 28 = .ok (.invokevirtual 72, 3) := by decide +kernel
theorem dMM_pair_31 : decode cMM_pair 31 = .ok (.ifCond .eq 5, 3) := by decide +kernel
theorem dMM_pair_34 : decode cMM_pair 34 = .ok (.iconst 0, 1) := by decide +kernel
theorem dMM_pair_35 : decode cMM_pair 35 = .ok (.ireturn, 1) := by decide +kernel
theorem dMM_pair_36 : decode cMM_pair 36 = .ok (.iload_n 2, 1) := by decide +kernel
theorem dMM_pair_37 : decode cMM_pair 37 = .ok (.ifCond .ne 12, 3) := by decide +kernel
theorem dMM_pair_40 : decode cMM_pair 40 = .ok (.aload_n 0, 1) := by decide +kernel
theorem dMM_pair_41 : decode cMM_pair 41 = .ok (.getfield 28, 3) := by decide +kernel
theorem dMM_pair_44 : decode cMM_pair 44 = .ok (.iload_n 1, 1) := by decide +kernel
theorem dMM_pair_45 : decode cMM_pair 45 = .ok (.iaload, 1) := by decide +kernel
theorem dMM_pair_46 : decode cMM_pair 46 = .ok (.goto 9, 3) := by decide +kernel
theorem dMM_pair_49 : decode cMM_pair 49 = .ok (.aload_n 0, 1) := by decide +kernel
theorem dMM_pair_50 : decode cMM_pair 50 = .ok (.getfield 31, 3) := by decide +kernel
theorem dMM_pair_53 : decode cMM_pair 53 = .ok (.iload_n 1, 1) := by decide +kernel
theorem dMM_pair_54 : decode cMM_pair 54 = .ok (.iaload, 1) := by decide +kernel
theorem dMM_pair_55 : decode cMM_pair 55 = .ok (.ireturn, 1) := by decide +kernel
theorem dMM_addPart_0 : decode cMM_addPart 0 = .ok (.iload_n 2, 1) := by decide +kernel
theorem dMM_addPart_1 : decode cMM_addPart 1 = .ok (.ifCond .gt 8, 3) := by decide +kernel
theorem dMM_addPart_4 : decode cMM_addPart 4 = .ok (.iload 4, 2) := by decide +kernel
theorem dMM_addPart_6 : decode cMM_addPart 6 = .ok (.ifCond .le 68, 3) := by decide +kernel
theorem dMM_addPart_9 : decode cMM_addPart 9 = .ok (.aload_n 0, 1) := by decide +kernel
theorem dMM_addPart_10 : decode cMM_addPart 10 = .ok (.getfield 37, 3) := by decide +kernel
theorem dMM_addPart_13 : decode cMM_addPart 13 = .ok (.iconst 4, 1) := by decide +kernel
theorem dMM_addPart_14 : decode cMM_addPart 14 = .ok (.aload_n 0, 1) := by decide +kernel
theorem dMM_addPart_15 : decode cMM_addPart 15 = .ok (.getfield 99, 3) := by decide +kernel
theorem dMM_addPart_18 : decode cMM_addPart 18 = .ok (.imul, 1) := by decide +kernel
theorem dMM_addPart_19 : decode cMM_addPart 19 = .ok (.iload_n 1, 1) := by decide +kernel
theorem dMM_addPart_20 : decode cMM_addPart 20 = .ok (.iastore, 1) := by decide +kernel
theorem dMM_addPart_21 : decode cMM_addPart 21 = .ok (.aload_n 0, 1) := by decide +kernel
theorem dMM_addPart_22 : decode cMM_addPart 22 = .ok (.getfield 37, 3) := by decide +kernel
theorem dMM_addPart_25 : decode cMM_addPart 25 = .ok (.iconst 4, 1) := by decide +kernel
theorem dMM_addPart_26 : decode cMM_addPart 26 = .ok (.aload_n 0, 1) := by decide +kernel
theorem dMM_addPart_27 : decode cMM_addPart 27 = .ok (.getfield 99, 3) := by decide +kernel
theorem dMM_addPart_30 : decode cMM_addPart 30 = .ok (.imul, 1) := by decide +kernel
theorem dMM_addPart_31 : decode cMM_addPart 31 = .ok (.iconst 1, 1) := by decide +kernel
theorem dMM_addPart_32 : decode cMM_addPart 32 = .ok (.iadd, 1) := by decide +kernel
theorem dMM_addPart_33 : decode cMM_addPart 33 = .ok (.iload_n 2, 1) := by decide +kernel
theorem dMM_addPart_34 : decode cMM_addPart 34 = .ok (.iastore, 1) := by decide +kernel
theorem dMM_addPart_35 : decode cMM_addPart 35 = .ok (.aload_n 0, 1) := by decide +kernel
theorem dMM_addPart_36 : decode cMM_addPart 36 = .ok (.getfield 37, 3) := by decide +kernel
theorem dMM_addPart_39 : decode cMM_addPart 39 = .ok (.iconst 4, 1) := by decide +kernel
theorem dMM_addPart_40 : decode cMM_addPart 40 = .ok (.aload_n 0, 1) := by decide +kernel
theorem dMM_addPart_41 : decode cMM_addPart 41 = .ok (.getfield 99, 3) := by decide +kernel
theorem dMM_addPart_44 : decode cMM_addPart 44 = .ok (.imul, 1) := by decide +kernel
theorem dMM_addPart_45 : decode cMM_addPart 45 = .ok (.iconst 2, 1) := by decide +kernel
theorem dMM_addPart_46 : decode cMM_addPart 46 = .ok (.iadd, 1) := by decide +kernel
theorem dMM_addPart_47 : decode cMM_addPart 47 = .ok (.iload_n 3, 1) := by decide +kernel
theorem dMM_addPart_48 : decode cMM_addPart 48 = .ok (.iastore, 1) := by decide +kernel
theorem dMM_addPart_49 : decode cMM_addPart 49 = .ok (.aload_n 0, 1) := by decide +kernel
theorem dMM_addPart_50 : decode cMM_addPart 50 = .ok (.getfield 37, 3) := by decide +kernel
theorem dMM_addPart_53 : decode cMM_addPart 53 = .ok (.iconst 4, 1) := by decide +kernel
theorem dMM_addPart_54 : decode cMM_addPart 54 = .ok (.aload_n 0, 1) := by decide +kernel
theorem dMM_addPart_55 : decode cMM_addPart 55 = .ok (.getfield 99, 3) := by decide +kernel
theorem dMM_addPart_58 : decode cMM_addPart 58 = .ok (.imul, 1) := by decide +kernel
theorem dMM_addPart_59 : decode cMM_addPart 59 = .ok (.iconst 3, 1) := by decide +kernel
theorem dMM_addPart_60 : decode cMM_addPart 60 = .ok (.iadd, 1) := by decide +kernel
theorem dMM_addPart_61 : decode cMM_addPart 61 = .ok (.iload 4, 2) := by decide +kernel
theorem dMM_addPart_63 : decode cMM_addPart 63 = .ok (.iastore, 1) := by decide +kernel
theorem dMM_addPart_64 : decode cMM_addPart 64 = .ok (.aload_n 0, 1) := by decide +kernel
theorem dMM_addPart_65 : decode cMM_addPart 65 = .ok (.dup, 1) := by decide +kernel
theorem dMM_addPart_66 : decode cMM_addPart 66 = .ok (.getfield 99, 3) := by decide +kernel
theorem dMM_addPart_69 : decode cMM_addPart 69 = .ok (.iconst 1, 1) := by decide +kernel
theorem dMM_addPart_70 : decode cMM_addPart 70 = .ok (.iadd, 1) := by decide +kernel
theorem dMM_addPart_71 : decode cMM_addPart 71 = .ok (.putfield 99, 3) := by decide +kernel
theorem dMM_addPart_74 : decode cMM_addPart 74 = .ok (.return_, 1) := by decide +kernel
theorem dMM_cut_0 : decode cMM_cut 0 = .ok (.aload_n 0, 1) := by decide +kernel
theorem dMM_cut_1 : decode cMM_cut 1 = .ok (.iconst 0, 1) := by decide +kernel
theorem dMM_cut_2 : decode cMM_cut 2 = .ok (.putfield 99, 3) := by decide +kernel
theorem dMM_cut_5 : decode cMM_cut 5 = .ok (.iconst 0, 1) := by decide +kernel
theorem dMM_cut_6 : decode cMM_cut 6 = .ok (.istore_n 1, 1) := by decide +kernel
theorem dMM_cut_7 : decode cMM_cut 7 = .ok (.iconst 0, 1) := by decide +kernel
theorem dMM_cut_8 : decode cMM_cut 8 = .ok (.istore_n 2, 1) := by decide +kernel
theorem dMM_cut_9 : decode cMM_cut 9 = .ok (.iconst 0, 1) := by decide +kernel
theorem dMM_cut_10 : decode cMM_cut 10 = .ok (.istore_n 3, 1) := by decide +kernel
theorem dMM_cut_11 : decode cMM_cut 11 = .ok (.iload_n 3, 1) := by decide +kernel
theorem dMM_cut_12 : decode cMM_cut 12 = .ok (.aload_n 0, 1) := by decide +kernel
theorem dMM_cut_13 : decode cMM_cut 13 = .ok (.getfield 76, 3) := by decide +kernel
theorem dMM_cut_16 : decode cMM_cut 16 = .ok (.if_icmp .ge 48, 3) := by decide +kernel
theorem dMM_cut_19 : decode cMM_cut 19 = .ok (.aload_n 0, 1) := by decide +kernel
theorem dMM_cut_20 : decode cMM_cut 20 = .ok (.getfield 25, 3) := by decide +kernel
theorem dMM_cut_23 : decode cMM_cut 23 = .ok (.iload_n 3, 1) := by decide +kernel
theorem dMM_cut_24 : decode cMM_cut 24 = .ok (.iaload, 1) := by decide +kernel
theorem dMM_cut_25 : decode cMM_cut 25 = .ok (.ifCond .lt 33, 3) := by decide +kernel
theorem dMM_cut_28 : decode cMM_cut 28 = .ok (.aload_n 0, 1) := by decide +kernel
theorem dMM_cut_29 : decode cMM_cut 29 = .ok (.iload_n 1, 1) := by decide +kernel
theorem dMM_cut_30 : decode cMM_cut 30 = .ok (.iload_n 3, 1) := by decide +kernel
theorem dMM_cut_31 : decode cMM_cut 31 = .ok (.iload_n 1, 1) := by decide +kernel
theorem dMM_cut_32 : decode cMM_cut 32 = .ok (.isub, 1) := by decide +kernel
theorem dMM_cut_33 : decode cMM_cut 33 = .ok (.iload_n 2, 1) := by decide +kernel
theorem dMM_cut_34 : decode cMM_cut 34 = .ok (.aload_n 0, 1) := by decide +kernel
theorem dMM_cut_35 : decode cMM_cut 35 = .ok (.getfield 25, 3) := by decide +kernel
theorem dMM_cut_38 : decode cMM_cut 38 = .ok (.iload_n 3, 1) := by decide +kernel
theorem dMM_cut_39 : decode cMM_cut 39 = .ok (.iaload, 1) := by decide +kernel
theorem dMM_cut_40 : decode cMM_cut 40 = .ok (.iload_n 2, 1) := by decide +kernel
theorem dMM_cut_41 : decode cMM_cut 41 = .ok (.isub, 1) := by decide +kernel
theorem dMM_cut_42 : decode cMM_cut 42 = .ok (.invokevirtual 102, 3) := by decide +kernel
theorem dMM_cut_45 : decode cMM_cut 45 = .ok (.iload_n 3, 1) := by decide +kernel
theorem dMM_cut_46 : decode cMM_cut 46 = .ok (.iconst 1, 1) := by decide +kernel
theorem dMM_cut_47 : decode cMM_cut 47 = .ok (.iadd, 1) := by decide +kernel
theorem dMM_cut_48 : decode cMM_cut 48 = .ok (.istore_n 1, 1) := by decide +kernel
theorem dMM_cut_49 : decode cMM_cut 49 = .ok (.aload_n 0, 1) := by decide +kernel
theorem dMM_cut_50 : decode cMM_cut 50 = .ok (.getfield 25, 3) := by decide +kernel
theorem dMM_cut_53 : decode cMM_cut 53 = .ok (.iload_n 3, 1) := by decide +kernel
theorem dMM_cut_54 : decode cMM_cut 54 = .ok (.iaload, 1) := by decide +kernel
theorem dMM_cut_55 : decode cMM_cut 55 = .ok (.iconst 1, 1) := by decide +kernel
theorem dMM_cut_56 : decode cMM_cut 56 = .ok (.iadd, 1) := by decide +kernel
theorem dMM_cut_57 : decode cMM_cut 57 = .ok (.istore_n 2, 1) := by decide +kernel
theorem dMM_cut_58 : decode cMM_cut 58 = .ok (.iinc 3 1, 3) := by decide +kernel
theorem dMM_cut_61 : decode cMM_cut 61 = .ok (.goto (-50), 3) := by decide +kernel
theorem dMM_cut_64 : decode cMM_cut 64 = .ok (.aload_n 0, 1) := by decide +kernel
theorem dMM_cut_65 : decode cMM_cut 65 = .ok (.iload_n 1, 1) := by decide +kernel
theorem dMM_cut_66 : decode cMM_cut 66 = .ok (.aload_n 0, 1) := by decide +kernel
theorem dMM_cut_67 : decode cMM_cut 67 = .ok (.getfield 76, 3) := by decide +kernel
theorem dMM_cut_70 : decode cMM_cut 70 = .ok (.iload_n 1, 1) := by decide +kernel
theorem dMM_cut_71 : decode cMM_cut 71 = .ok (.isub, 1) := by decide +kernel
theorem dMM_cut_72 : decode cMM_cut 72 = .ok (.iload_n 2, 1) := by decide +kernel
theorem dMM_cut_73 : decode cMM_cut 73 = .ok (.aload_n 0, 1) := by decide +kernel
theorem dMM_cut_74 : decode cMM_cut 74 = .ok (.getfield 79, 3) := by decide +kernel
theorem dMM_cut_77 : decode cMM_cut 77 = .ok (.iload_n 2, 1) := by decide +kernel
theorem dMM_cut_78 : decode cMM_cut 78 = .ok (.isub, 1) := by decide +kernel
theorem dMM_cut_79 : decode cMM_cut 79 = .ok (.invokevirtual 102, 3) := by decide +kernel
theorem dMM_cut_82 : decode cMM_cut 82 = .ok (.return_, 1) := by decide +kernel
theorem dMM_hunks_0 : decode cMM_hunks 0 = .ok (.aload_n 0, 1) := by decide +kernel
theorem dMM_hunks_1 : decode cMM_hunks 1 = .ok (.iload_n 1, 1) := by decide +kernel
theorem dMM_hunks_2 : decode cMM_hunks 2 = .ok (.invokestatic 68, 3) := by decide +kernel
theorem dMM_hunks_5 : decode cMM_hunks 5 = .ok (.ifCond .eq 10, 3) := by decide +kernel
theorem dMM_hunks_8 : decode cMM_hunks 8 = .ok (.iload_n 2, 1) := by decide +kernel
theorem dMM_hunks_9 : decode cMM_hunks 9 = .ok (.invokestatic 68, 3) := by decide +kernel
theorem dMM_hunks_12 : decode cMM_hunks 12 = .ok (.ifCond .ne 7, 3) := by decide +kernel
theorem dMM_hunks_15 : decode cMM_hunks 15 = .ok (.iconst 1, 1) := by decide +kernel
theorem dMM_hunks_16 : decode cMM_hunks 16 = .ok (.goto 4, 3) := by decide +kernel
theorem dMM_hunks_19 : decode cMM_hunks 19 = .ok (.iconst 0, 1) := by decide +kernel
theorem dMM_hunks_20 : decode cMM_hunks 20 = .ok (.iconst 0, 1) := by decide +kernel
theorem dMM_hunks_21 : decode cMM_hunks 21 = .ok (.invokevirtual 72, 3) := by decide +kernel
theorem dMM_hunks_24 : decode cMM_hunks 24 = .ok (.ifCond .eq 5, 3) := by decide +kernel
theorem dMM_hunks_27 : decode cMM_hunks 27 = .ok (.iconst 0, 1) := by decide +kernel
theorem dMM_hunks_28 : decode cMM_hunks 28 = .ok (.ireturn, 1) := by decide +kernel
theorem dMM_hunks_29 : decode cMM_hunks 29 = .ok (.aload_n 0, 1) := by decide +kernel
theorem dMM_hunks_30 : decode cMM_hunks 30 = .ok (.iload_n 1, 1) := by decide +kernel
theorem dMM_hunks_31 : decode cMM_hunks 31 = .ok (.iload_n 2, 1) := by decide +kernel
theorem dMM_hunks_32 : decode cMM_hunks 32 = .ok (.invokevirtual 89, 3) := by decide +kernel
theorem dMM_hunks_35 : decode cMM_hunks 35 = .ok (.aload_n 0, 1) := by decide +kernel
theorem dMM_hunks_36 : decode cMM_hunks 36 = .ok (.invokevirtual 93, 3) := by decide +kernel
theorem dMM_hunks_39 : decode cMM_hunks 39 = .ok (.aload_n 0, 1) := by decide +kernel
theorem dMM_hunks_40 : decode cMM_hunks 40 = .ok (.invokevirtual 106, 3) := by decide +kernel
theorem dMM_hunks_43 : decode cMM_hunks 43 = .ok (.aload_n 0, 1) := by decide +kernel
theorem dMM_hunks_44 : decode cMM_hunks 44 = .ok (.aload_n 0, 1) := by decide +kernel
theorem dMM_hunks_45 : decode cMM_hunks 45 = .ok (.getfield 99, 3) := by decide +kernel
theorem dMM_hunks_48 : decode cMM_hunks 48 = .ok (.putfield 109, 3) := by decide +kernel
theorem dMM_hunks_51 : decode cMM_hunks 51 = .ok (.iconst 0, 1) := by decide +kernel
theorem dMM_hunks_52 : decode cMM_hunks 52 = .ok (.istore_n 3, 1) := by decide +kernel
theorem dMM_hunks_53 : decode cMM_hunks 53 = .ok (.iload_n 3, 1) := by decide +kernel
theorem dMM_hunks_54 : decode cMM_hunks 54 = .ok (.iconst 4, 1) := by decide +kernel
theorem dMM_hunks_55 : decode cMM_hunks 55 = .ok (.aload_n 0, 1) := by decide +kernel
theorem dMM_hunks_56 : decode cMM_hunks 56 = .ok (.getfield 99, 3) := by decide +kernel
theorem dMM_hunks_59 : decode cMM_hunks 59 = .ok (.imul, 1) := by decide +kernel
theorem dMM_hunks_60 : decode cMM_hunks 60 = .ok (.if_icmp .ge 21, 3) := by decide +kernel
theorem dMM_hunks_63 : decode cMM_hunks 63 = .ok (.aload_n 0, 1) := by decide +kernel
theorem dMM_hunks_64 : decode cMM_hunks 64 = .ok (.getfield 34, 3) := by decide +kernel
theorem dMM_hunks_67 : decode cMM_hunks 67 = .ok (.iload_n 3, 1) := by decide +kernel
theorem dMM_hunks_68 : decode cMM_hunks 68 = .ok (.aload_n 0, 1) := by decide +kernel
theorem dMM_hunks_69 : decode cMM_hunks 69 = .ok (.getfield 37, 3) := by decide +kernel
theorem dMM_hunks_72 : decode cMM_hunks 72 = .ok (.iload_n 3, 1) := by decide +kernel
theorem dMM_hunks_73 : decode cMM_hunks 73 = .ok (.iaload, 1) := by decide +kernel
theorem dMM_hunks_74 : decode cMM_hunks 74 = .ok (.iastore, 1) := by decide +kernel
theorem dMM_hunks_75 : decode cMM_hunks 75 = .ok (.iinc 3 1, 3) := by decide +kernel
theorem dMM_hunks_78 : decode cMM_hunks 78 = .ok (.goto (-25), 3) := by decide +kernel
theorem dMM_hunks_81 : decode cMM_hunks 81 = .ok (.aload_n 0, 1) := by decide +kernel
theorem dMM_hunks_82 : decode cMM_hunks 82 = .ok (.getfield 109, 3) := by decide +kernel
theorem dMM_hunks_85 : decode cMM_hunks 85 = .ok (.ireturn, 1) := by decide +kernel
theorem dMM_hunk_0 : decode cMM_hunk 0 = .ok (.aload_n 0, 1) := by decide +kernel
theorem dMM_hunk_1 : decode cMM_hunk 1 = .ok (.iload_n 1, 1) := by decide +kernel
theorem dMM_hunk_2 : decode cMM_hunk 2 = .ok (.ifCond .lt 20, 3) := by decide +kernel
theorem dMM_hunk_5 : decode cMM_hunk 5 = .ok (.iload_n 1, 1) := by decide +kernel
theorem dMM_hunk_6 : decode cMM_hunk 6 = .ok (.aload_n 0, 1) := by decide +kernel
theorem dMM_hunk_7 : decode cMM_hunk 7 = .ok (.getfield 109, 3) := by decide +kernel
theorem dMM_hunk_10 : decode cMM_hunk 10 = .ok (.if_icmp .ge 12, 3) := by decide +kernel
theorem dMM_hunk_13 : decode cMM_hunk 13 = .ok (.iload_n 2, 1) := by decide +kernel
theorem dMM_hunk_14 : decode cMM_hunk 14 = .ok (.ifCond .lt 8, 3) := by decide +kernel
theorem dMM_hunk_17 : decode cMM_hunk 17 = .ok (.iload_n 2, 1) := by decide +kernel
theorem dMM_hunk_18 : decode cMM_hunk 18 = .ok (.iconst 3, 1) := by decide +kernel
theorem dMM_hunk_19 : decode cMM_hunk 19 = .ok (.if_icmp .le 7, 3) := by decide +kernel
theorem dMM_hunk_22 : decode cMM_hunk 22 = .ok (.iconst 1, 1) := by decide +kernel
theorem dMM_hunk_23 : decode cMM_hunk 23 = .ok (.goto 4, 3) := by decide +kernel
theorem dMM_hunk_26 : decode cMM_hunk 26 = .ok (.iconst 0, 1) := by decide +kernel
theorem dMM_hunk_27 : decode cMM_hunk 27 = .ok (.iconst 0, 1) := by decide +kernel
theorem dMM_hunk_28 : decode cMM_hunk 28 = .ok (.invokevirtual 72, 3) := by decide +kernel
theorem dMM_hunk_31 : decode cMM_hunk 31 = .ok (.ifCond .eq 5, 3) := by decide +kernel
theorem dMM_hunk_34 : decode cMM_hunk 34 = .ok (.iconst 0, 1) := by decide +kernel
theorem dMM_hunk_35 : decode cMM_hunk 35 = .ok (.ireturn, 1) := by decide +kernel
theorem dMM_hunk_36 : decode cMM_hunk 36 = .ok (.aload_n 0, 1) := by decide +kernel
theorem dMM_hunk_37 : decode cMM_hunk 37 = .ok (.getfield 34, 3) := by decide +kernel
theorem dMM_hunk_40 : decode cMM_hunk 40 = .ok (.iconst 4, 1) := by decide +kernel
theorem dMM_hunk_41 : decode cMM_hunk 41 = .ok (.iload_n 1, 1) := by decide +kernel
theorem dMM_hunk_42 : decode cMM_hunk 42 = .ok (.imul, 1) := by decide +kernel
theorem dMM_hunk_43 : decode cMM_hunk 43 = .ok (.iload_n 2, 1) := by decide +kernel
theorem dMM_hunk_44 : decode cMM_hunk 44 = .ok (.iadd, 1) := by decide +kernel
theorem dMM_hunk_45 : decode cMM_hunk 45 = .ok (.iaload, 1) := by decide +kernel
theorem dMM_hunk_46 : decode cMM_hunk 46 = .ok (.ireturn, 1) := by decide +kernel
theorem dMM_write_0 : decode cMM_write 0 = .ok (.aload_n 0, 1) := by decide +kernel
theorem dMM_write_1 : decode cMM_write 1 = .ok (.getfield 112, 3) := by decide +kernel
theorem dMM_write_4 : decode cMM_write 4 = .ok (.bipush 60, 2) := by decide +kernel
theorem dMM_write_6 : decode cMM_write 6 = .ok (.if_icmp .ne 11, 3) := by decide +kernel
theorem dMM_write_9 : decode cMM_write 9 = .ok (.aload_n 0, 1) := by decide +kernel
theorem dMM_write_10 : decode cMM_write 10 = .ok (.iconst 1, 1) := by decide +kernel
theorem dMM_write_11 : decode cMM_write 11 = .ok (.putfield 115, 3) := by decide +kernel
theorem dMM_write_14 : decode cMM_write 14 = .ok (.goto 23, 3) := by decide +kernel
theorem dMM_write_17 : decode cMM_write 17 = .ok (.aload_n 0, 1) := by decide +kernel
theorem dMM_write_18 : decode cMM_write 18 = .ok (.getfield 40, 3) := by decide +kernel
theorem dMM_write_21 : decode cMM_write 21 = .ok (.aload_n 0, 1) := by decide +kernel
theorem dMM_write_22 : decode cMM_write 22 = .ok (.getfield 112, 3) := by decide +kernel
theorem dMM_write_25 : decode cMM_write 25 = .ok (.iload_n 1, 1) := by decide +kernel
theorem dMM_write_26 : decode cMM_write 26 = .ok (.iastore, 1) := by decide +kernel
theorem dMM_write_27 : decode cMM_write 27 = .ok (.aload_n 0, 1) := by decide +kernel
theorem dMM_write_28 : decode cMM_write 28 = .ok (.dup, 1) := by decide +kernel
theorem dMM_write_29 : decode cMM_write 29 = .ok (.getfield 112, 3) := by decide +kernel
theorem dMM_write_32 : decode cMM_write 32 = .ok (.iconst 1, 1) := by decide +kernel
theorem dMM_write_33 : decode cMM_write 33 = .ok (.iadd, 1) := by decide +kernel
theorem dMM_write_34 : decode cMM_write 34 = .ok (.putfield 112, 3) := by decide +kernel
theorem dMM_write_37 : decode cMM_write 37 = .ok (.return_, 1) := by decide +kernel
theorem dMM_writePart_0 : decode cMM_writePart 0 = .ok (.iload_n 2, 1) := by decide +kernel
theorem dMM_writePart_1 : decode cMM_writePart 1 = .ok (.istore 4, 2) := by decide +kernel
theorem dMM_writePart_3 : decode cMM_writePart 3 = .ok (.iload 4, 2) := by decide +kernel
theorem dMM_writePart_5 : decode cMM_writePart 5 = .ok (.iload_n 3, 1) := by decide +kernel
theorem dMM_writePart_6 : decode cMM_writePart 6 = .ok (.if_icmp .ge 25, 3) := by decide +kernel
theorem dMM_writePart_9 : decode cMM_writePart 9 = .ok (.aload_n 0, 1) := by decide +kernel
theorem dMM_writePart_10 : decode cMM_writePart 10 = .ok (.aload_n 0, 1) := by decide +kernel
theorem dMM_writePart_11 : decode cMM_writePart 11 = .ok (.getfield 13, 3) := by decide +kernel
theorem dMM_writePart_14 : decode cMM_writePart 14 = .ok (.bipush 60, 2) := by decide +kernel
theorem dMM_writePart_16 : decode cMM_writePart 16 = .ok (.iload_n 1, 1) := by decide +kernel
theorem dMM_writePart_17 : decode cMM_writePart 17 = .ok (.imul, 1) := by decide +kernel
theorem dMM_writePart_18 : decode cMM_writePart 18 = .ok (.iload 4, 2) := by decide +kernel
theorem dMM_writePart_20 : decode cMM_writePart 20 = .ok (.iadd, 1) := by decide +kernel
theorem dMM_writePart_21 : decode cMM_writePart 21 = .ok (.iaload, 1) := by decide +kernel
theorem dMM_writePart_22 : decode cMM_writePart 22 = .ok (.invokevirtual 119, 3) := by decide +kernel
theorem dMM_writePart_25 : decode cMM_writePart 25 = .ok (.iinc 4 1, 3) := by decide +kernel
theorem dMM_writePart_28 : decode cMM_writePart 28 = .ok (.goto (-25), 3) := by decide +kernel
theorem dMM_writePart_31 : decode cMM_writePart 31 = .ok (.return_, 1) := by decide +kernel
theorem dMM_alike_0 : decode cMM_alike 0 = .ok (.iload_n 3, 1) := by decide +kernel
theorem dMM_alike_1 : decode cMM_alike 1 = .ok (.iload_n 2, 1) := by decide +kernel
theorem dMM_alike_2 : decode cMM_alike 2 = .ok (.isub, 1) := by decide +kernel
theorem dMM_alike_3 : decode cMM_alike 3 = .ok (.iload 6, 2) := by decide +kernel
theorem dMM_alike_5 : decode cMM_alike 5 = .ok (.iload 5, 2) := by decide +kernel
theorem dMM_alike_7 : decode cMM_alike 7 = .ok (.isub, 1) := by decide +kernel
theorem dMM_alike_8 : decode cMM_alike 8 = .ok (.if_icmp .ne 7, 3) := by decide +kernel
theorem dMM_alike_11 : decode cMM_alike 11 = .ok (.iconst 1, 1) := by decide +kernel
theorem dMM_alike_12 : decode cMM_alike 12 = .ok (.goto 4, 3) := by decide +kernel
theorem dMM_alike_15 : decode cMM_alike 15 = .ok (.iconst 0, 1) := by decide +kernel
theorem dMM_alike_16 : decode cMM_alike 16 = .ok (.istore 7, 2) := by decide +kernel
theorem dMM_alike_18 : decode cMM_alike 18 = .ok (.iconst 0, 1) := by decide +kernel
theorem dMM_alike_19 : decode cMM_alike 19 = .ok (.istore 8, 2) := by decide +kernel
theorem dMM_alike_21 : decode cMM_alike 21 = .ok (.iload 8, 2) := by decide +kernel
theorem dMM_alike_23 : decode cMM_alike 23 = .ok (.iload_n 3, 1) := by decide +kernel
theorem dMM_alike_24 : decode cMM_alike 24 = .ok (.iload_n 2, 1) := by decide +kernel
theorem dMM_alike_25 : decode cMM_alike 25 = .ok (.isub, 1) := by decide +kernel
theorem dMM_alike_26 : decode cMM_alike 26 = .ok (.if_icmp .ge 54, 3) := by decide +kernel
theorem dMM_alike_29 : decode cMM_alike 29 = .ok (.iload 7, 2) := by decide +kernel
theorem dMM_alike_31 : decode cMM_alike 31 = .ok (.ifCond .eq 49, 3) := by decide +kernel
theorem dMM_alike_34 : decode cMM_alike 34 = .ok (.aload_n 0, 1) := by decide +kernel
theorem dMM_alike_35 : decode cMM_alike 35 = .ok (.getfield 13, 3) := by decide +kernel
theorem dMM_alike_38 : decode cMM_alike 38 = .ok (.bipush 60, 2) := by decide +kernel
theorem dMM_alike_40 : decode cMM_alike 40 = .ok (.iload_n 1, 1) := by decide +kernel
theorem dMM_alike_41 : decode cMM_alike 41 = .ok (.imul, 1) := by decide +kernel
theorem dMM_alike_42 : decode cMM_alike 42 = .ok (.iload_n 2, 1) := by decide +kernel
theorem dMM_alike_43 : decode cMM_alike 43 = .ok (.iadd, 1) := by decide +kernel
theorem dMM_alike_44 : decode cMM_alike 44 = .ok (.iload 8, 2) := by decide +kernel
theorem dMM_alike_46 : decode cMM_alike 46 = .ok (.iadd, 1) := by decide +kernel
theorem dMM_alike_47 : decode cMM_alike 47 = .ok (.iaload, 1) := by decide +kernel
theorem dMM_alike_48 : decode cMM_alike 48 = .ok (.aload_n 0, 1) := by decide +kernel
theorem dMM_alike_49 : decode cMM_alike 49 = .ok (.getfield 13, 3) := by decide +kernel
theorem dMM_alike_52 : decode cMM_alike 52 = .ok (.bipush 60, 2) := by decide +kernel
theorem dMM_alike_54 : decode cMM_alike 54 = .ok (.iload 4, 2) := by decide +kernel
theorem dMM_alike_56 : decode cMM_alike 56 = .ok (.imul, 1) := by decide +kernel
theorem dMM_alike_57 : decode cMM_alike 57 = .ok (.iload 5, 2) := by decide +kernel
theorem dMM_alike_59 : decode cMM_alike 59 = .ok (.iadd, 1) := by decide +kernel
theorem dMM_alike_60 : decode cMM_alike 60 = .ok (.iload 8, 2) := by decide +kernel
theorem dMM_alike_62 : decode cMM_alike 62 = .ok (.iadd, 1) := by decide +kernel
theorem dMM_alike_63 : decode cMM_alike 63 = .ok (.iaload, 1) := by decide +kernel
theorem dMM_alike_64 : decode cMM_alike 64 = .ok (.if_icmp .ne 7, 3) := by decide +kernel
theorem dMM_alike_67 : decode cMM_alike 67 = .ok (.iconst 1, 1) := by decide +kernel
theorem dMM_alike_68 : decode cMM_alike 68 = .ok (.goto 4, 3) := by decide +kernel
theorem dMM_alike_71 : decode cMM_alike 71 = .ok (.iconst 0, 1) := by decide +kernel
theorem dMM_alike_72 : decode cMM_alike 72 = .ok (.istore 7, 2) := by decide +kernel
theorem dMM_alike_74 : decode cMM_alike 74 = .ok (.iinc 8 1, 3) := by decide +kernel
theorem dMM_alike_77 : decode cMM_alike 77 = .ok (.goto (-56), 3) := by decide +kernel
theorem dMM_alike_80 : decode cMM_alike 80 = .ok (.iload 7, 2) := by decide +kernel
theorem dMM_alike_82 : decode cMM_alike 82 = .ok (.ireturn, 1) := by decide +kernel
theorem dMM_joinParts_0 : decode cMM_joinParts 0 = .ok (.aload_n 0, 1) := by decide +kernel
theorem dMM_joinParts_1 : decode cMM_joinParts 1 = .ok (.iload 4, 2) := by decide +kernel
theorem dMM_joinParts_3 : decode cMM_joinParts 3 = .ok (.iload 5, 2) := by decide +kernel
theorem dMM_joinParts_5 : decode cMM_joinParts 5 = .ok (.iload 6, 2) := by decide +kernel
theorem dMM_joinParts_7 : decode cMM_joinParts 7 = .ok (.iload 7, 2) := by decide +kernel
theorem dMM_joinParts_9 : decode cMM_joinParts 9 = .ok (.iload 8, 2) := by decide +kernel
theorem dMM_joinParts_11 : decode cMM_joinParts 11 = .ok (.iload 9, 2) := by decide +kernel
theorem dMM_joinParts_13 : decode cMM_joinParts 13 = .ok (.invokevirtual 123, 3) := by decide +kernel
theorem dMM_joinParts_16 : decode cMM_joinParts 16 = .ok (.ifCond .ne 19, 3) := by decide +kernel
theorem dMM_joinParts_19 : decode cMM_joinParts 19 = .ok (.aload_n 0, 1) := by decide +kernel
theorem dMM_joinParts_20 : decode cMM_joinParts 20 = .ok (.iload 7, 2) := by decide +kernel
theorem dMM_joinParts_22 : decode cMM_joinParts 22 = .ok (.iload 8, 2) := by decide +kernel
theorem dMM_joinParts_24 : decode cMM_joinParts 24 = .ok (.iload 9, 2) := by decide +kernel
theorem dMM_joinParts_26 : decode cMM_joinParts 26 = .ok (.iload_n 1, 1) := by decide +kernel
theorem dMM_joinParts_27 : decode cMM_joinParts 27 = .ok (.iload_n 2, 1) := by decide +kernel
theorem dMM_joinParts_28 : decode cMM_joinParts 28 = .ok (.iload_n 3, 1) := by decide +kernel
theorem dMM_joinParts_29 : decode cMM_joinParts 29 = .ok (.invokevirtual 123, 3) := by decide +kernel
theorem dMM_joinParts_32 : decode cMM_joinParts 32 = .ok (.ifCond .eq 7, 3) := by decide +kernel
theorem dMM_joinParts_35 : decode cMM_joinParts 35 = .ok (.iconst 1, 1) := by decide +kernel
theorem dMM_joinParts_36 : decode cMM_joinParts 36 = .ok (.goto 4, 3) := by decide +kernel
theorem dMM_joinParts_39 : decode cMM_joinParts 39 = .ok (.iconst 0, 1) := by decide +kernel
theorem dMM_joinParts_40 : decode cMM_joinParts 40 = .ok (.istore 10, 2) := by decide +kernel
theorem dMM_joinParts_42 : decode cMM_joinParts 42 = .ok (.iload 10, 2) := by decide +kernel
theorem dMM_joinParts_44 : decode cMM_joinParts 44 = .ok (.ifCond .eq 16, 3) := by decide +kernel
theorem dMM_joinParts_47 : decode cMM_joinParts 47 = .ok (.aload_n 0, 1) := by decide +kernel
theorem dMM_joinParts_48 : decode cMM_joinParts 48 = .ok (.iload 4, 2) := by decide +kernel
theorem dMM_joinParts_50 : decode cMM_joinParts 50 = .ok (.iload 5, 2) := by decide +kernel
theorem dMM_joinParts_52 : decode cMM_joinParts 52 = .ok (.iload 6, 2) := by decide +kernel
theorem dMM_joinParts_54 : decode cMM_joinParts 54 = .ok (.invokevirtual 127, 3) := by decide +kernel
theorem dMM_joinParts_57 : decode cMM_joinParts 57 = .ok (.goto 113, 3) := by decide +kernel
theorem dMM_joinParts_60 : decode cMM_joinParts 60 = .ok (.aload_n 0, 1) := by decide +kernel
theorem dMM_joinParts_61 : decode cMM_joinParts 61 = .ok (.iload 4, 2) := by decide +kernel
theorem dMM_joinParts_63 : decode cMM_joinParts 63 = .ok (.iload 5, 2) := by decide +kernel
theorem dMM_joinParts_65 : decode cMM_joinParts 65 = .ok (.iload 6, 2) := by decide +kernel
theorem dMM_joinParts_67 : decode cMM_joinParts 67 = .ok (.iload_n 1, 1) := by decide +kernel
theorem dMM_joinParts_68 : decode cMM_joinParts 68 = .ok (.iload_n 2, 1) := by decide +kernel
theorem dMM_joinParts_69 : decode cMM_joinParts 69 = .ok (.iload_n 3, 1) := by decide +kernel
theorem dMM_joinParts_70 : decode cMM_joinParts 70 = .ok (.invokevirtual 123, 3) := by decide +kernel
theorem dMM_joinParts_73 : decode cMM_joinParts 73 = .ok (.ifCond .eq 16, 3) := by decide +kernel
theorem dMM_joinParts_76 : decode cMM_joinParts 76 = .ok (.aload_n 0, 1) := by decide +kernel
theorem dMM_joinParts_77 : decode cMM_joinParts 77 = .ok (.iload 7, 2) := by decide +kernel
theorem dMM_joinParts_79 : decode cMM_joinParts 79 = .ok (.iload 8, 2) := by decide +kernel
theorem dMM_joinParts_81 : decode cMM_joinParts 81 = .ok (.iload 9, 2) := by decide +kernel
theorem dMM_joinParts_83 : decode cMM_joinParts 83 = .ok (.invokevirtual 127, 3) := by decide +kernel
theorem dMM_joinParts_86 : decode cMM_joinParts 86 = .ok (.goto 84, 3) := by decide +kernel
theorem dMM_joinParts_89 : decode cMM_joinParts 89 = .ok (.aload_n 0, 1) := by decide +kernel
theorem dMM_joinParts_90 : decode cMM_joinParts 90 = .ok (.getfield 52, 3) := by decide +kernel
theorem dMM_joinParts_93 : decode cMM_joinParts 93 = .ok (.iconst 3, 1) := by decide +kernel
theorem dMM_joinParts_94 : decode cMM_joinParts 94 = .ok (.aload_n 0, 1) := by decide +kernel
theorem dMM_joinParts_95 : decode cMM_joinParts 95 = .ok (.getfield 131, 3) := by decide +kernel
theorem dMM_joinParts_98 : decode cMM_joinParts 98 = .ok (.imul, 1) := by decide +kernel
theorem dMM_joinParts_99 : decode cMM_joinParts 99 = .ok (.aload_n 0, 1) := by decide +kernel
theorem dMM_joinParts_100 : decode cMM_joinParts 100 = .ok (.getfield 112, 3) := by decide +kernel
theorem dMM_joinParts_103 : decode cMM_joinParts 103 = .ok (.iastore, 1) := by decide +kernel
theorem dMM_joinParts_104 : decode cMM_joinParts 104 = .ok (.aload_n 0, 1) := by decide +kernel
theorem dMM_joinParts_105 : decode cMM_joinParts 105 = .ok (.getfield 52, 3) := by decide +kernel
theorem dMM_joinParts_108 : decode cMM_joinParts 108 = .ok (.iconst 3, 1) := by decide +kernel
theorem dMM_joinParts_109 : decode cMM_joinParts 109 = .ok (.aload_n 0, 1) := by decide +kernel
theorem dMM_joinParts_110 : decode cMM_joinParts 110 = .ok (.getfield 131, 3) := by decide +kernel
theorem dMM_joinParts_113 : decode cMM_joinParts 113 = .ok (.imul, 1) := by decide +kernel
theorem dMM_joinParts_114 : decode cMM_joinParts 114 = .ok (.iconst 1, 1) := by decide +kernel
theorem dMM_joinParts_115 : decode cMM_joinParts 115 = .ok (.iadd, 1) := by decide +kernel
theorem dMM_joinParts_116 : decode cMM_joinParts 116 = .ok (.iload 6, 2) := by decide +kernel
theorem dMM_joinParts_118 : decode cMM_joinParts 118 = .ok (.iload 5, 2) := by decide +kernel
theorem dMM_joinParts_120 : decode cMM_joinParts 120 = .ok (.isub, 1) := by decide +kernel
theorem dMM_joinParts_121 : decode cMM_joinParts 121 = .ok (.iastore, 1) := by decide +kernel
theorem dMM_joinParts_122 : decode cMM_joinParts 122 = .ok (.aload_n 0, 1) := by decide +kernel
theorem dMM_joinParts_123 : decode cMM_joinParts 123 = .ok (.getfield 52, 3) := by decide +kernel
theorem dMM_joinParts_126 : decode cMM_joinParts 126 = .ok (.iconst 3, 1) := by decide +kernel
theorem dMM_joinParts_127 : decode cMM_joinParts 127 = .ok (.aload_n 0, 1) := by decide +kernel
theorem dMM_joinParts_128 : decode cMM_joinParts 128 = .ok (.getfield 131, 3) := by decide +kernel
theorem dMM_joinParts_131 : decode cMM_joinParts 131 = .ok (.imul, 1) := by decide +kernel
theorem dMM_joinParts_132 : decode cMM_joinParts 132 = .ok (.iconst 2, 1) := by decide +kernel
theorem dMM_joinParts_133 : decode cMM_joinParts 133 = .ok (.iadd, 1) := by decide +kernel
theorem dMM_joinParts_134 : decode cMM_joinParts 134 = .ok (.iload 9, 2) := by decide +kernel
theorem dMM_joinParts_136 : decode cMM_joinParts 136 = .ok (.iload 8, 2) := by decide +kernel
theorem dMM_joinParts_138 : decode cMM_joinParts 138 = .ok (.isub, 1) := by decide +kernel
theorem dMM_joinParts_139 : decode cMM_joinParts 139 = .ok (.iastore, 1) := by decide +kernel
theorem dMM_joinParts_140 : decode cMM_joinParts 140 = .ok (.aload_n 0, 1) := by decide +kernel
theorem dMM_joinParts_141 : decode cMM_joinParts 141 = .ok (.dup, 1) := by decide +kernel
theorem dMM_joinParts_142 : decode cMM_joinParts 142 = .ok (.getfield 131, 3) := by decide +kernel
theorem dMM_joinParts_145 : decode cMM_joinParts 145 = .ok (.iconst 1, 1) := by decide +kernel
theorem dMM_joinParts_146 : decode cMM_joinParts 146 = .ok (.iadd, 1) := by decide +kernel
theorem dMM_joinParts_147 : decode cMM_joinParts 147 = .ok (.putfield 131, 3) := by decide +kernel
theorem dMM_joinParts_150 : decode cMM_joinParts 150 = .ok (.aload_n 0, 1) := by decide +kernel
theorem dMM_joinParts_151 : decode cMM_joinParts 151 = .ok (.iload 4, 2) := by decide +kernel
theorem dMM_joinParts_153 : decode cMM_joinParts 153 = .ok (.iload 5, 2) := by decide +kernel
theorem dMM_joinParts_155 : decode cMM_joinParts 155 = .ok (.iload 6, 2) := by decide +kernel
theorem dMM_joinParts_157 : decode cMM_joinParts 157 = .ok (.invokevirtual 127, 3) := by decide +kernel
theorem dMM_joinParts_160 : decode cMM_joinParts 160 = .ok (.aload_n 0, 1) := by decide +kernel
theorem dMM_joinParts_161 : decode cMM_joinParts 161 = .ok (.iload 7, 2) := by decide +kernel
theorem dMM_joinParts_163 : decode cMM_joinParts 163 = .ok (.iload 8, 2) := by decide +kernel
theorem dMM_joinParts_165 : decode cMM_joinParts 165 = .ok (.iload 9, 2) := by decide +kernel
theorem dMM_joinParts_167 : decode cMM_joinParts 167 = .ok (.invokevirtual 127, 3) := by decide +kernel
theorem dMM_joinParts_170 : decode cMM_joinParts 170 = .ok (.return_, 1) := by decide +kernel
theorem dMM_become_0 : decode cMM_become 0 = .ok (.aload_n 0, 1) := by decide +kernel
theorem dMM_become_1 : decode cMM_become 1 = .ok (.getfield 7, 3) := by decide +kernel
theorem dMM_become_4 : decode cMM_become 4 = .ok (.iload_n 1, 1) := by decide +kernel
theorem dMM_become_5 : decode cMM_become 5 = .ok (.aload_n 0, 1) := by decide +kernel
theorem dMM_become_6 : decode cMM_become 6 = .ok (.getfield 112, 3) := by decide +kernel
theorem dMM_become_9 : decode cMM_become 9 = .ok (.iastore, 1) := by decide +kernel
theorem dMM_become_10 : decode cMM_become 10 = .ok (.iconst 0, 1) := by decide +kernel
theorem dMM_become_11 : decode cMM_become 11 = .ok (.istore_n 2, 1) := by decide +kernel
theorem dMM_become_12 : decode cMM_become 12 = .ok (.iload_n 2, 1) := by decide +kernel
theorem dMM_become_13 : decode cMM_become 13 = .ok (.aload_n 0, 1) := by decide +kernel
theorem dMM_become_14 : decode cMM_become 14 = .ok (.getfield 112, 3) := by decide +kernel
theorem dMM_become_17 : decode cMM_become 17 = .ok (.if_icmp .ge 26, 3) := by decide +kernel
theorem dMM_become_20 : decode cMM_become 20 = .ok (.aload_n 0, 1) := by decide +kernel
theorem dMM_become_21 : decode cMM_become 21 = .ok (.getfield 13, 3) := by decide +kernel
theorem dMM_become_24 : decode cMM_become 24 = .ok (.bipush 60, 2) := by decide +kernel
theorem dMM_become_26 : decode cMM_become 26 = .ok (.iload_n 1, 1) := by decide +kernel
theorem dMM_become_27 : decode cMM_become 27 = .ok (.imul, 1) := by decide +kernel
theorem dMM_become_28 : decode cMM_become 28 = .ok (.iload_n 2, 1) := by decide +kernel
theorem dMM_become_29 : decode cMM_become 29 = .ok (.iadd, 1) := by decide +kernel
theorem dMM_become_30 : decode cMM_become 30 = .ok (.aload_n 0, 1) := by decide +kernel
theorem dMM_become_31 : decode cMM_become 31 = .ok (.getfield 40, 3) := by decide +kernel
theorem dMM_become_34 : decode cMM_become 34 = .ok (.iload_n 2, 1) := by decide +kernel
theorem dMM_become_35 : decode cMM_become 35 = .ok (.iaload, 1) := by decide +kernel
theorem dMM_become_36 : decode cMM_become 36 = .ok (.iastore, 1) := by decide +kernel
theorem dMM_become_37 : decode cMM_become 37 = .ok (.iinc 2 1, 3) := by decide +kernel
theorem dMM_become_40 : decode cMM_become 40 = .ok (.goto (-28), 3) := by decide +kernel
theorem dMM_become_43 : decode cMM_become 43 = .ok (.return_, 1) := by decide +kernel
theorem dMM_merge_0 : decode cMM_merge 0 = .ok (.aload_n 0, 1) := by decide +kernel
theorem dMM_merge_1 : decode cMM_merge 1 = .ok (.iload_n 1, 1) := by decide +kernel
theorem dMM_merge_2 : decode cMM_merge 2 = .ok (.invokestatic 68, 3) := by decide +kernel
theorem dMM_merge_5 : decode cMM_merge 5 = .ok (.ifCond .eq 25, 3) := by decide +kernel
theorem dMM_merge_8 : decode cMM_merge 8 = .ok (.iload_n 2, 1) := by decide +kernel
theorem dMM_merge_9 : decode cMM_merge 9 = .ok (.invokestatic 68, 3) := by decide +kernel
theorem dMM_merge_12 : decode cMM_merge 12 = .ok (.ifCond .eq 18, 3) := by decide +kernel
theorem dMM_merge_15 : decode cMM_merge 15 = .ok (.iload_n 3, 1) := by decide +kernel
theorem dMM_merge_16 : decode cMM_merge 16 = .ok (.invokestatic 68, 3) := by decide +kernel
theorem dMM_merge_19 : decode cMM_merge 19 = .ok (.ifCond .eq 11, 3) := by decide +kernel
theorem dMM_merge_22 : decode cMM_merge 22 = .ok (.iload 4, 2) := by decide +kernel
theorem dMM_merge_24 : decode cMM_merge 24 = .ok (.invokestatic 68, 3) := by decide +kernel
theorem dMM_merge_27 : decode cMM_merge 27 = .ok (.ifCond .ne 7, 3) := by decide +kernel
theorem dMM_merge_30 : decode cMM_merge 30 = .ok (.iconst 1, 1) := by decide +kernel
theorem dMM_merge_31 : decode cMM_merge 31 = .ok (.goto 4, 3) := by decide +kernel
theorem dMM_merge_34 : decode cMM_merge 34 = .ok (.iconst 0, 1) := by decide +kernel
theorem dMM_merge_35 : decode cMM_merge 35 = .ok (.iconst 0, 1) := by decide +kernel
theorem dMM_merge_36 : decode cMM_merge 36 = .ok (.invokevirtual 72, 3) := by decide +kernel
theorem dMM_merge_39 : decode cMM_merge 39 = .ok (.ifCond .eq 5, 3) := by decide +kernel
theorem dMM_merge_42 : decode cMM_merge 42 = .ok (.iconst 0, 1) := by decide +kernel
theorem dMM_merge_43 : decode cMM_merge 43 = .ok (.ireturn, 1) := by decide +kernel
theorem dMM_merge_44 : decode cMM_merge 44 = .ok (.aload_n 0, 1) := by decide +kernel
theorem dMM_merge_45 : decode cMM_merge 45 = .ok (.iload_n 1, 1) := by decide +kernel
theorem dMM_merge_46 : decode cMM_merge 46 = .ok (.iload_n 2, 1) := by decide +kernel
theorem dMM_merge_47 : decode cMM_merge 47 = .ok (.invokevirtual 89, 3) := by decide +kernel
theorem dMM_merge_50 : decode cMM_merge 50 = .ok (.aload_n 0, 1) := by decide +kernel
theorem dMM_merge_51 : decode cMM_merge 51 = .ok (.invokevirtual 93, 3) := by decide +kernel
theorem dMM_merge_54 : decode cMM_merge 54 = .ok (.iconst 0, 1) := by decide +kernel
theorem dMM_merge_55 : decode cMM_merge 55 = .ok (.istore 5, 2) := by decide +kernel
theorem dMM_merge_57 : decode cMM_merge 57 = .ok (.iload 5, 2) := by decide +kernel
theorem dMM_merge_59 : decode cMM_merge 59 = .ok (.aload_n 0, 1) := by decide +kernel
theorem dMM_merge_60 : decode cMM_merge 60 = .ok (.getfield 76, 3) := by decide +kernel
theorem dMM_merge_63 : decode cMM_merge 63 = .ok (.if_icmp .ge 23, 3) := by decide +kernel
theorem dMM_merge_66 : decode cMM_merge 66 = .ok (.aload_n 0, 1) := by decide +kernel
theorem dMM_merge_67 : decode cMM_merge 67 = .ok (.getfield 43, 3) := by decide +kernel
theorem dMM_merge_70 : decode cMM_merge 70 = .ok (.iload 5, 2) := by decide +kernel
theorem dMM_merge_72 : decode cMM_merge 72 = .ok (.aload_n 0, 1) := by decide +kernel
theorem dMM_merge_73 : decode cMM_merge 73 = .ok (.getfield 25, 3) := by decide +kernel
theorem dMM_merge_76 : decode cMM_merge 76 = .ok (.iload 5, 2) := by decide +kernel
theorem dMM_merge_78 : decode cMM_merge 78 = .ok (.iaload, 1) := by decide +kernel
theorem dMM_merge_79 : decode cMM_merge 79 = .ok (.iastore, 1) := by decide +kernel
theorem dMM_merge_80 : decode cMM_merge 80 = .ok (.iinc 5 1, 3) := by decide +kernel
theorem dMM_merge_83 : decode cMM_merge 83 = .ok (.goto (-26), 3) := by decide +kernel
theorem dMM_merge_86 : decode cMM_merge 86 = .ok (.aload_n 0, 1) := by decide +kernel
theorem dMM_merge_87 : decode cMM_merge 87 = .ok (.iload_n 1, 1) := by decide +kernel
theorem dMM_merge_88 : decode cMM_merge 88 = .ok (.iload_n 3, 1) := by decide +kernel
theorem dMM_merge_89 : decode cMM_merge 89 = .ok (.invokevirtual 89, 3) := by decide +kernel
theorem dMM_merge_92 : decode cMM_merge 92 = .ok (.aload_n 0, 1) := by decide +kernel
theorem dMM_merge_93 : decode cMM_merge 93 = .ok (.invokevirtual 93, 3) := by decide +kernel
theorem dMM_merge_96 : decode cMM_merge 96 = .ok (.iconst 0, 1) := by decide +kernel
theorem dMM_merge_97 : decode cMM_merge 97 = .ok (.istore 5, 2) := by decide +kernel
theorem dMM_merge_99 : decode cMM_merge 99 = .ok (.iload 5, 2) := by decide +kernel
theorem dMM_merge_101 : decode cMM_merge 101 = .ok (.aload_n 0, 1) := by decide +kernel
theorem dMM_merge_102 : decode cMM_merge 102 = .ok (.getfield 76, 3) := by decide +kernel
theorem dMM_merge_105 : decode cMM_merge 105 = .ok (.if_icmp .ge 23, 3) := by decide +kernel
theorem dMM_merge_108 : decode cMM_merge 108 = .ok (.aload_n 0, 1) := by decide +kernel
theorem dMM_merge_109 : decode cMM_merge 109 = .ok (.getfield 46, 3) := by decide +kernel
theorem dMM_merge_112 : decode cMM_merge 112 = .ok (.iload 5, 2) := by decide +kernel
theorem dMM_merge_114 : decode cMM_merge 114 = .ok (.aload_n 0, 1) := by decide +kernel
theorem dMM_merge_115 : decode cMM_merge 115 = .ok (.getfield 25, 3) := by decide +kernel
theorem dMM_merge_118 : decode cMM_merge 118 = .ok (.iload 5, 2) := by decide +kernel
theorem dMM_merge_120 : decode cMM_merge 120 = .ok (.iaload, 1) := by decide +kernel
theorem dMM_merge_121 : decode cMM_merge 121 = .ok (.iastore, 1) := by decide +kernel
theorem dMM_merge_122 : decode cMM_merge 122 = .ok (.iinc 5 1, 3) := by decide +kernel
theorem dMM_merge_125 : decode cMM_merge 125 = .ok (.goto (-26), 3) := by decide +kernel
theorem dMM_merge_128 : decode cMM_merge 128 = .ok (.aload_n 0, 1) := by decide +kernel
theorem dMM_merge_129 : decode cMM_merge 129 = .ok (.iconst 0, 1) := by decide +kernel
theorem dMM_merge_130 : decode cMM_merge 130 = .ok (.putfield 112, 3) := by decide +kernel
theorem dMM_merge_133 : decode cMM_merge 133 = .ok (.aload_n 0, 1) := by decide +kernel
theorem dMM_merge_134 : decode cMM_merge 134 = .ok (.iconst 0, 1) := by decide +kernel
theorem dMM_merge_135 : decode cMM_merge 135 = .ok (.putfield 131, 3) := by decide +kernel
theorem dMM_merge_138 : decode cMM_merge 138 = .ok (.aload_n 0, 1) := by decide +kernel
theorem dMM_merge_139 : decode cMM_merge 139 = .ok (.iconst 0, 1) := by decide +kernel
theorem dMM_merge_140 : decode cMM_merge 140 = .ok (.putfield 115, 3) := by decide +kernel
theorem dMM_merge_143 : decode cMM_merge 143 = .ok (.iconst 0, 1) := by decide +kernel
theorem dMM_merge_144 : decode cMM_merge 144 = .ok (.istore 5, 2) := by decide +kernel
theorem dMM_merge_146 : decode cMM_merge 146 = .ok (.iconst 0, 1) := by decide +kernel
theorem dMM_merge_147 : decode cMM_merge 147 = .ok (.istore 6, 2) := by decide +kernel
theorem dMM_merge_149 : decode cMM_merge 149 = .ok (.iconst 0, 1) := by decide +kernel
theorem dMM_merge_150 : decode cMM_merge 150 = .ok (.istore 7, 2) := by decide +kernel
theorem dMM_merge_152 : decode cMM_merge 152 = .ok (.iconst 0, 1) := by decide +kernel
theorem dMM_merge_153 : decode cMM_merge 153 = .ok (.istore 8, 2) := by decide +kernel
theorem dMM_merge_155 : decode cMM_merge 155 = .ok (.iload 8, 2) := by decide +kernel
theorem dMM_merge_157 : decode cMM_merge 157 = .ok (.aload_n 0, 1) := by decide +kernel
theorem dMM_merge_158 : decode cMM_merge 158 = .ok (.getfield 7, 3) := by decide +kernel
theorem dMM_merge_161 : decode cMM_merge 161 = .ok (.iload_n 1, 1) := by decide +kernel
theorem dMM_merge_162 : decode cMM_merge 162 = .ok (.iaload, 1) := by decide +kernel
theorem dMM_merge_163 : decode cMM_merge 163 = .ok (.if_icmp .ge 102, 3) := by decide +kernel
theorem dMM_merge_166 : decode cMM_merge 166 = .ok (.aload_n 0, 1) := by decide +kernel
theorem dMM_merge_167 : decode cMM_merge 167 = .ok (.getfield 43, 3) := by decide +kernel
theorem dMM_merge_170 : decode cMM_merge 170 = .ok (.iload 8, 2) := by decide +kernel
theorem dMM_merge_172 : decode cMM_merge 172 = .ok (.iaload, 1) := by decide +kernel
theorem dMM_merge_173 : decode cMM_merge 173 = .ok (.ifCond .lt 86, 3) := by decide +kernel
theorem dMM_merge_176 : decode cMM_merge 176 = .ok (.aload_n 0, 1) := by decide +kernel
theorem dMM_merge_177 : decode cMM_merge 177 = .ok (.getfield 46, 3) := by decide +kernel
theorem dMM_merge_180 : decode cMM_merge 180 = .ok (.iload 8, 2) := by decide +kernel
theorem dMM_merge_182 : decode cMM_merge 182 = .ok (.iaload, 1) := by decide +kernel
theorem dMM_merge_183 : decode cMM_merge 183 = .ok (.ifCond .lt 76, 3) := by decide +kernel
theorem dMM_merge_186 : decode cMM_merge 186 = .ok (.aload_n 0, 1) := by decide +kernel
theorem dMM_merge_187 : decode cMM_merge 187 = .ok (.iload_n 1, 1) := by decide +kernel
theorem dMM_merge_188 : decode cMM_merge 188 = .ok (.iload 5, 2) := by decide +kernel
theorem dMM_merge_190 : decode cMM_merge 190 = .ok (.iload 8, 2) := by decide +kernel
theorem dMM_merge_192 : decode cMM_merge 192 = .ok (.iload_n 2, 1) := by decide +kernel
theorem dMM_merge_193 : decode cMM_merge 193 = .ok (.iload 6, 2) := by decide +kernel
theorem dMM_merge_195 : decode cMM_merge 195 = .ok (.aload_n 0, 1) := by decide +kernel
theorem dMM_merge_196 : decode cMM_merge 196 = .ok (.getfield 43, 3) := by decide +kernel
theorem dMM_merge_199 : decode cMM_merge 199 = .ok (.iload 8, 2) := by decide +kernel
theorem dMM_merge_201 : decode cMM_merge 201 = .ok (.iaload, 1) := by decide +kernel
theorem dMM_merge_202 : decode cMM_merge 202 = .ok (.iload_n 3, 1) := by decide +kernel
theorem dMM_merge_203 : decode cMM_merge 203 = .ok (.iload 7, 2) := by decide +kernel
theorem dMM_merge_205 : decode cMM_merge 205 = .ok (.aload_n 0, 1) := by decide +kernel
theorem dMM_merge_206 : decode cMM_merge 206 = .ok (.getfield 46, 3) := by decide +kernel
theorem dMM_merge_209 : decode cMM_merge 209 = .ok (.iload 8, 2) := by decide +kernel
theorem dMM_merge_211 : decode cMM_merge 211 = .ok (.iaload, 1) := by decide +kernel
theorem dMM_merge_212 : decode cMM_merge 212 = .ok (.invokevirtual 134, 3) := by decide +kernel
theorem dMM_merge_215 : decode cMM_merge 215 = .ok (.aload_n 0, 1) := by decide +kernel
theorem dMM_merge_216 : decode cMM_merge 216 = .ok (.aload_n 0, 1) := by decide +kernel
theorem dMM_merge_217 : decode cMM_merge 217 = .ok (.getfield 13, 3) := by decide +kernel
theorem dMM_merge_220 : decode cMM_merge 220 = .ok (.bipush 60, 2) := by decide +kernel
theorem dMM_merge_222 : decode cMM_merge 222 = .ok (.iload_n 1, 1) := by decide +kernel
theorem dMM_merge_223 : decode cMM_merge 223 = .ok (.imul, 1) := by decide +kernel
theorem dMM_merge_224 : decode cMM_merge 224 = .ok (.iload 8, 2) := by decide +kernel
theorem dMM_merge_226 : decode cMM_merge 226 = .ok (.iadd, 1) := by decide +kernel
theorem dMM_merge_227 : decode cMM_merge 227 = .ok (.iaload, 1) := by decide +kernel
theorem dMM_merge_228 : decode cMM_merge 228 = .ok (.invokevirtual 119, 3) := by decide +kernel
theorem dMM_merge_231 : decode cMM_merge 231 = .ok (.iload 8, 2) := by decide +kernel
theorem dMM_merge_233 : decode cMM_merge 233 = .ok (.iconst 1, 1) := by decide +kernel
theorem dMM_merge_234 : decode cMM_merge 234 = .ok (.iadd, 1) := by decide +kernel
theorem dMM_merge_235 : decode cMM_merge 235 = .ok (.istore 5, 2) := by decide +kernel
theorem dMM_merge_237 : decode cMM_merge 237 = .ok (.aload_n 0, 1) := by decide +kernel
theorem dMM_merge_238 : decode cMM_merge 238 = .ok (.getfield 43, 3) := by decide +kernel
theorem dMM_merge_241 : decode cMM_merge 241 = .ok (.iload 8, 2) := by decide +kernel
theorem dMM_merge_243 : decode cMM_merge 243 = .ok (.iaload, 1) := by decide +kernel
theorem dMM_merge_244 : decode cMM_merge 244 = .ok (.iconst 1, 1) := by decide +kernel
theorem dMM_merge_245 : decode cMM_merge 245 = .ok (.iadd, 1) := by decide +kernel
theorem dMM_merge_246 : decode cMM_merge 246 = .ok (.istore 6, 2) := by decide +kernel
theorem dMM_merge_248 : decode cMM_merge 248 = .ok (.aload_n 0, 1) := by decide +kernel
theorem dMM_merge_249 : decode cMM_merge 249 = .ok (.getfield 46, 3) := by decide +kernel
theorem dMM_merge_252 : decode cMM_merge 252 = .ok (.iload 8, 2) := by decide +kernel
theorem dMM_merge_254 : decode cMM_merge 254 = .ok (.iaload, 1) := by decide +kernel
theorem dMM_merge_255 : decode cMM_merge 255 = .ok (.iconst 1, 1) := by decide +kernel
theorem dMM_merge_256 : decode cMM_merge 256 = .ok (.iadd, 1) := by decide +kernel
theorem dMM_merge_257 : decode cMM_merge 257 = .ok (.istore 7, 2) := by decide +kernel
theorem dMM_merge_259 : decode cMM_merge 259 = .ok (.iinc 8 1, 3) := by decide +kernel
theorem dMM_merge_262 : decode cMM_merge 262 = .ok (.goto (-107), 3) := by decide +kernel
theorem dMM_merge_265 : decode cMM_merge 265 = .ok (.aload_n 0, 1) := by decide +kernel
theorem dMM_merge_266 : decode cMM_merge 266 = .ok (.iload_n 1, 1) := by decide +kernel
theorem dMM_merge_267 : decode cMM_merge 267 = .ok (.iload 5, 2) := by decide +kernel
theorem dMM_merge_269 : decode cMM_merge 269 = .ok (.aload_n 0, 1) := by decide +kernel
theorem dMM_merge_270 : decode cMM_merge 270 = .ok (.getfield 7, 3) := by decide +kernel
theorem dMM_merge_273 : decode cMM_merge 273 = .ok (.iload_n 1, 1) := by decide +kernel
theorem dMM_merge_274 : decode cMM_merge 274 = .ok (.iaload, 1) := by decide +kernel
theorem dMM_merge_275 : decode cMM_merge 275 = .ok (.iload_n 2, 1) := by decide +kernel
theorem dMM_merge_276 : decode cMM_merge 276 = .ok (.iload 6, 2) := by decide +kernel
theorem dMM_merge_278 : decode cMM_merge 278 = .ok (.aload_n 0, 1) := by decide +kernel
theorem dMM_merge_279 : decode cMM_merge 279 = .ok (.getfield 7, 3) := by decide +kernel
theorem dMM_merge_282 : decode cMM_merge 282 = .ok (.iload_n 2, 1) := by decide +kernel
theorem dMM_merge_283 : decode cMM_merge 283 = .ok (.iaload, 1) := by decide +kernel
theorem dMM_merge_284 : decode cMM_merge 284 = .ok (.iload_n 3, 1) := by decide +kernel
theorem dMM_merge_285 : decode cMM_merge 285 = .ok (.iload 7, 2) := by decide +kernel
theorem dMM_merge_287 : decode cMM_merge 287 = .ok (.aload_n 0, 1) := by decide +kernel
theorem dMM_merge_288 : decode cMM_merge 288 = .ok (.getfield 7, 3) := by decide +kernel
theorem dMM_merge_291 : decode cMM_merge 291 = .ok (.iload_n 3, 1) := by decide +kernel
theorem dMM_merge_292 : decode cMM_merge 292 = .ok (.iaload, 1) := by decide +kernel
theorem dMM_merge_293 : decode cMM_merge 293 = .ok (.invokevirtual 134, 3) := by decide +kernel
theorem dMM_merge_296 : decode cMM_merge 296 = .ok (.aload_n 0, 1) := by decide +kernel
theorem dMM_merge_297 : decode cMM_merge 297 = .ok (.iconst 0, 1) := by decide +kernel
theorem dMM_merge_298 : decode cMM_merge 298 = .ok (.aload_n 0, 1) := by decide +kernel
theorem dMM_merge_299 : decode cMM_merge 299 = .ok (.getfield 115, 3) := by decide +kernel
theorem dMM_merge_302 : decode cMM_merge 302 = .ok (.invokevirtual 72, 3) := by decide +kernel
theorem dMM_merge_305 : decode cMM_merge 305 = .ok (.ifCond .eq 5, 3) := by decide +kernel
theorem dMM_merge_308 : decode cMM_merge 308 = .ok (.iconst 0, 1) := by decide +kernel
theorem dMM_merge_309 : decode cMM_merge 309 = .ok (.ireturn, 1) := by decide +kernel
theorem dMM_merge_310 : decode cMM_merge 310 = .ok (.aload_n 0, 1) := by decide +kernel
theorem dMM_merge_311 : decode cMM_merge 311 = .ok (.iload 4, 2) := by decide +kernel
theorem dMM_merge_313 : decode cMM_merge 313 = .ok (.invokevirtual 138, 3) := by decide +kernel
theorem dMM_merge_316 : decode cMM_merge 316 = .ok (.aload_n 0, 1) := by decide +kernel
theorem dMM_merge_317 : decode cMM_merge 317 = .ok (.aload_n 0, 1) := by decide +kernel
theorem dMM_merge_318 : decode cMM_merge 318 = .ok (.getfield 131, 3) := by decide +kernel
theorem dMM_merge_321 : decode cMM_merge 321 = .ok (.putfield 141, 3) := by decide +kernel
theorem dMM_merge_324 : decode cMM_merge 324 = .ok (.iconst 0, 1) := by decide +kernel
theorem dMM_merge_325 : decode cMM_merge 325 = .ok (.istore 8, 2) := by decide +kernel
theorem dMM_merge_327 : decode cMM_merge 327 = .ok (.iload 8, 2) := by decide +kernel
theorem dMM_merge_329 : decode cMM_merge 329 = .ok (.iconst 3, 1) := by decide +kernel
theorem dMM_merge_330 : decode cMM_merge 330 = .ok (.aload_n 0, 1) := by decide +kernel
theorem dMM_merge_331 : decode cMM_merge 331 = .ok (.getfield 131, 3) := by decide +kernel
theorem dMM_merge_334 : decode cMM_merge 334 = .ok (.imul, 1) := by decide +kernel
theorem dMM_merge_335 : decode cMM_merge 335 = .ok (.if_icmp .ge 23, 3) := by decide +kernel
theorem dMM_merge_338 : decode cMM_merge 338 = .ok (.aload_n 0, 1) := by decide +kernel
theorem dMM_merge_339 : decode cMM_merge 339 = .ok (.getfield 49, 3) := by decide +kernel
theorem dMM_merge_342 : decode cMM_merge 342 = .ok (.iload 8, 2) := by decide +kernel
theorem dMM_merge_344 : decode cMM_merge 344 = .ok (.aload_n 0, 1) := by decide +kernel
theorem dMM_merge_345 : decode cMM_merge 345 = .ok (.getfield 52, 3) := by decide +kernel
theorem dMM_merge_348 : decode cMM_merge 348 = .ok (.iload 8, 2) := by decide +kernel
theorem dMM_merge_350 : decode cMM_merge 350 = .ok (.iaload, 1) := by decide +kernel
theorem dMM_merge_351 : decode cMM_merge 351 = .ok (.iastore, 1) := by decide +kernel
theorem dMM_merge_352 : decode cMM_merge 352 = .ok (.iinc 8 1, 3) := by decide +kernel
theorem dMM_merge_355 : decode cMM_merge 355 = .ok (.goto (-28), 3) := by decide +kernel
theorem dMM_merge_358 : decode cMM_merge 358 = .ok (.aload_n 0, 1) := by decide +kernel
theorem dMM_merge_359 : decode cMM_merge 359 = .ok (.getfield 141, 3) := by decide +kernel
theorem dMM_merge_362 : decode cMM_merge 362 = .ok (.ireturn, 1) := by decide +kernel
theorem dMM_conflict_0 : decode cMM_conflict 0 = .ok (.aload_n 0, 1) := by decide +kernel
theorem dMM_conflict_1 : decode cMM_conflict 1 = .ok (.iload_n 1, 1) := by decide +kernel
theorem dMM_conflict_2 : decode cMM_conflict 2 = .ok (.ifCond .lt 20, 3) := by decide +kernel
theorem dMM_conflict_5 : decode cMM_conflict 5 = .ok (.iload_n 1, 1) := by decide +kernel
theorem dMM_conflict_6 : decode cMM_conflict 6 = .ok (.aload_n 0, 1) := by decide +kernel
theorem dMM_conflict_7 : decode cMM_conflict 7 = .ok (.getfield 141, 3) := by decide +kernel
theorem dMM_conflict_10 : decode cMM_conflict 10 = .ok (.if_icmp .ge 12, 3) := by decide +kernel
theorem dMM_conflict_13 : decode cMM_conflict 13 = .ok (.iload_n 2, 1) := by decide +kernel
theorem dMM_conflict_14 : decode cMM_conflict 14 = .ok (.ifCond .lt 8, 3) := by decide +kernel
theorem dMM_conflict_17 : decode cMM_conflict 17 = .ok (.iload_n 2, 1) := by decide +kernel
theorem dMM_conflict_18 : decode cMM_conflict 18 = .ok (.iconst 2, 1) := by decide +kernel
theorem dMM_conflict_19 : decode cMM_conflict 19 = .ok (.if_icmp .le 7, 3) := by decide +kernel
theorem dMM_conflict_22 : decode cMM_conflict 22 = .ok (.iconst 1, 1) := by decide +kernel
theorem dMM_conflict_23 : decode cMM_conflict 23 = .ok (.goto 4, 3) := by decide +kernel
theorem dMM_conflict_26 : decode cMM_conflict 26 = .ok (.iconst 0, 1) := by decide +kernel
theorem dMM_conflict_27 : decode cMM_conflict 27 = .ok (.iconst 0, 1) := by decide +kernel
theorem dMM_conflict_28 : decode cMM_conflict 28 = .ok (.invokevirtual 72, 3) := by decide +kernel
theorem dMM_conflict_31 : decode cMM_conflict 31 = .ok (.ifCond .eq 5, 3) := by decide +kernel
theorem dMM_conflict_34 : decode cMM_conflict 34 = .ok (.iconst 0, 1) := by decide +kernel
theorem dMM_conflict_35 : decode cMM_conflict 35 = .ok (.ireturn, 1) := by decide +kernel
theorem dMM_conflict_36 : decode cMM_conflict 36 = .ok (.aload_n 0, 1) := by decide +kernel
theorem dMM_conflict_37 : decode cMM_conflict 37 = .ok (.getfield 49, 3) := by decide +kernel
theorem dMM_conflict_40 : decode cMM_conflict 40 = .ok (.iconst 3, 1) := by decide +kernel
theorem dMM_conflict_41 : decode cMM_conflict 41 = .ok (.iload_n 1, 1) := by decide +kernel
theorem dMM_conflict_42 : decode cMM_conflict 42 = .ok (.imul, 1) := by decide +kernel
theorem dMM_conflict_43 : decode cMM_conflict 43 = .ok (.iload_n 2, 1) := by decide +kernel
theorem dMM_conflict_44 : decode cMM_conflict 44 = .ok (.iadd, 1) := by decide +kernel
theorem dMM_conflict_45 : decode cMM_conflict 45 = .ok (.iaload, 1) := by decide +kernel
theorem dMM_conflict_46 : decode cMM_conflict 46 = .ok (.ireturn, 1) := by decide +kernel
theorem dMM_fits_0 : decode cMM_fits 0 = .ok (.aload_n 0, 1) := by decide +kernel
theorem dMM_fits_1 : decode cMM_fits 1 = .ok (.getfield 37, 3) := by decide +kernel
theorem dMM_fits_4 : decode cMM_fits 4 = .ok (.iconst 4, 1) := by decide +kernel
theorem dMM_fits_5 : decode cMM_fits 5 = .ok (.iload_n 1, 1) := by decide +kernel
theorem dMM_fits_6 : decode cMM_fits 6 = .ok (.imul, 1) := by decide +kernel
theorem dMM_fits_7 : decode cMM_fits 7 = .ok (.iaload, 1) := by decide +kernel
theorem dMM_fits_8 : decode cMM_fits 8 = .ok (.istore 4, 2) := by decide +kernel
theorem dMM_fits_10 : decode cMM_fits 10 = .ok (.aload_n 0, 1) := by decide +kernel
theorem dMM_fits_11 : decode cMM_fits 11 = .ok (.getfield 37, 3) := by decide +kernel
theorem dMM_fits_14 : decode cMM_fits 14 = .ok (.iconst 4, 1) := by decide +kernel
theorem dMM_fits_15 : decode cMM_fits 15 = .ok (.iload_n 1, 1) := by decide +kernel
theorem dMM_fits_16 : decode cMM_fits 16 = .ok (.imul, 1) := by decide +kernel
theorem dMM_fits_17 : decode cMM_fits 17 = .ok (.iconst 1, 1) := by decide +kernel
theorem dMM_fits_18 : decode cMM_fits 18 = .ok (.iadd, 1) := by decide +kernel
theorem dMM_fits_19 : decode cMM_fits 19 = .ok (.iaload, 1) := by decide +kernel
theorem dMM_fits_20 : decode cMM_fits 20 = .ok (.istore 5, 2) := by decide +kernel
theorem dMM_fits_22 : decode cMM_fits 22 = .ok (.iload_n 3, 1) := by decide +kernel
theorem dMM_fits_23 : decode cMM_fits 23 = .ok (.ifCond .lt 20, 3) := by decide +kernel
theorem dMM_fits_26 : decode cMM_fits 26 = .ok (.iload_n 3, 1) := by decide +kernel
theorem dMM_fits_27 : decode cMM_fits 27 = .ok (.iload 5, 2) := by decide +kernel
theorem dMM_fits_29 : decode cMM_fits 29 = .ok (.iadd, 1) := by decide +kernel
theorem dMM_fits_30 : decode cMM_fits 30 = .ok (.aload_n 0, 1) := by decide +kernel
theorem dMM_fits_31 : decode cMM_fits 31 = .ok (.getfield 7, 3) := by decide +kernel
theorem dMM_fits_34 : decode cMM_fits 34 = .ok (.iload_n 2, 1) := by decide +kernel
theorem dMM_fits_35 : decode cMM_fits 35 = .ok (.iaload, 1) := by decide +kernel
theorem dMM_fits_36 : decode cMM_fits 36 = .ok (.if_icmp .gt 7, 3) := by decide +kernel
theorem dMM_fits_39 : decode cMM_fits 39 = .ok (.iconst 1, 1) := by decide +kernel
theorem dMM_fits_40 : decode cMM_fits 40 = .ok (.goto 4, 3) := by decide +kernel
theorem dMM_fits_43 : decode cMM_fits 43 = .ok (.iconst 0, 1) := by decide +kernel
theorem dMM_fits_44 : decode cMM_fits 44 = .ok (.istore 6, 2) := by decide +kernel
theorem dMM_fits_46 : decode cMM_fits 46 = .ok (.iconst 0, 1) := by decide +kernel
theorem dMM_fits_47 : decode cMM_fits 47 = .ok (.istore 7, 2) := by decide +kernel
theorem dMM_fits_49 : decode cMM_fits 49 = .ok (.iload 7, 2) := by decide +kernel
theorem dMM_fits_51 : decode cMM_fits 51 = .ok (.iload 5, 2) := by decide +kernel
theorem dMM_fits_53 : decode cMM_fits 53 = .ok (.if_icmp .ge 48, 3) := by decide +kernel
theorem dMM_fits_56 : decode cMM_fits 56 = .ok (.iload 6, 2) := by decide +kernel
theorem dMM_fits_58 : decode cMM_fits 58 = .ok (.ifCond .eq 43, 3) := by decide +kernel
theorem dMM_fits_61 : decode cMM_fits 61 = .ok (.aload_n 0, 1) := by decide +kernel
theorem dMM_fits_62 : decode cMM_fits 62 = .ok (.getfield 13, 3) := by decide +kernel
theorem dMM_fits_65 : decode cMM_fits 65 = .ok (.bipush 60, 2) := by decide +kernel
theorem dMM_fits_67 : decode cMM_fits 67 = .ok (.iload_n 2, 1) := by decide +kernel
theorem dMM_fits_68 : decode cMM_fits 68 = .ok (.imul, 1) := by decide +kernel
theorem dMM_fits_69 : decode cMM_fits 69 = .ok (.iload_n 3, 1) := by decide +kernel
theorem dMM_fits_70 : decode cMM_fits 70 = .ok (.iadd, 1) := by decide +kernel
theorem dMM_fits_71 : decode cMM_fits 71 = .ok (.iload 7, 2) := by decide +kernel
theorem dMM_fits_73 : decode cMM_fits 73 = .ok (.iadd, 1) := by decide +kernel
theorem dMM_fits_74 : decode cMM_fits 74 = .ok (.iaload, 1) := by decide +kernel
theorem dMM_fits_75 : decode cMM_fits 75 = .ok (.aload_n 0, 1) := by decide +kernel
theorem dMM_fits_76 : decode cMM_fits 76 = .ok (.getfield 16, 3) := by decide +kernel
theorem dMM_fits_79 : decode cMM_fits 79 = .ok (.iload 4, 2) := by decide +kernel
theorem dMM_fits_81 : decode cMM_fits 81 = .ok (.iload 7, 2) := by decide +kernel
theorem dMM_fits_83 : decode cMM_fits 83 = .ok (.iadd, 1) := by decide +kernel
theorem dMM_fits_84 : decode cMM_fits 84 = .ok (.iaload, 1) := by decide +kernel
theorem dMM_fits_85 : decode cMM_fits 85 = .ok (.if_icmp .ne 7, 3) := by decide +kernel
theorem dMM_fits_88 : decode cMM_fits 88 = .ok (.iconst 1, 1) := by decide +kernel
theorem dMM_fits_89 : decode cMM_fits 89 = .ok (.goto 4, 3) := by decide +kernel
theorem dMM_fits_92 : decode cMM_fits 92 = .ok (.iconst 0, 1) := by decide +kernel
theorem dMM_fits_93 : decode cMM_fits 93 = .ok (.istore 6, 2) := by decide +kernel
theorem dMM_fits_95 : decode cMM_fits 95 = .ok (.iinc 7 1, 3) := by decide +kernel
theorem dMM_fits_98 : decode cMM_fits 98 = .ok (.goto (-49), 3) := by decide +kernel
theorem dMM_fits_101 : decode cMM_fits 101 = .ok (.iload 6, 2) := by decide +kernel
theorem dMM_fits_103 : decode cMM_fits 103 = .ok (.ifCond .eq 49, 3) := by decide +kernel
theorem dMM_fits_106 : decode cMM_fits 106 = .ok (.iload 4, 2) := by decide +kernel
theorem dMM_fits_108 : decode cMM_fits 108 = .ok (.ifCond .eq 40, 3) := by decide +kernel
theorem dMM_fits_111 : decode cMM_fits 111 = .ok (.iload_n 3, 1) := by decide +kernel
theorem dMM_fits_112 : decode cMM_fits 112 = .ok (.ifCond .le 40, 3) := by decide +kernel
theorem dMM_fits_115 : decode cMM_fits 115 = .ok (.aload_n 0, 1) := by decide +kernel
theorem dMM_fits_116 : decode cMM_fits 116 = .ok (.getfield 13, 3) := by decide +kernel
theorem dMM_fits_119 : decode cMM_fits 119 = .ok (.bipush 60, 2) := by decide +kernel
theorem dMM_fits_121 : decode cMM_fits 121 = .ok (.iload_n 2, 1) := by decide +kernel
theorem dMM_fits_122 : decode cMM_fits 122 = .ok (.imul, 1) := by decide +kernel
theorem dMM_fits_123 : decode cMM_fits 123 = .ok (.iload_n 3, 1) := by decide +kernel
theorem dMM_fits_124 : decode cMM_fits 124 = .ok (.ifCond .le 7, 3) := by decide +kernel
theorem dMM_fits_127 : decode cMM_fits 127 = .ok (.iload_n 3, 1) := by decide +kernel
theorem dMM_fits_128 : decode cMM_fits 128 = .ok (.goto 4, 3) := by decide +kernel
theorem dMM_fits_131 : decode cMM_fits 131 = .ok (.iconst 1, 1) := by decide +kernel
theorem dMM_fits_132 : decode cMM_fits 132 = .ok (.iadd, 1) := by decide +kernel
theorem dMM_fits_133 : decode cMM_fits 133 = .ok (.iconst 1, 1) := by decide +kernel
theorem dMM_fits_134 : decode cMM_fits 134 = .ok (.isub, 1) := by decide +kernel
theorem dMM_fits_135 : decode cMM_fits 135 = .ok (.iaload, 1) := by decide +kernel
theorem dMM_fits_136 : decode cMM_fits 136 = .ok (.aload_n 0, 1) := by decide +kernel
theorem dMM_fits_137 : decode cMM_fits 137 = .ok (.getfield 16, 3) := by decide +kernel
theorem dMM_fits_140 : decode cMM_fits 140 = .ok (.iload 4, 2) := by decide +kernel
theorem dMM_fits_142 : decode cMM_fits 142 = .ok (.iconst 1, 1) := by decide +kernel
theorem dMM_fits_143 : decode cMM_fits 143 = .ok (.isub, 1) := by decide +kernel
theorem dMM_fits_144 : decode cMM_fits 144 = .ok (.iaload, 1) := by decide +kernel
theorem dMM_fits_145 : decode cMM_fits 145 = .ok (.if_icmp .ne 7, 3) := by decide +kernel
theorem dMM_fits_148 : decode cMM_fits 148 = .ok (.iconst 1, 1) := by decide +kernel
theorem dMM_fits_149 : decode cMM_fits 149 = .ok (.goto 4, 3) := by decide +kernel
theorem dMM_fits_152 : decode cMM_fits 152 = .ok (.iconst 0, 1) := by decide +kernel
theorem dMM_fits_153 : decode cMM_fits 153 = .ok (.istore 6, 2) := by decide +kernel
theorem dMM_fits_155 : decode cMM_fits 155 = .ok (.iload 6, 2) := by decide +kernel
theorem dMM_fits_157 : decode cMM_fits 157 = .ok (.ifCond .eq 59, 3) := by decide +kernel
theorem dMM_fits_160 : decode cMM_fits 160 = .ok (.iload 4, 2) := by decide +kernel
theorem dMM_fits_162 : decode cMM_fits 162 = .ok (.iload 5, 2) := by decide +kernel
theorem dMM_fits_164 : decode cMM_fits 164 = .ok (.iadd, 1) := by decide +kernel
theorem dMM_fits_165 : decode cMM_fits 165 = .ok (.aload_n 0, 1) := by decide +kernel
theorem dMM_fits_166 : decode cMM_fits 166 = .ok (.getfield 76, 3) := by decide +kernel
theorem dMM_fits_169 : decode cMM_fits 169 = .ok (.if_icmp .eq 43, 3) := by decide +kernel
theorem dMM_fits_172 : decode cMM_fits 172 = .ok (.iload_n 3, 1) := by decide +kernel
theorem dMM_fits_173 : decode cMM_fits 173 = .ok (.iload 5, 2) := by decide +kernel
theorem dMM_fits_175 : decode cMM_fits 175 = .ok (.iadd, 1) := by decide +kernel
theorem dMM_fits_176 : decode cMM_fits 176 = .ok (.aload_n 0, 1) := by decide +kernel
theorem dMM_fits_177 : decode cMM_fits 177 = .ok (.getfield 7, 3) := by decide +kernel
theorem dMM_fits_180 : decode cMM_fits 180 = .ok (.iload_n 2, 1) := by decide +kernel
theorem dMM_fits_181 : decode cMM_fits 181 = .ok (.iaload, 1) := by decide +kernel
theorem dMM_fits_182 : decode cMM_fits 182 = .ok (.if_icmp .ge 34, 3) := by decide +kernel
theorem dMM_fits_185 : decode cMM_fits 185 = .ok (.aload_n 0, 1) := by decide +kernel
theorem dMM_fits_186 : decode cMM_fits 186 = .ok (.getfield 13, 3) := by decide +kernel
theorem dMM_fits_189 : decode cMM_fits 189 = .ok (.bipush 60, 2) := by decide +kernel
theorem dMM_fits_191 : decode cMM_fits 191 = .ok (.iload_n 2, 1) := by decide +kernel
theorem dMM_fits_192 : decode cMM_fits 192 = .ok (.imul, 1) := by decide +kernel
theorem dMM_fits_193 : decode cMM_fits 193 = .ok (.iload_n 3, 1) := by decide +kernel
theorem dMM_fits_194 : decode cMM_fits 194 = .ok (.iadd, 1) := by decide +kernel
theorem dMM_fits_195 : decode cMM_fits 195 = .ok (.iload 5, 2) := by decide +kernel
theorem dMM_fits_197 : decode cMM_fits 197 = .ok (.iadd, 1) := by decide +kernel
theorem dMM_fits_198 : decode cMM_fits 198 = .ok (.iaload, 1) := by decide +kernel
theorem dMM_fits_199 : decode cMM_fits 199 = .ok (.aload_n 0, 1) := by decide +kernel
theorem dMM_fits_200 : decode cMM_fits 200 = .ok (.getfield 16, 3) := by decide +kernel
theorem dMM_fits_203 : decode cMM_fits 203 = .ok (.iload 4, 2) := by decide +kernel
theorem dMM_fits_205 : decode cMM_fits 205 = .ok (.iload 5, 2) := by decide +kernel
theorem dMM_fits_207 : decode cMM_fits 207 = .ok (.iadd, 1) := by decide +kernel
theorem dMM_fits_208 : decode cMM_fits 208 = .ok (.iaload, 1) := by decide +kernel
theorem dMM_fits_209 : decode cMM_fits 209 = .ok (.if_icmp .ne 7, 3) := by decide +kernel
theorem dMM_fits_212 : decode cMM_fits 212 = .ok (.iconst 1, 1) := by decide +kernel
theorem dMM_fits_213 : decode cMM_fits 213 = .ok (.goto 4, 3) := by decide +kernel
theorem dMM_fits_216 : decode cMM_fits 216 = .ok (.iconst 0, 1) := by decide +kernel
theorem dMM_fits_217 : decode cMM_fits 217 = .ok (.ireturn, 1) := by decide +kernel
theorem dMM_apart_0 : decode cMM_apart 0 = .ok (.iload_n 0, 1) := by decide +kernel
theorem dMM_apart_1 : decode cMM_apart 1 = .ok (.iload_n 1, 1) := by decide +kernel
theorem dMM_apart_2 : decode cMM_apart 2 = .ok (.if_icmp .ge 9, 3) := by decide +kernel
theorem dMM_apart_5 : decode cMM_apart 5 = .ok (.iload_n 1, 1) := by decide +kernel
theorem dMM_apart_6 : decode cMM_apart 6 = .ok (.iload_n 0, 1) := by decide +kernel
theorem dMM_apart_7 : decode cMM_apart 7 = .ok (.isub, 1) := by decide +kernel
theorem dMM_apart_8 : decode cMM_apart 8 = .ok (.goto 6, 3) := by decide +kernel
theorem dMM_apart_11 : decode cMM_apart 11 = .ok (.iload_n 0, 1) := by decide +kernel
theorem dMM_apart_12 : decode cMM_apart 12 = .ok (.iload_n 1, 1) := by decide +kernel
theorem dMM_apart_13 : decode cMM_apart 13 = .ok (.isub, 1) := by decide +kernel
theorem dMM_apart_14 : decode cMM_apart 14 = .ok (.ireturn, 1) := by decide +kernel
theorem dMM_patch_0 : decode cMM_patch 0 = .ok (.aload_n 0, 1) := by decide +kernel
theorem dMM_patch_1 : decode cMM_patch 1 = .ok (.iload_n 1, 1) := by decide +kernel
theorem dMM_patch_2 : decode cMM_patch 2 = .ok (.invokestatic 68, 3) := by decide +kernel
theorem dMM_patch_5 : decode cMM_patch 5 = .ok (.ifCond .eq 25, 3) := by decide +kernel
theorem dMM_patch_8 : decode cMM_patch 8 = .ok (.iload_n 2, 1) := by decide +kernel
theorem dMM_patch_9 : decode cMM_patch 9 = .ok (.invokestatic 68, 3) := by decide +kernel
theorem dMM_patch_12 : decode cMM_patch 12 = .ok (.ifCond .eq 18, 3) := by decide +kernel
theorem dMM_patch_15 : decode cMM_patch 15 = .ok (.iload_n 3, 1) := by decide +kernel
theorem dMM_patch_16 : decode cMM_patch 16 = .ok (.invokestatic 68, 3) := by decide +kernel
theorem dMM_patch_19 : decode cMM_patch 19 = .ok (.ifCond .eq 11, 3) := by decide +kernel
theorem dMM_patch_22 : decode cMM_patch 22 = .ok (.iload 4, 2) := by decide +kernel
theorem dMM_patch_24 : decode cMM_patch 24 = .ok (.invokestatic 68, 3) := by decide +kernel
theorem dMM_patch_27 : decode cMM_patch 27 = .ok (.ifCond .ne 7, 3) := by decide +kernel
theorem dMM_patch_30 : decode cMM_patch 30 = .ok (.iconst 1, 1) := by decide +kernel
theorem dMM_patch_31 : decode cMM_patch 31 = .ok (.goto 4, 3) := by decide +kernel
theorem dMM_patch_34 : decode cMM_patch 34 = .ok (.iconst 0, 1) := by decide +kernel
theorem dMM_patch_35 : decode cMM_patch 35 = .ok (.iconst 0, 1) := by decide +kernel
theorem dMM_patch_36 : decode cMM_patch 36 = .ok (.invokevirtual 72, 3) := by decide +kernel
theorem dMM_patch_39 : decode cMM_patch 39 = .ok (.ifCond .eq 5, 3) := by decide +kernel
theorem dMM_patch_42 : decode cMM_patch 42 = .ok (.iconst 0, 1) := by decide +kernel
theorem dMM_patch_43 : decode cMM_patch 43 = .ok (.ireturn, 1) := by decide +kernel
theorem dMM_patch_44 : decode cMM_patch 44 = .ok (.aload_n 0, 1) := by decide +kernel
theorem dMM_patch_45 : decode cMM_patch 45 = .ok (.iload_n 1, 1) := by decide +kernel
theorem dMM_patch_46 : decode cMM_patch 46 = .ok (.iload_n 2, 1) := by decide +kernel
theorem dMM_patch_47 : decode cMM_patch 47 = .ok (.invokevirtual 89, 3) := by decide +kernel
theorem dMM_patch_50 : decode cMM_patch 50 = .ok (.aload_n 0, 1) := by decide +kernel
theorem dMM_patch_51 : decode cMM_patch 51 = .ok (.invokevirtual 93, 3) := by decide +kernel
theorem dMM_patch_54 : decode cMM_patch 54 = .ok (.aload_n 0, 1) := by decide +kernel
theorem dMM_patch_55 : decode cMM_patch 55 = .ok (.invokevirtual 106, 3) := by decide +kernel
theorem dMM_patch_58 : decode cMM_patch 58 = .ok (.aload_n 0, 1) := by decide +kernel
theorem dMM_patch_59 : decode cMM_patch 59 = .ok (.iconst 0, 1) := by decide +kernel
theorem dMM_patch_60 : decode cMM_patch 60 = .ok (.putfield 112, 3) := by decide +kernel
theorem dMM_patch_63 : decode cMM_patch 63 = .ok (.aload_n 0, 1) := by decide +kernel
theorem dMM_patch_64 : decode cMM_patch 64 = .ok (.iconst 0, 1) := by decide +kernel
theorem dMM_patch_65 : decode cMM_patch 65 = .ok (.putfield 115, 3) := by decide +kernel
theorem dMM_patch_68 : decode cMM_patch 68 = .ok (.iconst 0, 1) := by decide +kernel
theorem dMM_patch_69 : decode cMM_patch 69 = .ok (.istore 5, 2) := by decide +kernel
theorem dMM_patch_71 : decode cMM_patch 71 = .ok (.iconst 0, 1) := by decide +kernel
theorem dMM_patch_72 : decode cMM_patch 72 = .ok (.istore 6, 2) := by decide +kernel
theorem dMM_patch_74 : decode cMM_patch 74 = .ok (.iconst 0, 1) := by decide +kernel
theorem dMM_patch_75 : decode cMM_patch 75 = .ok (.istore 7, 2) := by decide +kernel
theorem dMM_patch_77 : decode cMM_patch 77 = .ok (.iconst 0, 1) := by decide +kernel
theorem dMM_patch_78 : decode cMM_patch 78 = .ok (.istore 8, 2) := by decide +kernel
theorem dMM_patch_80 : decode cMM_patch 80 = .ok (.iload 8, 2) := by decide +kernel
theorem dMM_patch_82 : decode cMM_patch 82 = .ok (.aload_n 0, 1) := by decide +kernel
theorem dMM_patch_83 : decode cMM_patch 83 = .ok (.getfield 99, 3) := by decide +kernel
theorem dMM_patch_86 : decode cMM_patch 86 = .ok (.if_icmp .ge 200, 3) := by decide +kernel
theorem dMM_patch_89 : decode cMM_patch 89 = .ok (.aload_n 0, 1) := by decide +kernel
theorem dMM_patch_90 : decode cMM_patch 90 = .ok (.getfield 37, 3) := by decide +kernel
theorem dMM_patch_93 : decode cMM_patch 93 = .ok (.iconst 4, 1) := by decide +kernel
theorem dMM_patch_94 : decode cMM_patch 94 = .ok (.iload 8, 2) := by decide +kernel
theorem dMM_patch_96 : decode cMM_patch 96 = .ok (.imul, 1) := by decide +kernel
theorem dMM_patch_97 : decode cMM_patch 97 = .ok (.iaload, 1) := by decide +kernel
theorem dMM_patch_98 : decode cMM_patch 98 = .ok (.iload 6, 2) := by decide +kernel
theorem dMM_patch_100 : decode cMM_patch 100 = .ok (.iadd, 1) := by decide +kernel
theorem dMM_patch_101 : decode cMM_patch 101 = .ok (.istore 9, 2) := by decide +kernel
theorem dMM_patch_103 : decode cMM_patch 103 = .ok (.iconst (-1), 1) := by decide +kernel
theorem dMM_patch_104 : decode cMM_patch 104 = .ok (.istore 10, 2) := by decide +kernel
theorem dMM_patch_106 : decode cMM_patch 106 = .ok (.aload_n 0, 1) := by decide +kernel
theorem dMM_patch_107 : decode cMM_patch 107 = .ok (.getfield 7, 3) := by decide +kernel
theorem dMM_patch_110 : decode cMM_patch 110 = .ok (.iload_n 3, 1) := by decide +kernel
theorem dMM_patch_111 : decode cMM_patch 111 = .ok (.iaload, 1) := by decide +kernel
theorem dMM_patch_112 : decode cMM_patch 112 = .ok (.istore 11, 2) := by decide +kernel
theorem dMM_patch_114 : decode cMM_patch 114 = .ok (.iload 11, 2) := by decide +kernel
theorem dMM_patch_116 : decode cMM_patch 116 = .ok (.iload 5, 2) := by decide +kernel
theorem dMM_patch_118 : decode cMM_patch 118 = .ok (.if_icmp .lt 64, 3) := by decide +kernel
theorem dMM_patch_121 : decode cMM_patch 121 = .ok (.iload 10, 2) := by decide +kernel
theorem dMM_patch_123 : decode cMM_patch 123 = .ok (.ifCond .lt 20, 3) := by decide +kernel
theorem dMM_patch_126 : decode cMM_patch 126 = .ok (.iload 11, 2) := by decide +kernel
theorem dMM_patch_128 : decode cMM_patch 128 = .ok (.iload 9, 2) := by decide +kernel
theorem dMM_patch_130 : decode cMM_patch 130 = .ok (.invokestatic 144, 3) := by decide +kernel
theorem dMM_patch_133 : decode cMM_patch 133 = .ok (.iload 10, 2) := by decide +kernel
theorem dMM_patch_135 : decode cMM_patch 135 = .ok (.iload 9, 2) := by decide +kernel
theorem dMM_patch_137 : decode cMM_patch 137 = .ok (.invokestatic 144, 3) := by decide +kernel
theorem dMM_patch_140 : decode cMM_patch 140 = .ok (.if_icmp .gt 7, 3) := by decide +kernel
theorem dMM_patch_143 : decode cMM_patch 143 = .ok (.iconst 1, 1) := by decide +kernel
theorem dMM_patch_144 : decode cMM_patch 144 = .ok (.goto 4, 3) := by decide +kernel
theorem dMM_patch_147 : decode cMM_patch 147 = .ok (.iconst 0, 1) := by decide +kernel
theorem dMM_patch_148 : decode cMM_patch 148 = .ok (.istore 12, 2) := by decide +kernel
theorem dMM_patch_150 : decode cMM_patch 150 = .ok (.iload 12, 2) := by decide +kernel
theorem dMM_patch_152 : decode cMM_patch 152 = .ok (.ifCond .eq 20, 3) := by decide +kernel
theorem dMM_patch_155 : decode cMM_patch 155 = .ok (.aload_n 0, 1) := by decide +kernel
theorem dMM_patch_156 : decode cMM_patch 156 = .ok (.iload 8, 2) := by decide +kernel
theorem dMM_patch_158 : decode cMM_patch 158 = .ok (.iload_n 3, 1) := by decide +kernel
theorem dMM_patch_159 : decode cMM_patch 159 = .ok (.iload 11, 2) := by decide +kernel
theorem dMM_patch_161 : decode cMM_patch 161 = .ok (.invokevirtual 148, 3) := by decide +kernel
theorem dMM_patch_164 : decode cMM_patch 164 = .ok (.ifCond .eq 8, 3) := by decide +kernel
theorem dMM_patch_167 : decode cMM_patch 167 = .ok (.iload 11, 2) := by decide +kernel
theorem dMM_patch_169 : decode cMM_patch 169 = .ok (.goto 5, 3) := by decide +kernel
theorem dMM_patch_172 : decode cMM_patch 172 = .ok (.iload 10, 2) := by decide +kernel
theorem dMM_patch_174 : decode cMM_patch 174 = .ok (.istore 10, 2) := by decide +kernel
theorem dMM_patch_176 : decode cMM_patch 176 = .ok (.iinc 11 (-1), 3) := by decide +kernel
theorem dMM_patch_179 : decode cMM_patch 179 = .ok (.goto (-65), 3) := by decide +kernel
theorem dMM_patch_182 : decode cMM_patch 182 = .ok (.iload 10, 2) := by decide +kernel
theorem dMM_patch_184 : decode cMM_patch 184 = .ok (.ifCond .ge 9, 3) := by decide +kernel
theorem dMM_patch_187 : decode cMM_patch 187 = .ok (.iinc 7 1, 3) := by decide +kernel
theorem dMM_patch_190 : decode cMM_patch 190 = .ok (.goto 90, 3) := by decide +kernel
theorem dMM_patch_193 : decode cMM_patch 193 = .ok (.aload_n 0, 1) := by decide +kernel
theorem dMM_patch_194 : decode cMM_patch 194 = .ok (.iload_n 3, 1) := by decide +kernel
theorem dMM_patch_195 : decode cMM_patch 195 = .ok (.iload 5, 2) := by decide +kernel
theorem dMM_patch_197 : decode cMM_patch 197 = .ok (.iload 10, 2) := by decide +kernel
theorem dMM_patch_199 : decode cMM_patch 199 = .ok (.invokevirtual 127, 3) := by decide +kernel
theorem dMM_patch_202 : decode cMM_patch 202 = .ok (.iconst 0, 1) := by decide +kernel
theorem dMM_patch_203 : decode cMM_patch 203 = .ok (.istore 11, 2) := by decide +kernel
theorem dMM_patch_205 : decode cMM_patch 205 = .ok (.iload 11, 2) := by decide +kernel
theorem dMM_patch_207 : decode cMM_patch 207 = .ok (.aload_n 0, 1) := by decide +kernel
theorem dMM_patch_208 : decode cMM_patch 208 = .ok (.getfield 37, 3) := by decide +kernel
theorem dMM_patch_211 : decode cMM_patch 211 = .ok (.iconst 4, 1) := by decide +kernel
theorem dMM_patch_212 : decode cMM_patch 212 = .ok (.iload 8, 2) := by decide +kernel
theorem dMM_patch_214 : decode cMM_patch 214 = .ok (.imul, 1) := by decide +kernel
theorem dMM_patch_215 : decode cMM_patch 215 = .ok (.iconst 3, 1) := by decide +kernel
theorem dMM_patch_216 : decode cMM_patch 216 = .ok (.iadd, 1) := by decide +kernel
theorem dMM_patch_217 : decode cMM_patch 217 = .ok (.iaload, 1) := by decide +kernel
theorem dMM_patch_218 : decode cMM_patch 218 = .ok (.if_icmp .ge 32, 3) := by decide +kernel
theorem dMM_patch_221 : decode cMM_patch 221 = .ok (.aload_n 0, 1) := by decide +kernel
theorem dMM_patch_222 : decode cMM_patch 222 = .ok (.aload_n 0, 1) := by decide +kernel
theorem dMM_patch_223 : decode cMM_patch 223 = .ok (.getfield 19, 3) := by decide +kernel
theorem dMM_patch_226 : decode cMM_patch 226 = .ok (.aload_n 0, 1) := by decide +kernel
theorem dMM_patch_227 : decode cMM_patch 227 = .ok (.getfield 37, 3) := by decide +kernel
theorem dMM_patch_230 : decode cMM_patch 230 = .ok (.iconst 4, 1) := by decide +kernel
theorem dMM_patch_231 : decode cMM_patch 231 = .ok (.iload 8, 2) := by decide +kernel
theorem dMM_patch_233 : decode cMM_patch 233 = .ok (.imul, 1) := by decide +kernel
theorem dMM_patch_234 : decode cMM_patch 234 = .ok (.iconst 2, 1) := by decide +kernel
theorem dMM_patch_235 : decode cMM_patch 235 = .ok (.iadd, 1) := by decide +kernel
theorem dMM_patch_236 : decode cMM_patch 236 = .ok (.iaload, 1) := by decide +kernel
theorem dMM_patch_237 : decode cMM_patch 237 = .ok (.iload 11, 2) := by decide +kernel
theorem dMM_patch_239 : decode cMM_patch 239 = .ok (.iadd, 1) := by decide +kernel
theorem dMM_patch_240 : decode cMM_patch 240 = .ok (.iaload, 1) := by decide +kernel
theorem dMM_patch_241 : decode cMM_patch 241 = .ok (.invokevirtual 119, 3) := by decide +kernel
theorem dMM_patch_244 : decode cMM_patch 244 = .ok (.iinc 11 1, 3) := by decide +kernel
theorem dMM_patch_247 : decode cMM_patch 247 = .ok (.goto (-42), 3) := by decide +kernel
theorem dMM_patch_250 : decode cMM_patch 250 = .ok (.iload 10, 2) := by decide +kernel
theorem dMM_patch_252 : decode cMM_patch 252 = .ok (.aload_n 0, 1) := by decide +kernel
theorem dMM_patch_253 : decode cMM_patch 253 = .ok (.getfield 37, 3) := by decide +kernel
theorem dMM_patch_256 : decode cMM_patch 256 = .ok (.iconst 4, 1) := by decide +kernel
theorem dMM_patch_257 : decode cMM_patch 257 = .ok (.iload 8, 2) := by decide +kernel
theorem dMM_patch_259 : decode cMM_patch 259 = .ok (.imul, 1) := by decide +kernel
theorem dMM_patch_260 : decode cMM_patch 260 = .ok (.iconst 1, 1) := by decide +kernel
theorem dMM_patch_261 : decode cMM_patch 261 = .ok (.iadd, 1) := by decide +kernel
theorem dMM_patch_262 : decode cMM_patch 262 = .ok (.iaload, 1) := by decide +kernel
theorem dMM_patch_263 : decode cMM_patch 263 = .ok (.iadd, 1) := by decide +kernel
theorem dMM_patch_264 : decode cMM_patch 264 = .ok (.istore 5, 2) := by decide +kernel
theorem dMM_patch_266 : decode cMM_patch 266 = .ok (.iload 10, 2) := by decide +kernel
theorem dMM_patch_268 : decode cMM_patch 268 = .ok (.aload_n 0, 1) := by decide +kernel
theorem dMM_patch_269 : decode cMM_patch 269 = .ok (.getfield 37, 3) := by decide +kernel
theorem dMM_patch_272 : decode cMM_patch 272 = .ok (.iconst 4, 1) := by decide +kernel
theorem dMM_patch_273 : decode cMM_patch 273 = .ok (.iload 8, 2) := by decide +kernel
theorem dMM_patch_275 : decode cMM_patch 275 = .ok (.imul, 1) := by decide +kernel
theorem dMM_patch_276 : decode cMM_patch 276 = .ok (.iaload, 1) := by decide +kernel
theorem dMM_patch_277 : decode cMM_patch 277 = .ok (.isub, 1) := by decide +kernel
theorem dMM_patch_278 : decode cMM_patch 278 = .ok (.istore 6, 2) := by decide +kernel
theorem dMM_patch_280 : decode cMM_patch 280 = .ok (.iinc 8 1, 3) := by decide +kernel
theorem dMM_patch_283 : decode cMM_patch 283 = .ok (.goto (-203), 3) := by decide +kernel
theorem dMM_patch_286 : decode cMM_patch 286 = .ok (.aload_n 0, 1) := by decide +kernel
theorem dMM_patch_287 : decode cMM_patch 287 = .ok (.iload_n 3, 1) := by decide +kernel
theorem dMM_patch_288 : decode cMM_patch 288 = .ok (.iload 5, 2) := by decide +kernel
theorem dMM_patch_290 : decode cMM_patch 290 = .ok (.aload_n 0, 1) := by decide +kernel
theorem dMM_patch_291 : decode cMM_patch 291 = .ok (.getfield 7, 3) := by decide +kernel
theorem dMM_patch_294 : decode cMM_patch 294 = .ok (.iload_n 3, 1) := by decide +kernel
theorem dMM_patch_295 : decode cMM_patch 295 = .ok (.iaload, 1) := by decide +kernel
theorem dMM_patch_296 : decode cMM_patch 296 = .ok (.invokevirtual 127, 3) := by decide +kernel
theorem dMM_patch_299 : decode cMM_patch 299 = .ok (.aload_n 0, 1) := by decide +kernel
theorem dMM_patch_300 : decode cMM_patch 300 = .ok (.iconst 0, 1) := by decide +kernel
theorem dMM_patch_301 : decode cMM_patch 301 = .ok (.aload_n 0, 1) := by decide +kernel
theorem dMM_patch_302 : decode cMM_patch 302 = .ok (.getfield 115, 3) := by decide +kernel
theorem dMM_patch_305 : decode cMM_patch 305 = .ok (.invokevirtual 72, 3) := by decide +kernel
theorem dMM_patch_308 : decode cMM_patch 308 = .ok (.ifCond .eq 5, 3) := by decide +kernel
theorem dMM_patch_311 : decode cMM_patch 311 = .ok (.iconst 0, 1) := by decide +kernel
theorem dMM_patch_312 : decode cMM_patch 312 = .ok (.ireturn, 1) := by decide +kernel
theorem dMM_patch_313 : decode cMM_patch 313 = .ok (.aload_n 0, 1) := by decide +kernel
theorem dMM_patch_314 : decode cMM_patch 314 = .ok (.iload 4, 2) := by decide +kernel
theorem dMM_patch_316 : decode cMM_patch 316 = .ok (.invokevirtual 138, 3) := by decide +kernel
theorem dMM_patch_319 : decode cMM_patch 319 = .ok (.iload 7, 2) := by decide +kernel
theorem dMM_patch_321 : decode cMM_patch 321 = .ok (.ireturn, 1) := by decide +kernel
theorem dMM_commit_0 : decode cMM_commit 0 = .ok (.iload_n 1, 1) := by decide +kernel
theorem dMM_commit_1 : decode cMM_commit 1 = .ok (.invokestatic 68, 3) := by decide +kernel
theorem dMM_commit_4 : decode cMM_commit 4 = .ok (.istore_n 2, 1) := by decide +kernel
theorem dMM_commit_5 : decode cMM_commit 5 = .ok (.aload_n 0, 1) := by decide +kernel
theorem dMM_commit_6 : decode cMM_commit 6 = .ok (.iload_n 2, 1) := by decide +kernel
theorem dMM_commit_7 : decode cMM_commit 7 = .ok (.ifCond .ne 7, 3) := by decide +kernel
theorem dMM_commit_10 : decode cMM_commit 10 = .ok (.iconst 1, 1) := by decide +kernel
theorem dMM_commit_11 : decode cMM_commit 11 = .ok (.goto 4, 3) := by decide +kernel
theorem dMM_commit_14 : decode cMM_commit 14 = .ok (.iconst 0, 1) := by decide +kernel
theorem dMM_commit_15 : decode cMM_commit 15 = .ok (.iload_n 2, 1) := by decide +kernel
theorem dMM_commit_16 : decode cMM_commit 16 = .ok (.ifCond .eq 16, 3) := by decide +kernel
theorem dMM_commit_19 : decode cMM_commit 19 = .ok (.aload_n 0, 1) := by decide +kernel
theorem dMM_commit_20 : decode cMM_commit 20 = .ok (.getfield 152, 3) := by decide +kernel
theorem dMM_commit_23 : decode cMM_commit 23 = .ok (.bipush 30, 2) := by decide +kernel
theorem dMM_commit_25 : decode cMM_commit 25 = .ok (.if_icmp .ne 7, 3) := by decide +kernel
theorem dMM_commit_28 : decode cMM_commit 28 = .ok (.iconst 1, 1) := by decide +kernel
theorem dMM_commit_29 : decode cMM_commit 29 = .ok (.goto 4, 3) := by decide +kernel
theorem dMM_commit_32 : decode cMM_commit 32 = .ok (.iconst 0, 1) := by decide +kernel
theorem dMM_commit_33 : decode cMM_commit 33 = .ok (.invokevirtual 72, 3) := by decide +kernel
theorem dMM_commit_36 : decode cMM_commit 36 = .ok (.ifCond .eq 5, 3) := by decide +kernel
theorem dMM_commit_39 : decode cMM_commit 39 = .ok (.iconst 0, 1) := by decide +kernel
theorem dMM_commit_40 : decode cMM_commit 40 = .ok (.ireturn, 1) := by decide +kernel
theorem dMM_commit_41 : decode cMM_commit 41 = .ok (.bipush 60, 2) := by decide +kernel
theorem dMM_commit_43 : decode cMM_commit 43 = .ok (.aload_n 0, 1) := by decide +kernel
theorem dMM_commit_44 : decode cMM_commit 44 = .ok (.getfield 152, 3) := by decide +kernel
theorem dMM_commit_47 : decode cMM_commit 47 = .ok (.imul, 1) := by decide +kernel
theorem dMM_commit_48 : decode cMM_commit 48 = .ok (.istore_n 3, 1) := by decide +kernel
theorem dMM_commit_49 : decode cMM_commit 49 = .ok (.aload_n 0, 1) := by decide +kernel
theorem dMM_commit_50 : decode cMM_commit 50 = .ok (.getfield 55, 3) := by decide +kernel
theorem dMM_commit_53 : decode cMM_commit 53 = .ok (.aload_n 0, 1) := by decide +kernel
theorem dMM_commit_54 : decode cMM_commit 54 = .ok (.getfield 152, 3) := by decide +kernel
theorem dMM_commit_57 : decode cMM_commit 57 = .ok (.aload_n 0, 1) := by decide +kernel
theorem dMM_commit_58 : decode cMM_commit 58 = .ok (.getfield 7, 3) := by decide +kernel
theorem dMM_commit_61 : decode cMM_commit 61 = .ok (.iload_n 1, 1) := by decide +kernel
theorem dMM_commit_62 : decode cMM_commit 62 = .ok (.iaload, 1) := by decide +kernel
theorem dMM_commit_63 : decode cMM_commit 63 = .ok (.iastore, 1) := by decide +kernel
theorem dMM_commit_64 : decode cMM_commit 64 = .ok (.iconst 0, 1) := by decide +kernel
theorem dMM_commit_65 : decode cMM_commit 65 = .ok (.istore 4, 2) := by decide +kernel
theorem dMM_commit_67 : decode cMM_commit 67 = .ok (.iload 4, 2) := by decide +kernel
theorem dMM_commit_69 : decode cMM_commit 69 = .ok (.aload_n 0, 1) := by decide +kernel
theorem dMM_commit_70 : decode cMM_commit 70 = .ok (.getfield 7, 3) := by decide +kernel
theorem dMM_commit_73 : decode cMM_commit 73 = .ok (.iload_n 1, 1) := by decide +kernel
theorem dMM_commit_74 : decode cMM_commit 74 = .ok (.iaload, 1) := by decide +kernel
theorem dMM_commit_75 : decode cMM_commit 75 = .ok (.if_icmp .ge 43, 3) := by decide +kernel
theorem dMM_commit_78 : decode cMM_commit 78 = .ok (.aload_n 0, 1) := by decide +kernel
theorem dMM_commit_79 : decode cMM_commit 79 = .ok (.getfield 58, 3) := by decide +kernel
theorem dMM_commit_82 : decode cMM_commit 82 = .ok (.iload_n 3, 1) := by decide +kernel
theorem dMM_commit_83 : decode cMM_commit 83 = .ok (.iload 4, 2) := by decide +kernel
theorem dMM_commit_85 : decode cMM_commit 85 = .ok (.iadd, 1) := by decide +kernel
theorem dMM_commit_86 : decode cMM_commit 86 = .ok (.aload_n 0, 1) := by decide +kernel
theorem dMM_commit_87 : decode cMM_commit 87 = .ok (.getfield 13, 3) := by decide +kernel
theorem dMM_commit_90 : decode cMM_commit 90 = .ok (.bipush 60, 2) := by decide +kernel
theorem dMM_commit_92 : decode cMM_commit 92 = .ok (.iload_n 1, 1) := by decide +kernel
theorem dMM_commit_93 : decode cMM_commit 93 = .ok (.imul, 1) := by decide +kernel
theorem dMM_commit_94 : decode cMM_commit 94 = .ok (.iload 4, 2) := by decide +kernel
theorem dMM_commit_96 : decode cMM_commit 96 = .ok (.iadd, 1) := by decide +kernel
theorem dMM_commit_97 : decode cMM_commit 97 = .ok (.iaload, 1) := by decide +kernel
theorem dMM_commit_98 : decode cMM_commit 98 = .ok (.iastore, 1) := by decide +kernel
theorem dMM_commit_99 : decode cMM_commit 99 = .ok (.aload_n 0, 1) := by decide +kernel
theorem dMM_commit_100 : decode cMM_commit 100 = .ok (.getfield 61, 3) := by decide +kernel
theorem dMM_commit_103 : decode cMM_commit 103 = .ok (.iload_n 3, 1) := by decide +kernel
theorem dMM_commit_104 : decode cMM_commit 104 = .ok (.iload 4, 2) := by decide +kernel
theorem dMM_commit_106 : decode cMM_commit 106 = .ok (.iadd, 1) := by decide +kernel
theorem dMM_commit_107 : decode cMM_commit 107 = .ok (.aload_n 0, 1) := by decide +kernel
theorem dMM_commit_108 : decode cMM_commit 108 = .ok (.getfield 152, 3) := by decide +kernel
theorem dMM_commit_111 : decode cMM_commit 111 = .ok (.iastore, 1) := by decide +kernel
theorem dMM_commit_112 : decode cMM_commit 112 = .ok (.iinc 4 1, 3) := by decide +kernel
theorem dMM_commit_115 : decode cMM_commit 115 = .ok (.goto (-48), 3) := by decide +kernel
theorem dMM_commit_118 : decode cMM_commit 118 = .ok (.aload_n 0, 1) := by decide +kernel
theorem dMM_commit_119 : decode cMM_commit 119 = .ok (.getfield 152, 3) := by decide +kernel
theorem dMM_commit_122 : decode cMM_commit 122 = .ok (.ifCond .le 99, 3) := by decide +kernel
theorem dMM_commit_125 : decode cMM_commit 125 = .ok (.aload_n 0, 1) := by decide +kernel
theorem dMM_commit_126 : decode cMM_commit 126 = .ok (.aload_n 0, 1) := by decide +kernel
theorem dMM_commit_127 : decode cMM_commit 127 = .ok (.getfield 58, 3) := by decide +kernel
theorem dMM_commit_130 : decode cMM_commit 130 = .ok (.iload_n 3, 1) := by decide +kernel
theorem dMM_commit_131 : decode cMM_commit 131 = .ok (.bipush 60, 2) := by decide +kernel
theorem dMM_commit_133 : decode cMM_commit 133 = .ok (.isub, 1) := by decide +kernel
theorem dMM_commit_134 : decode cMM_commit 134 = .ok (.aload_n 0, 1) := by decide +kernel
theorem dMM_commit_135 : decode cMM_commit 135 = .ok (.getfield 55, 3) := by decide +kernel
theorem dMM_commit_138 : decode cMM_commit 138 = .ok (.aload_n 0, 1) := by decide +kernel
theorem dMM_commit_139 : decode cMM_commit 139 = .ok (.getfield 152, 3) := by decide +kernel
theorem dMM_commit_142 : decode cMM_commit 142 = .ok (.iconst 1, 1) := by decide +kernel
theorem dMM_commit_143 : decode cMM_commit 143 = .ok (.isub, 1) := by decide +kernel
theorem dMM_commit_144 : decode cMM_commit 144 = .ok (.iaload, 1) := by decide +kernel
theorem dMM_commit_145 : decode cMM_commit 145 = .ok (.invokevirtual 82, 3) := by decide +kernel
theorem dMM_commit_148 : decode cMM_commit 148 = .ok (.aload_n 0, 1) := by decide +kernel
theorem dMM_commit_149 : decode cMM_commit 149 = .ok (.aload_n 0, 1) := by decide +kernel
theorem dMM_commit_150 : decode cMM_commit 150 = .ok (.getfield 58, 3) := by decide +kernel
theorem dMM_commit_153 : decode cMM_commit 153 = .ok (.iload_n 3, 1) := by decide +kernel
theorem dMM_commit_154 : decode cMM_commit 154 = .ok (.aload_n 0, 1) := by decide +kernel
theorem dMM_commit_155 : decode cMM_commit 155 = .ok (.getfield 7, 3) := by decide +kernel
theorem dMM_commit_158 : decode cMM_commit 158 = .ok (.iload_n 1, 1) := by decide +kernel
theorem dMM_commit_159 : decode cMM_commit 159 = .ok (.iaload, 1) := by decide +kernel
theorem dMM_commit_160 : decode cMM_commit 160 = .ok (.invokevirtual 86, 3) := by decide +kernel
theorem dMM_commit_163 : decode cMM_commit 163 = .ok (.aload_n 0, 1) := by decide +kernel
theorem dMM_commit_164 : decode cMM_commit 164 = .ok (.invokevirtual 93, 3) := by decide +kernel
theorem dMM_commit_167 : decode cMM_commit 167 = .ok (.iconst 0, 1) := by decide +kernel
theorem dMM_commit_168 : decode cMM_commit 168 = .ok (.istore 4, 2) := by decide +kernel
theorem dMM_commit_170 : decode cMM_commit 170 = .ok (.iload 4, 2) := by decide +kernel
theorem dMM_commit_172 : decode cMM_commit 172 = .ok (.aload_n 0, 1) := by decide +kernel
theorem dMM_commit_173 : decode cMM_commit 173 = .ok (.getfield 76, 3) := by decide +kernel
theorem dMM_commit_176 : decode cMM_commit 176 = .ok (.if_icmp .ge 45, 3) := by decide +kernel
theorem dMM_commit_179 : decode cMM_commit 179 = .ok (.aload_n 0, 1) := by decide +kernel
theorem dMM_commit_180 : decode cMM_commit 180 = .ok (.getfield 25, 3) := by decide +kernel
theorem dMM_commit_183 : decode cMM_commit 183 = .ok (.iload 4, 2) := by decide +kernel
theorem dMM_commit_185 : decode cMM_commit 185 = .ok (.iaload, 1) := by decide +kernel
theorem dMM_commit_186 : decode cMM_commit 186 = .ok (.ifCond .lt 29, 3) := by decide +kernel
theorem dMM_commit_189 : decode cMM_commit 189 = .ok (.aload_n 0, 1) := by decide +kernel
theorem dMM_commit_190 : decode cMM_commit 190 = .ok (.getfield 61, 3) := by decide +kernel
theorem dMM_commit_193 : decode cMM_commit 193 = .ok (.iload_n 3, 1) := by decide +kernel
theorem dMM_commit_194 : decode cMM_commit 194 = .ok (.aload_n 0, 1) := by decide +kernel
theorem dMM_commit_195 : decode cMM_commit 195 = .ok (.getfield 25, 3) := by decide +kernel
theorem dMM_commit_198 : decode cMM_commit 198 = .ok (.iload 4, 2) := by decide +kernel
theorem dMM_commit_200 : decode cMM_commit 200 = .ok (.iaload, 1) := by decide +kernel
theorem dMM_commit_201 : decode cMM_commit 201 = .ok (.iadd, 1) := by decide +kernel
theorem dMM_commit_202 : decode cMM_commit 202 = .ok (.aload_n 0, 1) := by decide +kernel
theorem dMM_commit_203 : decode cMM_commit 203 = .ok (.getfield 61, 3) := by decide +kernel
theorem dMM_commit_206 : decode cMM_commit 206 = .ok (.iload_n 3, 1) := by decide +kernel
theorem dMM_commit_207 : decode cMM_commit 207 = .ok (.bipush 60, 2) := by decide +kernel
theorem dMM_commit_209 : decode cMM_commit 209 = .ok (.isub, 1) := by decide +kernel
theorem dMM_commit_210 : decode cMM_commit 210 = .ok (.iload 4, 2) := by decide +kernel
theorem dMM_commit_212 : decode cMM_commit 212 = .ok (.iadd, 1) := by decide +kernel
theorem dMM_commit_213 : decode cMM_commit 213 = .ok (.iaload, 1) := by decide +kernel
theorem dMM_commit_214 : decode cMM_commit 214 = .ok (.iastore, 1) := by decide +kernel
theorem dMM_commit_215 : decode cMM_commit 215 = .ok (.iinc 4 1, 3) := by decide +kernel
theorem dMM_commit_218 : decode cMM_commit 218 = .ok (.goto (-48), 3) := by decide +kernel
theorem dMM_commit_221 : decode cMM_commit 221 = .ok (.aload_n 0, 1) := by decide +kernel
theorem dMM_commit_222 : decode cMM_commit 222 = .ok (.dup, 1) := by decide +kernel
theorem dMM_commit_223 : decode cMM_commit 223 = .ok (.getfield 152, 3) := by decide +kernel
theorem dMM_commit_226 : decode cMM_commit 226 = .ok (.iconst 1, 1) := by decide +kernel
theorem dMM_commit_227 : decode cMM_commit 227 = .ok (.iadd, 1) := by decide +kernel
theorem dMM_commit_228 : decode cMM_commit 228 = .ok (.putfield 152, 3) := by decide +kernel
theorem dMM_commit_231 : decode cMM_commit 231 = .ok (.aload_n 0, 1) := by decide +kernel
theorem dMM_commit_232 : decode cMM_commit 232 = .ok (.getfield 152, 3) := by decide +kernel
theorem dMM_commit_235 : decode cMM_commit 235 = .ok (.iconst 1, 1) := by decide +kernel
theorem dMM_commit_236 : decode cMM_commit 236 = .ok (.isub, 1) := by decide +kernel
theorem dMM_commit_237 : decode cMM_commit 237 = .ok (.ireturn, 1) := by decide +kernel
theorem dMM_origin_0 : decode cMM_origin 0 = .ok (.iload_n 1, 1) := by decide +kernel
theorem dMM_origin_1 : decode cMM_origin 1 = .ok (.ifCond .lt 15, 3) := by decide +kernel
theorem dMM_origin_4 : decode cMM_origin 4 = .ok (.iload_n 1, 1) := by decide +kernel
theorem dMM_origin_5 : decode cMM_origin 5 = .ok (.aload_n 0, 1) := by decide +kernel
theorem dMM_origin_6 : decode cMM_origin 6 = .ok (.getfield 152, 3) := by decide +kernel
theorem dMM_origin_9 : decode cMM_origin 9 = .ok (.if_icmp .ge 7, 3) := by decide +kernel
theorem dMM_origin_12 : decode cMM_origin 12 = .ok (.iconst 1, 1) := by decide +kernel
theorem dMM_origin_13 : decode cMM_origin 13 = .ok (.goto 4, 3) := by decide +kernel
theorem dMM_origin_16 : decode cMM_origin 16 = .ok (.iconst 0, 1) := by decide +kernel
theorem dMM_origin_17 : decode cMM_origin 17 = .ok (.istore_n 3, 1) := by decide +kernel
theorem dMM_origin_18 : decode cMM_origin 18 = .ok (.aload_n 0, 1) := by decide +kernel
theorem dMM_origin_19 : decode cMM_origin 19 = .ok (.iload_n 3, 1) := by decide +kernel
theorem dMM_origin_20 : decode cMM_origin 20 = .ok (.ifCond .ne 7, 3) := by decide +kernel
theorem dMM_origin_23 : decode cMM_origin 23 = .ok (.iconst 1, 1) := by decide +kernel
theorem dMM_origin_24 : decode cMM_origin 24 = .ok (.goto 4, 3) := by decide +kernel
theorem dMM_origin_27 : decode cMM_origin 27 = .ok (.iconst 0, 1) := by decide +kernel
theorem dMM_origin_28 : decode cMM_origin 28 = .ok (.iload_n 3, 1) := by decide +kernel
theorem dMM_origin_29 : decode cMM_origin 29 = .ok (.ifCond .eq 29, 3) := by decide +kernel
theorem dMM_origin_32 : decode cMM_origin 32 = .ok (.iload_n 2, 1) := by decide +kernel
theorem dMM_origin_33 : decode cMM_origin 33 = .ok (.ifCond .lt 21, 3) := by decide +kernel
theorem dMM_origin_36 : decode cMM_origin 36 = .ok (.iload_n 2, 1) := by decide +kernel
theorem dMM_origin_37 : decode cMM_origin 37 = .ok (.aload_n 0, 1) := by decide +kernel
theorem dMM_origin_38 : decode cMM_origin 38 = .ok (.getfield 55, 3) := by decide +kernel
theorem dMM_origin_41 : decode cMM_origin 41 = .ok (.iload_n 3, 1) := by decide +kernel
theorem dMM_origin_42 : decode cMM_origin 42 = .ok (.ifCond .eq 7, 3) := by decide +kernel
theorem dMM_origin_45 : decode cMM_origin 45 = .ok (.iload_n 1, 1) := by decide +kernel
theorem dMM_origin_46 : decode cMM_origin 46 = .ok (.goto 4, 3) := by decide +kernel
theorem dMM_origin_49 : decode cMM_origin 49 = .ok (.iconst 0, 1) := by decide +kernel
theorem dMM_origin_50 : decode cMM_origin 50 = .ok (.iaload, 1) := by decide +kernel
theorem dMM_origin_51 : decode cMM_origin 51 = .ok (.if_icmp .lt 7, 3) := by decide +kernel
theorem dMM_origin_54 : decode cMM_origin 54 = .ok (.iconst 1, 1) := by decide +kernel
theorem dMM_origin_55 : decode cMM_origin 55 = .ok (.goto 4, 3) := by decide +kernel
theorem dMM_origin_58 : decode cMM_origin 58 = .ok (.iconst 0, 1) := by decide +kernel
theorem dMM_origin_59 : decode cMM_origin 59 = .ok (.invokevirtual 72, 3) := by decide +kernel
theorem dMM_origin_62 : decode cMM_origin 62 = .ok (.ifCond .eq 5, 3) := by decide +kernel
theorem dMM_origin_65 : decode cMM_origin 65 = .ok (.iconst 0, 1) := by decide +kernel
theorem dMM_origin_66 : decode cMM_origin 66 = .ok (.ireturn, 1) := by decide +kernel
theorem dMM_origin_67 : decode cMM_origin 67 = .ok (.aload_n 0, 1) := by decide +kernel
theorem dMM_origin_68 : decode cMM_origin 68 = .ok (.getfield 61, 3) := by decide +kernel
theorem dMM_origin_71 : decode cMM_origin 71 = .ok (.bipush 60, 2) := by decide +kernel
theorem dMM_origin_73 : decode cMM_origin 73 = .ok (.iload_n 1, 1) := by decide +kernel
theorem dMM_origin_74 : decode cMM_origin 74 = .ok (.imul, 1) := by decide +kernel
theorem dMM_origin_75 : decode cMM_origin 75 = .ok (.iload_n 2, 1) := by decide +kernel
theorem dMM_origin_76 : decode cMM_origin 76 = .ok (.iadd, 1) := by decide +kernel
theorem dMM_origin_77 : decode cMM_origin 77 = .ok (.iaload, 1) := by decide +kernel
theorem dMM_origin_78 : decode cMM_origin 78 = .ok (.ireturn, 1) := by decide +kernel
