theorem dLa_law_0 : decode cLa_law 0 = .ok (.new 8, 3) := by decide +kernel
theorem dLa_law_3 : decode cLa_law 3 = .ok (.dup, 1) := by decide +kernel
theorem dLa_law_4 : decode cLa_law 4 = .ok (.invokespecial 58, 3) := by decide +kernel
theorem dLa_law_7 : decode cLa_law 7 = .ok (.astore_n 1, 1) := by decide +kernel
theorem dLa_law_8 : decode cLa_law 8 = .ok (.new 59, 3) := by decide +kernel
theorem dLa_law_11 : decode cLa_law 11 = .ok (.dup, 1) := by decide +kernel
theorem dLa_law_12 : decode cLa_law 12 = .ok (.invokespecial 61, 3) := by decide +kernel
theorem dLa_law_15 : decode cLa_law 15 = .ok (.astore_n 2, 1) := by decide +kernel
theorem dLa_law_16 : decode cLa_law 16 = .ok (.iconst 1, 1) := by decide +kernel
theorem dLa_law_17 : decode cLa_law 17 = .ok (.newarray .long, 2) := by decide +kernel
theorem dLa_law_19 : decode cLa_law 19 = .ok (.astore_n 3, 1) := by decide +kernel
theorem dLa_law_20 : decode cLa_law 20 = .ok (.iconst 0, 1) := by decide +kernel
theorem dLa_law_21 : decode cLa_law 21 = .ok (.istore 4, 2) := by decide +kernel
theorem dLa_law_23 : decode cLa_law 23 = .ok (.iload 4, 2) := by decide +kernel
theorem dLa_law_25 : decode cLa_law 25 = .ok (.aload_n 0, 1) := by decide +kernel
theorem dLa_law_26 : decode cLa_law 26 = .ok (.arraylength, 1) := by decide +kernel
theorem dLa_law_27 : decode cLa_law 27 = .ok (.iconst 5, 1) := by decide +kernel
theorem dLa_law_28 : decode cLa_law 28 = .ok (.isub, 1) := by decide +kernel
theorem dLa_law_29 : decode cLa_law 29 = .ok (.if_icmp .gt 957, 3) := by decide +kernel
theorem dLa_law_32 : decode cLa_law 32 = .ok (.aload_n 0, 1) := by decide +kernel
theorem dLa_law_33 : decode cLa_law 33 = .ok (.iload 4, 2) := by decide +kernel
theorem dLa_law_35 : decode cLa_law 35 = .ok (.iaload, 1) := by decide +kernel
theorem dLa_law_36 : decode cLa_law 36 = .ok (.bipush 15, 2) := by decide +kernel
theorem dLa_law_38 : decode cLa_law 38 = .ok (.iand, 1) := by decide +kernel
theorem dLa_law_39 : decode cLa_law 39 = .ok (.tableswitch 941 0 12 #[65, 133, 169, 225, 293, 361, 429, 497, 565, 657, 725, 817, 873], 65) := by decide +kernel
theorem dLa_law_104 : decode cLa_law 104 = .ok (.aload_n 1, 1) := by decide +kernel
theorem dLa_law_105 : decode cLa_law 105 = .ok (.aload_n 0, 1) := by decide +kernel
theorem dLa_law_106 : decode cLa_law 106 = .ok (.iload 4, 2) := by decide +kernel
theorem dLa_law_108 : decode cLa_law 108 = .ok (.iconst 1, 1) := by decide +kernel
theorem dLa_law_109 : decode cLa_law 109 = .ok (.iadd, 1) := by decide +kernel
theorem dLa_law_110 : decode cLa_law 110 = .ok (.iaload, 1) := by decide +kernel
theorem dLa_law_111 : decode cLa_law 111 = .ok (.aload_n 0, 1) := by decide +kernel
theorem dLa_law_112 : decode cLa_law 112 = .ok (.iload 4, 2) := by decide +kernel
theorem dLa_law_114 : decode cLa_law 114 = .ok (.iconst 2, 1) := by decide +kernel
theorem dLa_law_115 : decode cLa_law 115 = .ok (.iadd, 1) := by decide +kernel
theorem dLa_law_116 : decode cLa_law 116 = .ok (.iaload, 1) := by decide +kernel
theorem dLa_law_117 : decode cLa_law 117 = .ok (.aload_n 3, 1) := by decide +kernel
theorem dLa_law_118 : decode cLa_law 118 = .ok (.invokestatic 62, 3) := by decide +kernel
theorem dLa_law_121 : decode cLa_law 121 = .ok (.istore 5, 2) := by decide +kernel
theorem dLa_law_123 : decode cLa_law 123 = .ok (.aload_n 2, 1) := by decide +kernel
theorem dLa_law_124 : decode cLa_law 124 = .ok (.aload_n 0, 1) := by decide +kernel
theorem dLa_law_125 : decode cLa_law 125 = .ok (.iload 4, 2) := by decide +kernel
theorem dLa_law_127 : decode cLa_law 127 = .ok (.iconst 1, 1) := by decide +kernel
theorem dLa_law_128 : decode cLa_law 128 = .ok (.iadd, 1) := by decide +kernel
theorem dLa_law_129 : decode cLa_law 129 = .ok (.iaload, 1) := by decide +kernel
theorem dLa_law_130 : decode cLa_law 130 = .ok (.aload_n 0, 1) := by decide +kernel
theorem dLa_law_131 : decode cLa_law 131 = .ok (.iload 4, 2) := by decide +kernel
theorem dLa_law_133 : decode cLa_law 133 = .ok (.iconst 2, 1) := by decide +kernel
theorem dLa_law_134 : decode cLa_law 134 = .ok (.iadd, 1) := by decide +kernel
theorem dLa_law_135 : decode cLa_law 135 = .ok (.iaload, 1) := by decide +kernel
theorem dLa_law_136 : decode cLa_law 136 = .ok (.invokevirtual 67, 3) := by decide +kernel
theorem dLa_law_139 : decode cLa_law 139 = .ok (.istore 6, 2) := by decide +kernel
theorem dLa_law_141 : decode cLa_law 141 = .ok (.aload_n 2, 1) := by decide +kernel
theorem dLa_law_142 : decode cLa_law 142 = .ok (.invokevirtual 68, 3) := by decide +kernel
theorem dLa_law_145 : decode cLa_law 145 = .ok (.iload 5, 2) := by decide +kernel
theorem dLa_law_147 : decode cLa_law 147 = .ok (.if_icmp .eq 5, 3) := by decide +kernel
theorem dLa_law_150 : decode cLa_law 150 = .ok (.iconst 0, 1) := by decide +kernel
theorem dLa_law_151 : decode cLa_law 151 = .ok (.ireturn, 1) := by decide +kernel
theorem dLa_law_152 : decode cLa_law 152 = .ok (.iload 5, 2) := by decide +kernel
theorem dLa_law_154 : decode cLa_law 154 = .ok (.ifCond .ne 15, 3) := by decide +kernel
