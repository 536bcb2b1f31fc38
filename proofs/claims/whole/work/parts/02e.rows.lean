theorem dX7_init_0 : decode cX7_init 0 = .ok (.aload_n 0, 1) := by decide +kernel
theorem dX7_init_1 : decode cX7_init 1 = .ok (.invokespecial 1, 3) := by decide +kernel
theorem dX7_init_4 : decode cX7_init 4 = .ok (.aload_n 0, 1) := by decide +kernel
theorem dX7_init_5 : decode cX7_init 5 = .ok (.bipush 8, 2) := by decide +kernel
theorem dX7_init_7 : decode cX7_init 7 = .ok (.newarray .int, 2) := by decide +kernel
theorem dX7_init_9 : decode cX7_init 9 = .ok (.putfield 7, 3) := by decide +kernel
theorem dX7_init_12 : decode cX7_init 12 = .ok (.aload_n 0, 1) := by decide +kernel
theorem dX7_init_13 : decode cX7_init 13 = .ok (.bipush 8, 2) := by decide +kernel
theorem dX7_init_15 : decode cX7_init 15 = .ok (.newarray .int, 2) := by decide +kernel
theorem dX7_init_17 : decode cX7_init 17 = .ok (.putfield 13, 3) := by decide +kernel
theorem dX7_init_20 : decode cX7_init 20 = .ok (.aload_n 0, 1) := by decide +kernel
theorem dX7_init_21 : decode cX7_init 21 = .ok (.sipush 1280, 3) := by decide +kernel
theorem dX7_init_24 : decode cX7_init 24 = .ok (.newarray .long, 2) := by decide +kernel
theorem dX7_init_26 : decode cX7_init 26 = .ok (.putfield 16, 3) := by decide +kernel
theorem dX7_init_29 : decode cX7_init 29 = .ok (.aload_n 0, 1) := by decide +kernel
theorem dX7_init_30 : decode cX7_init 30 = .ok (.bipush 10, 2) := by decide +kernel
theorem dX7_init_32 : decode cX7_init 32 = .ok (.newarray .int, 2) := by decide +kernel
theorem dX7_init_34 : decode cX7_init 34 = .ok (.putfield 20, 3) := by decide +kernel
theorem dX7_init_37 : decode cX7_init 37 = .ok (.aload_n 0, 1) := by decide +kernel
theorem dX7_init_38 : decode cX7_init 38 = .ok (.bipush 10, 2) := by decide +kernel
theorem dX7_init_40 : decode cX7_init 40 = .ok (.newarray .int, 2) := by decide +kernel
theorem dX7_init_42 : decode cX7_init 42 = .ok (.putfield 23, 3) := by decide +kernel
theorem dX7_init_45 : decode cX7_init 45 = .ok (.aload_n 0, 1) := by decide +kernel
theorem dX7_init_46 : decode cX7_init 46 = .ok (.bipush 10, 2) := by decide +kernel
theorem dX7_init_48 : decode cX7_init 48 = .ok (.newarray .int, 2) := by decide +kernel
theorem dX7_init_50 : decode cX7_init 50 = .ok (.putfield 26, 3) := by decide +kernel
theorem dX7_init_53 : decode cX7_init 53 = .ok (.aload_n 0, 1) := by decide +kernel
theorem dX7_init_54 : decode cX7_init 54 = .ok (.bipush 10, 2) := by decide +kernel
theorem dX7_init_56 : decode cX7_init 56 = .ok (.newarray .int, 2) := by decide +kernel
theorem dX7_init_58 : decode cX7_init 58 = .ok (.putfield 29, 3) := by decide +kernel
theorem dX7_init_61 : decode cX7_init 61 = .ok (.aload_n 0, 1) := by decide +kernel
theorem dX7_init_62 : decode cX7_init 62 = .ok (.bipush 10, 2) := by decide +kernel
theorem dX7_init_64 : decode cX7_init 64 = .ok (.newarray .int, 2) := by decide +kernel
theorem dX7_init_66 : decode cX7_init 66 = .ok (.putfield 32, 3) := by decide +kernel
theorem dX7_init_69 : decode cX7_init 69 = .ok (.aload_n 0, 1) := by decide +kernel
theorem dX7_init_70 : decode cX7_init 70 = .ok (.bipush 10, 2) := by decide +kernel
theorem dX7_init_72 : decode cX7_init 72 = .ok (.newarray .int, 2) := by decide +kernel
theorem dX7_init_74 : decode cX7_init 74 = .ok (.putfield 35, 3) := by decide +kernel
theorem dX7_init_77 : decode cX7_init 77 = .ok (.aload_n 0, 1) := by decide +kernel
theorem dX7_init_78 : decode cX7_init 78 = .ok (.bipush 100, 2) := by decide +kernel
theorem dX7_init_80 : decode cX7_init 80 = .ok (.newarray .int, 2) := by decide +kernel
theorem dX7_init_82 : decode cX7_init 82 = .ok (.putfield 38, 3) := by decide +kernel
theorem dX7_init_85 : decode cX7_init 85 = .ok (.aload_n 0, 1) := by decide +kernel
theorem dX7_init_86 : decode cX7_init 86 = .ok (.bipush 6, 2) := by decide +kernel
theorem dX7_init_88 : decode cX7_init 88 = .ok (.newarray .int, 2) := by decide +kernel
theorem dX7_init_90 : decode cX7_init 90 = .ok (.putfield 41, 3) := by decide +kernel
theorem dX7_init_93 : decode cX7_init 93 = .ok (.aload_n 0, 1) := by decide +kernel
theorem dX7_init_94 : decode cX7_init 94 = .ok (.bipush 6, 2) := by decide +kernel
theorem dX7_init_96 : decode cX7_init 96 = .ok (.newarray .int, 2) := by decide +kernel
theorem dX7_init_98 : decode cX7_init 98 = .ok (.putfield 44, 3) := by decide +kernel
theorem dX7_init_101 : decode cX7_init 101 = .ok (.aload_n 0, 1) := by decide +kernel
theorem dX7_init_102 : decode cX7_init 102 = .ok (.bipush 8, 2) := by decide +kernel
theorem dX7_init_104 : decode cX7_init 104 = .ok (.newarray .int, 2) := by decide +kernel
theorem dX7_init_106 : decode cX7_init 106 = .ok (.putfield 47, 3) := by decide +kernel
theorem dX7_init_109 : decode cX7_init 109 = .ok (.aload_n 0, 1) := by decide +kernel
theorem dX7_init_110 : decode cX7_init 110 = .ok (.bipush 8, 2) := by decide +kernel
theorem dX7_init_112 : decode cX7_init 112 = .ok (.newarray .int, 2) := by decide +kernel
theorem dX7_init_114 : decode cX7_init 114 = .ok (.putfield 50, 3) := by decide +kernel
theorem dX7_init_117 : decode cX7_init 117 = .ok (.aload_n 0, 1) := by decide +kernel
theorem dX7_init_118 : decode cX7_init 118 = .ok (.bipush 8, 2) := by decide +kernel
theorem dX7_init_120 : decode cX7_init 120 = .ok (.newarray .int, 2) := by decide +kernel
theorem dX7_init_122 : decode cX7_init 122 = .ok (.putfield 53, 3) := by decide +kernel
theorem dX7_init_125 : decode cX7_init 125 = .ok (.aload_n 0, 1) := by decide +kernel
theorem dX7_init_126 : decode cX7_init 126 = .ok (.bipush 20, 2) := by decide +kernel
theorem dX7_init_128 : decode cX7_init 128 = .ok (.newarray .int, 2) := by decide +kernel
theorem dX7_init_130 : decode cX7_init 130 = .ok (.putfield 56, 3) := by decide +kernel
theorem dX7_init_133 : decode cX7_init 133 = .ok (.aload_n 0, 1) := by decide +kernel
theorem dX7_init_134 : decode cX7_init 134 = .ok (.sipush 193, 3) := by decide +kernel
theorem dX7_init_137 : decode cX7_init 137 = .ok (.newarray .int, 2) := by decide +kernel
theorem dX7_init_139 : decode cX7_init 139 = .ok (.putfield 59, 3) := by decide +kernel
theorem dX7_init_142 : decode cX7_init 142 = .ok (.aload_n 0, 1) := by decide +kernel
theorem dX7_init_143 : decode cX7_init 143 = .ok (.sipush 193, 3) := by decide +kernel
theorem dX7_init_146 : decode cX7_init 146 = .ok (.newarray .int, 2) := by decide +kernel
theorem dX7_init_148 : decode cX7_init 148 = .ok (.putfield 62, 3) := by decide +kernel
theorem dX7_init_151 : decode cX7_init 151 = .ok (.aload_n 0, 1) := by decide +kernel
theorem dX7_init_152 : decode cX7_init 152 = .ok (.sipush 193, 3) := by decide +kernel
theorem dX7_init_155 : decode cX7_init 155 = .ok (.newarray .int, 2) := by decide +kernel
theorem dX7_init_157 : decode cX7_init 157 = .ok (.putfield 65, 3) := by decide +kernel
theorem dX7_init_160 : decode cX7_init 160 = .ok (.aload_n 0, 1) := by decide +kernel
theorem dX7_init_161 : decode cX7_init 161 = .ok (.sipush 193, 3) := by decide +kernel
theorem dX7_init_164 : decode cX7_init 164 = .ok (.newarray .int, 2) := by decide +kernel
theorem dX7_init_166 : decode cX7_init 166 = .ok (.putfield 68, 3) := by decide +kernel
theorem dX7_init_169 : decode cX7_init 169 = .ok (.aload_n 0, 1) := by decide +kernel
theorem dX7_init_170 : decode cX7_init 170 = .ok (.iconst 3, 1) := by decide +kernel
theorem dX7_init_171 : decode cX7_init 171 = .ok (.newarray .int, 2) := by decide +kernel
theorem dX7_init_173 : decode cX7_init 173 = .ok (.putfield 71, 3) := by decide +kernel
theorem dX7_init_176 : decode cX7_init 176 = .ok (.aload_n 0, 1) := by decide +kernel
theorem dX7_init_177 : decode cX7_init 177 = .ok (.iconst 3, 1) := by decide +kernel
theorem dX7_init_178 : decode cX7_init 178 = .ok (.newarray .int, 2) := by decide +kernel
theorem dX7_init_180 : decode cX7_init 180 = .ok (.putfield 74, 3) := by decide +kernel
theorem dX7_init_183 : decode cX7_init 183 = .ok (.aload_n 0, 1) := by decide +kernel
theorem dX7_init_184 : decode cX7_init 184 = .ok (.bipush 10, 2) := by decide +kernel
theorem dX7_init_186 : decode cX7_init 186 = .ok (.newarray .int, 2) := by decide +kernel
theorem dX7_init_188 : decode cX7_init 188 = .ok (.putfield 77, 3) := by decide +kernel
theorem dX7_init_191 : decode cX7_init 191 = .ok (.aload_n 0, 1) := by decide +kernel
theorem dX7_init_192 : decode cX7_init 192 = .ok (.iconst 4, 1) := by decide +kernel
theorem dX7_init_193 : decode cX7_init 193 = .ok (.newarray .int, 2) := by decide +kernel
theorem dX7_init_195 : decode cX7_init 195 = .ok (.putfield 80, 3) := by decide +kernel
theorem dX7_init_198 : decode cX7_init 198 = .ok (.iconst 0, 1) := by decide +kernel
theorem dX7_init_199 : decode cX7_init 199 = .ok (.istore_n 1, 1) := by decide +kernel
theorem dX7_init_200 : decode cX7_init 200 = .ok (.iload_n 1, 1) := by decide +kernel
theorem dX7_init_201 : decode cX7_init 201 = .ok (.bipush 8, 2) := by decide +kernel
theorem dX7_init_203 : decode cX7_init 203 = .ok (.if_icmp .ge 16, 3) := by decide +kernel
theorem dX7_init_206 : decode cX7_init 206 = .ok (.aload_n 0, 1) := by decide +kernel
theorem dX7_init_207 : decode cX7_init 207 = .ok (.getfield 7, 3) := by decide +kernel
theorem dX7_init_210 : decode cX7_init 210 = .ok (.iload_n 1, 1) := by decide +kernel
theorem dX7_init_211 : decode cX7_init 211 = .ok (.iconst (-1), 1) := by decide +kernel
theorem dX7_init_212 : decode cX7_init 212 = .ok (.iastore, 1) := by decide +kernel
theorem dX7_init_213 : decode cX7_init 213 = .ok (.iinc 1 1, 3) := by decide +kernel
theorem dX7_init_216 : decode cX7_init 216 = .ok (.goto (-16), 3) := by decide +kernel
theorem dX7_init_219 : decode cX7_init 219 = .ok (.aload_n 0, 1) := by decide +kernel
theorem dX7_init_220 : decode cX7_init 220 = .ok (.iconst 1, 1) := by decide +kernel
theorem dX7_init_221 : decode cX7_init 221 = .ok (.putfield 83, 3) := by decide +kernel
theorem dX7_init_224 : decode cX7_init 224 = .ok (.aload_n 0, 1) := by decide +kernel
theorem dX7_init_225 : decode cX7_init 225 = .ok (.iconst (-1), 1) := by decide +kernel
theorem dX7_init_226 : decode cX7_init 226 = .ok (.putfield 87, 3) := by decide +kernel
theorem dX7_init_229 : decode cX7_init 229 = .ok (.return_, 1) := by decide +kernel
theorem dX7_no_0 : decode cX7_no 0 = .ok (.aload_n 0, 1) := by decide +kernel
theorem dX7_no_1 : decode cX7_no 1 = .ok (.getfield 53, 3) := by decide +kernel
theorem dX7_no_4 : decode cX7_no 4 = .ok (.iload_n 1, 1) := by decide +kernel
theorem dX7_no_5 : decode cX7_no 5 = .ok (.ineg, 1) := by decide +kernel
theorem dX7_no_6 : decode cX7_no 6 = .ok (.dup2, 1) := by decide +kernel
theorem dX7_no_7 : decode cX7_no 7 = .ok (.iaload, 1) := by decide +kernel
theorem dX7_no_8 : decode cX7_no 8 = .ok (.iconst 1, 1) := by decide +kernel
theorem dX7_no_9 : decode cX7_no 9 = .ok (.iadd, 1) := by decide +kernel
theorem dX7_no_10 : decode cX7_no 10 = .ok (.iastore, 1) := by decide +kernel
theorem dX7_no_11 : decode cX7_no 11 = .ok (.iload_n 1, 1) := by decide +kernel
theorem dX7_no_12 : decode cX7_no 12 = .ok (.ireturn, 1) := by decide +kernel
theorem dX7_no10_0 : decode cX7_no10 0 = .ok (.aload_n 0, 1) := by decide +kernel
theorem dX7_no10_1 : decode cX7_no10 1 = .ok (.iload_n 1, 1) := by decide +kernel
theorem dX7_no10_2 : decode cX7_no10 2 = .ok (.invokevirtual 90, 3) := by decide +kernel
theorem dX7_no10_5 : decode cX7_no10 5 = .ok (.bipush 10, 2) := by decide +kernel
theorem dX7_no10_7 : decode cX7_no10 7 = .ok (.isub, 1) := by decide +kernel
theorem dX7_no10_8 : decode cX7_no10 8 = .ok (.ireturn, 1) := by decide +kernel
theorem dX7_within_0 : decode cX7_within 0 = .ok (.iload_n 0, 1) := by decide +kernel
theorem dX7_within_1 : decode cX7_within 1 = .ok (.iload_n 1, 1) := by decide +kernel
theorem dX7_within_2 : decode cX7_within 2 = .ok (.if_icmp .lt 12, 3) := by decide +kernel
theorem dX7_within_5 : decode cX7_within 5 = .ok (.iload_n 0, 1) := by decide +kernel
theorem dX7_within_6 : decode cX7_within 6 = .ok (.iload_n 2, 1) := by decide +kernel
theorem dX7_within_7 : decode cX7_within 7 = .ok (.if_icmp .gt 7, 3) := by decide +kernel
theorem dX7_within_10 : decode cX7_within 10 = .ok (.iconst 1, 1) := by decide +kernel
theorem dX7_within_11 : decode cX7_within 11 = .ok (.goto 4, 3) := by decide +kernel
theorem dX7_within_14 : decode cX7_within 14 = .ok (.iconst 0, 1) := by decide +kernel
theorem dX7_within_15 : decode cX7_within 15 = .ok (.ireturn, 1) := by decide +kernel
theorem dX7_has_0 : decode cX7_has 0 = .ok (.iload_n 0, 1) := by decide +kernel
theorem dX7_has_1 : decode cX7_has 1 = .ok (.iload_n 1, 1) := by decide +kernel
theorem dX7_has_2 : decode cX7_has 2 = .ok (.ishr, 1) := by decide +kernel
theorem dX7_has_3 : decode cX7_has 3 = .ok (.iconst 1, 1) := by decide +kernel
theorem dX7_has_4 : decode cX7_has 4 = .ok (.iand, 1) := by decide +kernel
theorem dX7_has_5 : decode cX7_has 5 = .ok (.iconst 1, 1) := by decide +kernel
theorem dX7_has_6 : decode cX7_has 6 = .ok (.if_icmp .ne 7, 3) := by decide +kernel
theorem dX7_has_9 : decode cX7_has 9 = .ok (.iconst 1, 1) := by decide +kernel
theorem dX7_has_10 : decode cX7_has 10 = .ok (.goto 4, 3) := by decide +kernel
theorem dX7_has_13 : decode cX7_has 13 = .ok (.iconst 0, 1) := by decide +kernel
theorem dX7_has_14 : decode cX7_has 14 = .ok (.ireturn, 1) := by decide +kernel
theorem dX7_isPeak_0 : decode cX7_isPeak 0 = .ok (.iload_n 1, 1) := by decide +kernel
theorem dX7_isPeak_1 : decode cX7_isPeak 1 = .ok (.iconst 0, 1) := by decide +kernel
theorem dX7_isPeak_2 : decode cX7_isPeak 2 = .ok (.aload_n 0, 1) := by decide +kernel
theorem dX7_isPeak_3 : decode cX7_isPeak 3 = .ok (.getfield 94, 3) := by decide +kernel
theorem dX7_isPeak_6 : decode cX7_isPeak 6 = .ok (.iconst 1, 1) := by decide +kernel
theorem dX7_isPeak_7 : decode cX7_isPeak 7 = .ok (.isub, 1) := by decide +kernel
theorem dX7_isPeak_8 : decode cX7_isPeak 8 = .ok (.invokestatic 97, 3) := by decide +kernel
theorem dX7_isPeak_11 : decode cX7_isPeak 11 = .ok (.ireturn, 1) := by decide +kernel
theorem dX7_isThere_0 : decode cX7_isThere 0 = .ok (.aload_n 0, 1) := by decide +kernel
theorem dX7_isThere_1 : decode cX7_isThere 1 = .ok (.iload_n 1, 1) := by decide +kernel
theorem dX7_isThere_2 : decode cX7_isThere 2 = .ok (.invokevirtual 101, 3) := by decide +kernel
theorem dX7_isThere_5 : decode cX7_isThere 5 = .ok (.ifCond .eq 17, 3) := by decide +kernel
theorem dX7_isThere_8 : decode cX7_isThere 8 = .ok (.aload_n 0, 1) := by decide +kernel
theorem dX7_isThere_9 : decode cX7_isThere 9 = .ok (.getfield 32, 3) := by decide +kernel
theorem dX7_isThere_12 : decode cX7_isThere 12 = .ok (.iload_n 1, 1) := by decide +kernel
theorem dX7_isThere_13 : decode cX7_isThere 13 = .ok (.iaload, 1) := by decide +kernel
theorem dX7_isThere_14 : decode cX7_isThere 14 = .ok (.iconst 1, 1) := by decide +kernel
theorem dX7_isThere_15 : decode cX7_isThere 15 = .ok (.if_icmp .ne 7, 3) := by decide +kernel
theorem dX7_isThere_18 : decode cX7_isThere 18 = .ok (.iconst 1, 1) := by decide +kernel
theorem dX7_isThere_19 : decode cX7_isThere 19 = .ok (.goto 4, 3) := by decide +kernel
theorem dX7_isThere_22 : decode cX7_isThere 22 = .ok (.iconst 0, 1) := by decide +kernel
theorem dX7_isThere_23 : decode cX7_isThere 23 = .ok (.ireturn, 1) := by decide +kernel
theorem dX7_isValley_0 : decode cX7_isValley 0 = .ok (.iload_n 1, 1) := by decide +kernel
theorem dX7_isValley_1 : decode cX7_isValley 1 = .ok (.iconst 0, 1) := by decide +kernel
theorem dX7_isValley_2 : decode cX7_isValley 2 = .ok (.aload_n 0, 1) := by decide +kernel
theorem dX7_isValley_3 : decode cX7_isValley 3 = .ok (.getfield 105, 3) := by decide +kernel
theorem dX7_isValley_6 : decode cX7_isValley 6 = .ok (.iconst 1, 1) := by decide +kernel
theorem dX7_isValley_7 : decode cX7_isValley 7 = .ok (.isub, 1) := by decide +kernel
theorem dX7_isValley_8 : decode cX7_isValley 8 = .ok (.invokestatic 97, 3) := by decide +kernel
theorem dX7_isValley_11 : decode cX7_isValley 11 = .ok (.ireturn, 1) := by decide +kernel
theorem dX7_isPlace_0 : decode cX7_isPlace 0 = .ok (.iload_n 0, 1) := by decide +kernel
theorem dX7_isPlace_1 : decode cX7_isPlace 1 = .ok (.iconst 0, 1) := by decide +kernel
theorem dX7_isPlace_2 : decode cX7_isPlace 2 = .ok (.bipush 99, 2) := by decide +kernel
theorem dX7_isPlace_4 : decode cX7_isPlace 4 = .ok (.invokestatic 97, 3) := by decide +kernel
theorem dX7_isPlace_7 : decode cX7_isPlace 7 = .ok (.ireturn, 1) := by decide +kernel
theorem dX7_isHeight_0 : decode cX7_isHeight 0 = .ok (.iload_n 0, 1) := by decide +kernel
theorem dX7_isHeight_1 : decode cX7_isHeight 1 = .ok (.iconst 1, 1) := by decide +kernel
theorem dX7_isHeight_2 : decode cX7_isHeight 2 = .ok (.sipush 999, 3) := by decide +kernel
theorem dX7_isHeight_5 : decode cX7_isHeight 5 = .ok (.invokestatic 97, 3) := by decide +kernel
theorem dX7_isHeight_8 : decode cX7_isHeight 8 = .ok (.ireturn, 1) := by decide +kernel
theorem dX7_isTaken_0 : decode cX7_isTaken 0 = .ok (.iconst 0, 1) := by decide +kernel
theorem dX7_isTaken_1 : decode cX7_isTaken 1 = .ok (.istore_n 2, 1) := by decide +kernel
theorem dX7_isTaken_2 : decode cX7_isTaken 2 = .ok (.iload_n 2, 1) := by decide +kernel
theorem dX7_isTaken_3 : decode cX7_isTaken 3 = .ok (.aload_n 0, 1) := by decide +kernel
theorem dX7_isTaken_4 : decode cX7_isTaken 4 = .ok (.getfield 94, 3) := by decide +kernel
theorem dX7_isTaken_7 : decode cX7_isTaken 7 = .ok (.if_icmp .ge 21, 3) := by decide +kernel
theorem dX7_isTaken_10 : decode cX7_isTaken 10 = .ok (.aload_n 0, 1) := by decide +kernel
theorem dX7_isTaken_11 : decode cX7_isTaken 11 = .ok (.getfield 26, 3) := by decide +kernel
theorem dX7_isTaken_14 : decode cX7_isTaken 14 = .ok (.iload_n 2, 1) := by decide +kernel
theorem dX7_isTaken_15 : decode cX7_isTaken 15 = .ok (.iaload, 1) := by decide +kernel
theorem dX7_isTaken_16 : decode cX7_isTaken 16 = .ok (.iload_n 1, 1) := by decide +kernel
theorem dX7_isTaken_17 : decode cX7_isTaken 17 = .ok (.if_icmp .ne 5, 3) := by decide +kernel
theorem dX7_isTaken_20 : decode cX7_isTaken 20 = .ok (.iconst 1, 1) := by decide +kernel
theorem dX7_isTaken_21 : decode cX7_isTaken 21 = .ok (.ireturn, 1) := by decide +kernel
theorem dX7_isTaken_22 : decode cX7_isTaken 22 = .ok (.iinc 2 1, 3) := by decide +kernel
theorem dX7_isTaken_25 : decode cX7_isTaken 25 = .ok (.goto (-23), 3) := by decide +kernel
theorem dX7_isTaken_28 : decode cX7_isTaken 28 = .ok (.iconst 0, 1) := by decide +kernel
theorem dX7_isTaken_29 : decode cX7_isTaken 29 = .ok (.ireturn, 1) := by decide +kernel
theorem dX7_isRow_0 : decode cX7_isRow 0 = .ok (.aload_n 0, 1) := by decide +kernel
theorem dX7_isRow_1 : decode cX7_isRow 1 = .ok (.getfield 7, 3) := by decide +kernel
theorem dX7_isRow_4 : decode cX7_isRow 4 = .ok (.iload_n 1, 1) := by decide +kernel
theorem dX7_isRow_5 : decode cX7_isRow 5 = .ok (.iaload, 1) := by decide +kernel
theorem dX7_isRow_6 : decode cX7_isRow 6 = .ok (.bipush 100, 2) := by decide +kernel
theorem dX7_isRow_8 : decode cX7_isRow 8 = .ok (.if_icmp .lt 7, 3) := by decide +kernel
theorem dX7_isRow_11 : decode cX7_isRow 11 = .ok (.iconst 1, 1) := by decide +kernel
theorem dX7_isRow_12 : decode cX7_isRow 12 = .ok (.goto 4, 3) := by decide +kernel
theorem dX7_isRow_15 : decode cX7_isRow 15 = .ok (.iconst 0, 1) := by decide +kernel
theorem dX7_isRow_16 : decode cX7_isRow 16 = .ok (.ireturn, 1) := by decide +kernel
theorem dX7_row_0 : decode cX7_row 0 = .ok (.iload_n 1, 1) := by decide +kernel
theorem dX7_row_1 : decode cX7_row 1 = .ok (.iconst 0, 1) := by decide +kernel
theorem dX7_row_2 : decode cX7_row 2 = .ok (.bipush 7, 2) := by decide +kernel
theorem dX7_row_4 : decode cX7_row 4 = .ok (.invokestatic 97, 3) := by decide +kernel
theorem dX7_row_7 : decode cX7_row 7 = .ok (.ifCond .ne 9, 3) := by decide +kernel
theorem dX7_row_10 : decode cX7_row 10 = .ok (.aload_n 0, 1) := by decide +kernel
theorem dX7_row_11 : decode cX7_row 11 = .ok (.iconst (-1), 1) := by decide +kernel
theorem dX7_row_12 : decode cX7_row 12 = .ok (.invokevirtual 90, 3) := by decide +kernel
theorem dX7_row_15 : decode cX7_row 15 = .ok (.ireturn, 1) := by decide +kernel
theorem dX7_row_16 : decode cX7_row 16 = .ok (.iload_n 3, 1) := by decide +kernel
theorem dX7_row_17 : decode cX7_row 17 = .ok (.ifCond .ge 10, 3) := by decide +kernel
theorem dX7_row_20 : decode cX7_row 20 = .ok (.aload_n 0, 1) := by decide +kernel
theorem dX7_row_21 : decode cX7_row 21 = .ok (.bipush (-4), 2) := by decide +kernel
theorem dX7_row_23 : decode cX7_row 23 = .ok (.invokevirtual 90, 3) := by decide +kernel
theorem dX7_row_26 : decode cX7_row 26 = .ok (.ireturn, 1) := by decide +kernel
theorem dX7_row_27 : decode cX7_row 27 = .ok (.iload_n 2, 1) := by decide +kernel
theorem dX7_row_28 : decode cX7_row 28 = .ok (.iconst 0, 1) := by decide +kernel
theorem dX7_row_29 : decode cX7_row 29 = .ok (.iconst 3, 1) := by decide +kernel
theorem dX7_row_30 : decode cX7_row 30 = .ok (.invokestatic 97, 3) := by decide +kernel
theorem dX7_row_33 : decode cX7_row 33 = .ok (.ifCond .ne 10, 3) := by decide +kernel
theorem dX7_row_36 : decode cX7_row 36 = .ok (.aload_n 0, 1) := by decide +kernel
theorem dX7_row_37 : decode cX7_row 37 = .ok (.bipush (-6), 2) := by decide +kernel
theorem dX7_row_39 : decode cX7_row 39 = .ok (.invokevirtual 90, 3) := by decide +kernel
theorem dX7_row_42 : decode cX7_row 42 = .ok (.ireturn, 1) := by decide +kernel
theorem dX7_row_43 : decode cX7_row 43 = .ok (.iload_n 3, 1) := by decide +kernel
theorem dX7_row_44 : decode cX7_row 44 = .ok (.sipush 160, 3) := by decide +kernel
theorem dX7_row_47 : decode cX7_row 47 = .ok (.if_icmp .le 10, 3) := by decide +kernel
theorem dX7_row_50 : decode cX7_row 50 = .ok (.aload_n 0, 1) := by decide +kernel
theorem dX7_row_51 : decode cX7_row 51 = .ok (.bipush (-7), 2) := by decide +kernel
theorem dX7_row_53 : decode cX7_row 53 = .ok (.invokevirtual 90, 3) := by decide +kernel
theorem dX7_row_56 : decode cX7_row 56 = .ok (.ireturn, 1) := by decide +kernel
theorem dX7_row_57 : decode cX7_row 57 = .ok (.aload_n 0, 1) := by decide +kernel
theorem dX7_row_58 : decode cX7_row 58 = .ok (.getfield 7, 3) := by decide +kernel
theorem dX7_row_61 : decode cX7_row 61 = .ok (.iload_n 1, 1) := by decide +kernel
theorem dX7_row_62 : decode cX7_row 62 = .ok (.bipush 100, 2) := by decide +kernel
theorem dX7_row_64 : decode cX7_row 64 = .ok (.iload_n 2, 1) := by decide +kernel
theorem dX7_row_65 : decode cX7_row 65 = .ok (.iadd, 1) := by decide +kernel
theorem dX7_row_66 : decode cX7_row 66 = .ok (.iastore, 1) := by decide +kernel
theorem dX7_row_67 : decode cX7_row 67 = .ok (.aload_n 0, 1) := by decide +kernel
theorem dX7_row_68 : decode cX7_row 68 = .ok (.getfield 13, 3) := by decide +kernel
theorem dX7_row_71 : decode cX7_row 71 = .ok (.iload_n 1, 1) := by decide +kernel
theorem dX7_row_72 : decode cX7_row 72 = .ok (.iload_n 3, 1) := by decide +kernel
theorem dX7_row_73 : decode cX7_row 73 = .ok (.iastore, 1) := by decide +kernel
theorem dX7_row_74 : decode cX7_row 74 = .ok (.iconst 0, 1) := by decide +kernel
theorem dX7_row_75 : decode cX7_row 75 = .ok (.istore 4, 2) := by decide +kernel
theorem dX7_row_77 : decode cX7_row 77 = .ok (.iload 4, 2) := by decide +kernel
theorem dX7_row_79 : decode cX7_row 79 = .ok (.sipush 160, 3) := by decide +kernel
theorem dX7_row_82 : decode cX7_row 82 = .ok (.if_icmp .ge 23, 3) := by decide +kernel
theorem dX7_row_85 : decode cX7_row 85 = .ok (.aload_n 0, 1) := by decide +kernel
theorem dX7_row_86 : decode cX7_row 86 = .ok (.getfield 16, 3) := by decide +kernel
theorem dX7_row_89 : decode cX7_row 89 = .ok (.sipush 160, 3) := by decide +kernel
theorem dX7_row_92 : decode cX7_row 92 = .ok (.iload_n 1, 1) := by decide +kernel
theorem dX7_row_93 : decode cX7_row 93 = .ok (.imul, 1) := by decide +kernel
theorem dX7_row_94 : decode cX7_row 94 = .ok (.iload 4, 2) := by decide +kernel
theorem dX7_row_96 : decode cX7_row 96 = .ok (.iadd, 1) := by decide +kernel
theorem dX7_row_97 : decode cX7_row 97 = .ok (.lconst 0, 1) := by decide +kernel
theorem dX7_row_98 : decode cX7_row 98 = .ok (.lastore, 1) := by decide +kernel
theorem dX7_row_99 : decode cX7_row 99 = .ok (.iinc 4 1, 3) := by decide +kernel
theorem dX7_row_102 : decode cX7_row 102 = .ok (.goto (-25), 3) := by decide +kernel
theorem dX7_row_105 : decode cX7_row 105 = .ok (.iconst 1, 1) := by decide +kernel
theorem dX7_row_106 : decode cX7_row 106 = .ok (.ireturn, 1) := by decide +kernel
theorem dX7_noRow_0 : decode cX7_noRow 0 = .ok (.iload_n 1, 1) := by decide +kernel
theorem dX7_noRow_1 : decode cX7_noRow 1 = .ok (.iconst 0, 1) := by decide +kernel
theorem dX7_noRow_2 : decode cX7_noRow 2 = .ok (.bipush 7, 2) := by decide +kernel
theorem dX7_noRow_4 : decode cX7_noRow 4 = .ok (.invokestatic 97, 3) := by decide +kernel
theorem dX7_noRow_7 : decode cX7_noRow 7 = .ok (.ifCond .ne 5, 3) := by decide +kernel
theorem dX7_noRow_10 : decode cX7_noRow 10 = .ok (.iconst (-1), 1) := by decide +kernel
theorem dX7_noRow_11 : decode cX7_noRow 11 = .ok (.ireturn, 1) := by decide +kernel
theorem dX7_noRow_12 : decode cX7_noRow 12 = .ok (.aload_n 0, 1) := by decide +kernel
theorem dX7_noRow_13 : decode cX7_noRow 13 = .ok (.getfield 7, 3) := by decide +kernel
theorem dX7_noRow_16 : decode cX7_noRow 16 = .ok (.iload_n 1, 1) := by decide +kernel
theorem dX7_noRow_17 : decode cX7_noRow 17 = .ok (.iaload, 1) := by decide +kernel
theorem dX7_noRow_18 : decode cX7_noRow 18 = .ok (.ifCond .lt 14, 3) := by decide +kernel
theorem dX7_noRow_21 : decode cX7_noRow 21 = .ok (.aload_n 0, 1) := by decide +kernel
theorem dX7_noRow_22 : decode cX7_noRow 22 = .ok (.iload_n 1, 1) := by decide +kernel
theorem dX7_noRow_23 : decode cX7_noRow 23 = .ok (.invokevirtual 108, 3) := by decide +kernel
theorem dX7_noRow_26 : decode cX7_noRow 26 = .ok (.ifCond .ne 6, 3) := by decide +kernel
theorem dX7_noRow_29 : decode cX7_noRow 29 = .ok (.bipush (-2), 2) := by decide +kernel
theorem dX7_noRow_31 : decode cX7_noRow 31 = .ok (.ireturn, 1) := by decide +kernel
theorem dX7_noRow_32 : decode cX7_noRow 32 = .ok (.aload_n 0, 1) := by decide +kernel
theorem dX7_noRow_33 : decode cX7_noRow 33 = .ok (.getfield 7, 3) := by decide +kernel
theorem dX7_noRow_36 : decode cX7_noRow 36 = .ok (.iload_n 1, 1) := by decide +kernel
theorem dX7_noRow_37 : decode cX7_noRow 37 = .ok (.iaload, 1) := by decide +kernel
theorem dX7_noRow_38 : decode cX7_noRow 38 = .ok (.ifCond .ge 8, 3) := by decide +kernel
theorem dX7_noRow_41 : decode cX7_noRow 41 = .ok (.bipush (-3), 2) := by decide +kernel
theorem dX7_noRow_43 : decode cX7_noRow 43 = .ok (.goto 4, 3) := by decide +kernel
theorem dX7_noRow_46 : decode cX7_noRow 46 = .ok (.iconst 0, 1) := by decide +kernel
theorem dX7_noRow_47 : decode cX7_noRow 47 = .ok (.ireturn, 1) := by decide +kernel
theorem dX7_set_0 : decode cX7_set 0 = .ok (.aload_n 0, 1) := by decide +kernel
theorem dX7_set_1 : decode cX7_set 1 = .ok (.iload_n 1, 1) := by decide +kernel
theorem dX7_set_2 : decode cX7_set 2 = .ok (.invokevirtual 111, 3) := by decide +kernel
theorem dX7_set_5 : decode cX7_set 5 = .ok (.istore 5, 2) := by decide +kernel
theorem dX7_set_7 : decode cX7_set 7 = .ok (.iload 5, 2) := by decide +kernel
theorem dX7_set_9 : decode cX7_set 9 = .ok (.ifCond .ge 10, 3) := by decide +kernel
theorem dX7_set_12 : decode cX7_set 12 = .ok (.aload_n 0, 1) := by decide +kernel
theorem dX7_set_13 : decode cX7_set 13 = .ok (.iload 5, 2) := by decide +kernel
theorem dX7_set_15 : decode cX7_set 15 = .ok (.invokevirtual 90, 3) := by decide +kernel
theorem dX7_set_18 : decode cX7_set 18 = .ok (.ireturn, 1) := by decide +kernel
theorem dX7_set_19 : decode cX7_set 19 = .ok (.iload_n 2, 1) := by decide +kernel
theorem dX7_set_20 : decode cX7_set 20 = .ok (.iconst 0, 1) := by decide +kernel
theorem dX7_set_21 : decode cX7_set 21 = .ok (.aload_n 0, 1) := by decide +kernel
theorem dX7_set_22 : decode cX7_set 22 = .ok (.getfield 13, 3) := by decide +kernel
theorem dX7_set_25 : decode cX7_set 25 = .ok (.iload_n 1, 1) := by decide +kernel
theorem dX7_set_26 : decode cX7_set 26 = .ok (.iaload, 1) := by decide +kernel
theorem dX7_set_27 : decode cX7_set 27 = .ok (.iconst 1, 1) := by decide +kernel
theorem dX7_set_28 : decode cX7_set 28 = .ok (.isub, 1) := by decide +kernel
theorem dX7_set_29 : decode cX7_set 29 = .ok (.invokestatic 97, 3) := by decide +kernel
theorem dX7_set_32 : decode cX7_set 32 = .ok (.ifCond .ne 10, 3) := by decide +kernel
theorem dX7_set_35 : decode cX7_set 35 = .ok (.aload_n 0, 1) := by decide +kernel
theorem dX7_set_36 : decode cX7_set 36 = .ok (.bipush (-5), 2) := by decide +kernel
theorem dX7_set_38 : decode cX7_set 38 = .ok (.invokevirtual 90, 3) := by decide +kernel
theorem dX7_set_41 : decode cX7_set 41 = .ok (.ireturn, 1) := by decide +kernel
theorem dX7_set_42 : decode cX7_set 42 = .ok (.aload_n 0, 1) := by decide +kernel
theorem dX7_set_43 : decode cX7_set 43 = .ok (.getfield 7, 3) := by decide +kernel
theorem dX7_set_46 : decode cX7_set 46 = .ok (.iload_n 1, 1) := by decide +kernel
theorem dX7_set_47 : decode cX7_set 47 = .ok (.iaload, 1) := by decide +kernel
theorem dX7_set_48 : decode cX7_set 48 = .ok (.bipush 100, 2) := by decide +kernel
theorem dX7_set_50 : decode cX7_set 50 = .ok (.isub, 1) := by decide +kernel
theorem dX7_set_51 : decode cX7_set 51 = .ok (.istore 6, 2) := by decide +kernel
theorem dX7_set_53 : decode cX7_set 53 = .ok (.aload_n 0, 1) := by decide +kernel
theorem dX7_set_54 : decode cX7_set 54 = .ok (.getfield 16, 3) := by decide +kernel
theorem dX7_set_57 : decode cX7_set 57 = .ok (.sipush 160, 3) := by decide +kernel
theorem dX7_set_60 : decode cX7_set 60 = .ok (.iload_n 1, 1) := by decide +kernel
theorem dX7_set_61 : decode cX7_set 61 = .ok (.imul, 1) := by decide +kernel
theorem dX7_set_62 : decode cX7_set 62 = .ok (.iload_n 2, 1) := by decide +kernel
theorem dX7_set_63 : decode cX7_set 63 = .ok (.iadd, 1) := by decide +kernel
theorem dX7_set_64 : decode cX7_set 64 = .ok (.iload 6, 2) := by decide +kernel
theorem dX7_set_66 : decode cX7_set 66 = .ok (.ifCond .ne 10, 3) := by decide +kernel
theorem dX7_set_69 : decode cX7_set 69 = .ok (.lload_n 3, 1) := by decide +kernel
theorem dX7_set_70 : decode cX7_set 70 = .ok (.l2i, 1) := by decide +kernel
theorem dX7_set_71 : decode cX7_set 71 = .ok (.i2b, 1) := by decide +kernel
theorem dX7_set_72 : decode cX7_set 72 = .ok (.i2l, 1) := by decide +kernel
theorem dX7_set_73 : decode cX7_set 73 = .ok (.goto 29, 3) := by decide +kernel
theorem dX7_set_76 : decode cX7_set 76 = .ok (.iload 6, 2) := by decide +kernel
theorem dX7_set_78 : decode cX7_set 78 = .ok (.iconst 1, 1) := by decide +kernel
theorem dX7_set_79 : decode cX7_set 79 = .ok (.if_icmp .ne 10, 3) := by decide +kernel
theorem dX7_set_82 : decode cX7_set 82 = .ok (.lload_n 3, 1) := by decide +kernel
theorem dX7_set_83 : decode cX7_set 83 = .ok (.l2i, 1) := by decide +kernel
theorem dX7_set_84 : decode cX7_set 84 = .ok (.i2s, 1) := by decide +kernel
theorem dX7_set_85 : decode cX7_set 85 = .ok (.i2l, 1) := by decide +kernel
theorem dX7_set_86 : decode cX7_set 86 = .ok (.goto 16, 3) := by decide +kernel
theorem dX7_set_89 : decode cX7_set 89 = .ok (.iload 6, 2) := by decide +kernel
theorem dX7_set_91 : decode cX7_set 91 = .ok (.iconst 2, 1) := by decide +kernel
theorem dX7_set_92 : decode cX7_set 92 = .ok (.if_icmp .ne 9, 3) := by decide +kernel
theorem dX7_set_95 : decode cX7_set 95 = .ok (.lload_n 3, 1) := by decide +kernel
theorem dX7_set_96 : decode cX7_set 96 = .ok (.l2i, 1) := by decide +kernel
theorem dX7_set_97 : decode cX7_set 97 = .ok (.i2l, 1) := by decide +kernel
theorem dX7_set_98 : decode cX7_set 98 = .ok (.goto 4, 3) := by decide +kernel
theorem dX7_set_101 : decode cX7_set 101 = .ok (.lload_n 3, 1) := by decide +kernel
theorem dX7_set_102 : decode cX7_set 102 = .ok (.lastore, 1) := by decide +kernel
theorem dX7_set_103 : decode cX7_set 103 = .ok (.iconst 1, 1) := by decide +kernel
theorem dX7_set_104 : decode cX7_set 104 = .ok (.ireturn, 1) := by decide +kernel
theorem dX7_copy_0 : decode cX7_copy 0 = .ok (.iload_n 1, 1) := by decide +kernel
theorem dX7_copy_1 : decode cX7_copy 1 = .ok (.iconst 0, 1) := by decide +kernel
theorem dX7_copy_2 : decode cX7_copy 2 = .ok (.bipush 7, 2) := by decide +kernel
theorem dX7_copy_4 : decode cX7_copy 4 = .ok (.invokestatic 97, 3) := by decide +kernel
theorem dX7_copy_7 : decode cX7_copy 7 = .ok (.ifCond .eq 13, 3) := by decide +kernel
theorem dX7_copy_10 : decode cX7_copy 10 = .ok (.iload_n 2, 1) := by decide +kernel
theorem dX7_copy_11 : decode cX7_copy 11 = .ok (.iconst 0, 1) := by decide +kernel
theorem dX7_copy_12 : decode cX7_copy 12 = .ok (.bipush 7, 2) := by decide +kernel
theorem dX7_copy_14 : decode cX7_copy 14 = .ok (.invokestatic 97, 3) := by decide +kernel
theorem dX7_copy_17 : decode cX7_copy 17 = .ok (.ifCond .ne 9, 3) := by decide +kernel
theorem dX7_copy_20 : decode cX7_copy 20 = .ok (.aload_n 0, 1) := by decide +kernel
theorem dX7_copy_21 : decode cX7_copy 21 = .ok (.iconst (-1), 1) := by decide +kernel
theorem dX7_copy_22 : decode cX7_copy 22 = .ok (.invokevirtual 90, 3) := by decide +kernel
theorem dX7_copy_25 : decode cX7_copy 25 = .ok (.ireturn, 1) := by decide +kernel
theorem dX7_copy_26 : decode cX7_copy 26 = .ok (.aload_n 0, 1) := by decide +kernel
theorem dX7_copy_27 : decode cX7_copy 27 = .ok (.getfield 7, 3) := by decide +kernel
theorem dX7_copy_30 : decode cX7_copy 30 = .ok (.iload_n 1, 1) := by decide +kernel
theorem dX7_copy_31 : decode cX7_copy 31 = .ok (.iaload, 1) := by decide +kernel
theorem dX7_copy_32 : decode cX7_copy 32 = .ok (.ifCond .lt 11, 3) := by decide +kernel
theorem dX7_copy_35 : decode cX7_copy 35 = .ok (.aload_n 0, 1) := by decide +kernel
theorem dX7_copy_36 : decode cX7_copy 36 = .ok (.iload_n 1, 1) := by decide +kernel
theorem dX7_copy_37 : decode cX7_copy 37 = .ok (.invokevirtual 108, 3) := by decide +kernel
theorem dX7_copy_40 : decode cX7_copy 40 = .ok (.ifCond .eq 51, 3) := by decide +kernel
theorem dX7_copy_43 : decode cX7_copy 43 = .ok (.aload_n 0, 1) := by decide +kernel
theorem dX7_copy_44 : decode cX7_copy 44 = .ok (.getfield 7, 3) := by decide +kernel
theorem dX7_copy_47 : decode cX7_copy 47 = .ok (.iload_n 2, 1) := by decide +kernel
theorem dX7_copy_48 : decode cX7_copy 48 = .ok (.iaload, 1) := by decide +kernel
theorem dX7_copy_49 : decode cX7_copy 49 = .ok (.ifCond .lt 11, 3) := by decide +kernel
theorem dX7_copy_52 : decode cX7_copy 52 = .ok (.aload_n 0, 1) := by decide +kernel
theorem dX7_copy_53 : decode cX7_copy 53 = .ok (.iload_n 2, 1) := by decide +kernel
theorem dX7_copy_54 : decode cX7_copy 54 = .ok (.invokevirtual 108, 3) := by decide +kernel
theorem dX7_copy_57 : decode cX7_copy 57 = .ok (.ifCond .eq 34, 3) := by decide +kernel
theorem dX7_copy_60 : decode cX7_copy 60 = .ok (.aload_n 0, 1) := by decide +kernel
theorem dX7_copy_61 : decode cX7_copy 61 = .ok (.iload_n 1, 1) := by decide +kernel
theorem dX7_copy_62 : decode cX7_copy 62 = .ok (.invokevirtual 108, 3) := by decide +kernel
theorem dX7_copy_65 : decode cX7_copy 65 = .ok (.ifCond .eq 33, 3) := by decide +kernel
theorem dX7_copy_68 : decode cX7_copy 68 = .ok (.aload_n 0, 1) := by decide +kernel
theorem dX7_copy_69 : decode cX7_copy 69 = .ok (.iload_n 2, 1) := by decide +kernel
theorem dX7_copy_70 : decode cX7_copy 70 = .ok (.invokevirtual 108, 3) := by decide +kernel
theorem dX7_copy_73 : decode cX7_copy 73 = .ok (.ifCond .eq 25, 3) := by decide +kernel
theorem dX7_copy_76 : decode cX7_copy 76 = .ok (.aload_n 0, 1) := by decide +kernel
theorem dX7_copy_77 : decode cX7_copy 77 = .ok (.getfield 7, 3) := by decide +kernel
theorem dX7_copy_80 : decode cX7_copy 80 = .ok (.iload_n 1, 1) := by decide +kernel
theorem dX7_copy_81 : decode cX7_copy 81 = .ok (.iaload, 1) := by decide +kernel
theorem dX7_copy_82 : decode cX7_copy 82 = .ok (.aload_n 0, 1) := by decide +kernel
theorem dX7_copy_83 : decode cX7_copy 83 = .ok (.getfield 7, 3) := by decide +kernel
theorem dX7_copy_86 : decode cX7_copy 86 = .ok (.iload_n 2, 1) := by decide +kernel
theorem dX7_copy_87 : decode cX7_copy 87 = .ok (.iaload, 1) := by decide +kernel
theorem dX7_copy_88 : decode cX7_copy 88 = .ok (.if_icmp .eq 10, 3) := by decide +kernel
theorem dX7_copy_91 : decode cX7_copy 91 = .ok (.aload_n 0, 1) := by decide +kernel
theorem dX7_copy_92 : decode cX7_copy 92 = .ok (.bipush (-2), 2) := by decide +kernel
theorem dX7_copy_94 : decode cX7_copy 94 = .ok (.invokevirtual 90, 3) := by decide +kernel
theorem dX7_copy_97 : decode cX7_copy 97 = .ok (.ireturn, 1) := by decide +kernel
theorem dX7_copy_98 : decode cX7_copy 98 = .ok (.aload_n 0, 1) := by decide +kernel
theorem dX7_copy_99 : decode cX7_copy 99 = .ok (.getfield 7, 3) := by decide +kernel
theorem dX7_copy_102 : decode cX7_copy 102 = .ok (.iload_n 1, 1) := by decide +kernel
theorem dX7_copy_103 : decode cX7_copy 103 = .ok (.iaload, 1) := by decide +kernel
theorem dX7_copy_104 : decode cX7_copy 104 = .ok (.ifCond .lt 12, 3) := by decide +kernel
theorem dX7_copy_107 : decode cX7_copy 107 = .ok (.aload_n 0, 1) := by decide +kernel
theorem dX7_copy_108 : decode cX7_copy 108 = .ok (.getfield 7, 3) := by decide +kernel
theorem dX7_copy_111 : decode cX7_copy 111 = .ok (.iload_n 2, 1) := by decide +kernel
theorem dX7_copy_112 : decode cX7_copy 112 = .ok (.iaload, 1) := by decide +kernel
theorem dX7_copy_113 : decode cX7_copy 113 = .ok (.ifCond .ge 10, 3) := by decide +kernel
theorem dX7_copy_116 : decode cX7_copy 116 = .ok (.aload_n 0, 1) := by decide +kernel
theorem dX7_copy_117 : decode cX7_copy 117 = .ok (.bipush (-3), 2) := by decide +kernel
theorem dX7_copy_119 : decode cX7_copy 119 = .ok (.invokevirtual 90, 3) := by decide +kernel
theorem dX7_copy_122 : decode cX7_copy 122 = .ok (.ireturn, 1) := by decide +kernel
theorem dX7_copy_123 : decode cX7_copy 123 = .ok (.iload 5, 2) := by decide +kernel
theorem dX7_copy_125 : decode cX7_copy 125 = .ok (.ifCond .ge 10, 3) := by decide +kernel
theorem dX7_copy_128 : decode cX7_copy 128 = .ok (.aload_n 0, 1) := by decide +kernel
theorem dX7_copy_129 : decode cX7_copy 129 = .ok (.bipush (-4), 2) := by decide +kernel
theorem dX7_copy_131 : decode cX7_copy 131 = .ok (.invokevirtual 90, 3) := by decide +kernel
theorem dX7_copy_134 : decode cX7_copy 134 = .ok (.ireturn, 1) := by decide +kernel
theorem dX7_copy_135 : decode cX7_copy 135 = .ok (.iload_n 3, 1) := by decide +kernel
theorem dX7_copy_136 : decode cX7_copy 136 = .ok (.ifCond .lt 43, 3) := by decide +kernel
theorem dX7_copy_139 : decode cX7_copy 139 = .ok (.iload 4, 2) := by decide +kernel
theorem dX7_copy_141 : decode cX7_copy 141 = .ok (.ifCond .lt 38, 3) := by decide +kernel
theorem dX7_copy_144 : decode cX7_copy 144 = .ok (.iload_n 3, 1) := by decide +kernel
theorem dX7_copy_145 : decode cX7_copy 145 = .ok (.i2l, 1) := by decide +kernel
theorem dX7_copy_146 : decode cX7_copy 146 = .ok (.iload 5, 2) := by decide +kernel
theorem dX7_copy_148 : decode cX7_copy 148 = .ok (.i2l, 1) := by decide +kernel
theorem dX7_copy_149 : decode cX7_copy 149 = .ok (.ladd, 1) := by decide +kernel
theorem dX7_copy_150 : decode cX7_copy 150 = .ok (.aload_n 0, 1) := by decide +kernel
theorem dX7_copy_151 : decode cX7_copy 151 = .ok (.getfield 13, 3) := by decide +kernel
theorem dX7_copy_154 : decode cX7_copy 154 = .ok (.iload_n 1, 1) := by decide +kernel
theorem dX7_copy_155 : decode cX7_copy 155 = .ok (.iaload, 1) := by decide +kernel
theorem dX7_copy_156 : decode cX7_copy 156 = .ok (.i2l, 1) := by decide +kernel
theorem dX7_copy_157 : decode cX7_copy 157 = .ok (.lcmp, 1) := by decide +kernel
theorem dX7_copy_158 : decode cX7_copy 158 = .ok (.ifCond .gt 21, 3) := by decide +kernel
theorem dX7_copy_161 : decode cX7_copy 161 = .ok (.iload 4, 2) := by decide +kernel
theorem dX7_copy_163 : decode cX7_copy 163 = .ok (.i2l, 1) := by decide +kernel
theorem dX7_copy_164 : decode cX7_copy 164 = .ok (.iload 5, 2) := by decide +kernel
theorem dX7_copy_166 : decode cX7_copy 166 = .ok (.i2l, 1) := by decide +kernel
theorem dX7_copy_167 : decode cX7_copy 167 = .ok (.ladd, 1) := by decide +kernel
theorem dX7_copy_168 : decode cX7_copy 168 = .ok (.aload_n 0, 1) := by decide +kernel
theorem dX7_copy_169 : decode cX7_copy 169 = .ok (.getfield 13, 3) := by decide +kernel
theorem dX7_copy_172 : decode cX7_copy 172 = .ok (.iload_n 2, 1) := by decide +kernel
theorem dX7_copy_173 : decode cX7_copy 173 = .ok (.iaload, 1) := by decide +kernel
theorem dX7_copy_174 : decode cX7_copy 174 = .ok (.i2l, 1) := by decide +kernel
theorem dX7_copy_175 : decode cX7_copy 175 = .ok (.lcmp, 1) := by decide +kernel
theorem dX7_copy_176 : decode cX7_copy 176 = .ok (.ifCond .le 10, 3) := by decide +kernel
theorem dX7_copy_179 : decode cX7_copy 179 = .ok (.aload_n 0, 1) := by decide +kernel
theorem dX7_copy_180 : decode cX7_copy 180 = .ok (.bipush (-5), 2) := by decide +kernel
theorem dX7_copy_182 : decode cX7_copy 182 = .ok (.invokevirtual 90, 3) := by decide +kernel
theorem dX7_copy_185 : decode cX7_copy 185 = .ok (.ireturn, 1) := by decide +kernel
theorem dX7_copy_186 : decode cX7_copy 186 = .ok (.iload_n 1, 1) := by decide +kernel
theorem dX7_copy_187 : decode cX7_copy 187 = .ok (.iload_n 2, 1) := by decide +kernel
theorem dX7_copy_188 : decode cX7_copy 188 = .ok (.if_icmp .ne 60, 3) := by decide +kernel
theorem dX7_copy_191 : decode cX7_copy 191 = .ok (.iload_n 3, 1) := by decide +kernel
theorem dX7_copy_192 : decode cX7_copy 192 = .ok (.iload 4, 2) := by decide +kernel
theorem dX7_copy_194 : decode cX7_copy 194 = .ok (.if_icmp .ge 54, 3) := by decide +kernel
theorem dX7_copy_197 : decode cX7_copy 197 = .ok (.iload 5, 2) := by decide +kernel
theorem dX7_copy_199 : decode cX7_copy 199 = .ok (.iconst 1, 1) := by decide +kernel
theorem dX7_copy_200 : decode cX7_copy 200 = .ok (.isub, 1) := by decide +kernel
theorem dX7_copy_201 : decode cX7_copy 201 = .ok (.istore 6, 2) := by decide +kernel
theorem dX7_copy_203 : decode cX7_copy 203 = .ok (.iload 6, 2) := by decide +kernel
theorem dX7_copy_205 : decode cX7_copy 205 = .ok (.ifCond .lt 40, 3) := by decide +kernel
theorem dX7_copy_208 : decode cX7_copy 208 = .ok (.aload_n 0, 1) := by decide +kernel
theorem dX7_copy_209 : decode cX7_copy 209 = .ok (.getfield 16, 3) := by decide +kernel
theorem dX7_copy_212 : decode cX7_copy 212 = .ok (.sipush 160, 3) := by decide +kernel
theorem dX7_copy_215 : decode cX7_copy 215 = .ok (.iload_n 2, 1) := by decide +kernel
theorem dX7_copy_216 : decode cX7_copy 216 = .ok (.imul, 1) := by decide +kernel
theorem dX7_copy_217 : decode cX7_copy 217 = .ok (.iload 4, 2) := by decide +kernel
theorem dX7_copy_219 : decode cX7_copy 219 = .ok (.iadd, 1) := by decide +kernel
theorem dX7_copy_220 : decode cX7_copy 220 = .ok (.iload 6, 2) := by decide +kernel
theorem dX7_copy_222 : decode cX7_copy 222 = .ok (.iadd, 1) := by decide +kernel
theorem dX7_copy_223 : decode cX7_copy 223 = .ok (.aload_n 0, 1) := by decide +kernel
theorem dX7_copy_224 : decode cX7_copy 224 = .ok (.getfield 16, 3) := by decide +kernel
theorem dX7_copy_227 : decode cX7_copy 227 = .ok (.sipush 160, 3) := by decide +kernel
theorem dX7_copy_230 : decode cX7_copy 230 = .ok (.iload_n 1, 1) := by decide +kernel
theorem dX7_copy_231 : decode cX7_copy 231 = .ok (.imul, 1) := by decide +kernel
theorem dX7_copy_232 : decode cX7_copy 232 = .ok (.iload_n 3, 1) := by decide +kernel
theorem dX7_copy_233 : decode cX7_copy 233 = .ok (.iadd, 1) := by decide +kernel
theorem dX7_copy_234 : decode cX7_copy 234 = .ok (.iload 6, 2) := by decide +kernel
theorem dX7_copy_236 : decode cX7_copy 236 = .ok (.iadd, 1) := by decide +kernel
theorem dX7_copy_237 : decode cX7_copy 237 = .ok (.laload, 1) := by decide +kernel
theorem dX7_copy_238 : decode cX7_copy 238 = .ok (.lastore, 1) := by decide +kernel
theorem dX7_copy_239 : decode cX7_copy 239 = .ok (.iinc 6 (-1), 3) := by decide +kernel
theorem dX7_copy_242 : decode cX7_copy 242 = .ok (.goto (-39), 3) := by decide +kernel
theorem dX7_copy_245 : decode cX7_copy 245 = .ok (.goto 50, 3) := by decide +kernel
theorem dX7_copy_248 : decode cX7_copy 248 = .ok (.iconst 0, 1) := by decide +kernel
theorem dX7_copy_249 : decode cX7_copy 249 = .ok (.istore 6, 2) := by decide +kernel
theorem dX7_copy_251 : decode cX7_copy 251 = .ok (.iload 6, 2) := by decide +kernel
theorem dX7_copy_253 : decode cX7_copy 253 = .ok (.iload 5, 2) := by decide +kernel
theorem dX7_copy_255 : decode cX7_copy 255 = .ok (.if_icmp .ge 40, 3) := by decide +kernel
theorem dX7_copy_258 : decode cX7_copy 258 = .ok (.aload_n 0, 1) := by decide +kernel
theorem dX7_copy_259 : decode cX7_copy 259 = .ok (.getfield 16, 3) := by decide +kernel
theorem dX7_copy_262 : decode cX7_copy 262 = .ok (.sipush 160, 3) := by decide +kernel
theorem dX7_copy_265 : decode cX7_copy 265 = .ok (.iload_n 2, 1) := by decide +kernel
theorem dX7_copy_266 : decode cX7_copy 266 = .ok (.imul, 1) := by decide +kernel
theorem dX7_copy_267 : decode cX7_copy 267 = .ok (.iload 4, 2) := by decide +kernel
theorem dX7_copy_269 : decode cX7_copy 269 = .ok (.iadd, 1) := by decide +kernel
theorem dX7_copy_270 : decode cX7_copy 270 = .ok (.iload 6, 2) := by decide +kernel
theorem dX7_copy_272 : decode cX7_copy 272 = .ok (.iadd, 1) := by decide +kernel
theorem dX7_copy_273 : decode cX7_copy 273 = .ok (.aload_n 0, 1) := by decide +kernel
theorem dX7_copy_274 : decode cX7_copy 274 = .ok (.getfield 16, 3) := by decide +kernel
theorem dX7_copy_277 : decode cX7_copy 277 = .ok (.sipush 160, 3) := by decide +kernel
theorem dX7_copy_280 : decode cX7_copy 280 = .ok (.iload_n 1, 1) := by decide +kernel
theorem dX7_copy_281 : decode cX7_copy 281 = .ok (.imul, 1) := by decide +kernel
theorem dX7_copy_282 : decode cX7_copy 282 = .ok (.iload_n 3, 1) := by decide +kernel
theorem dX7_copy_283 : decode cX7_copy 283 = .ok (.iadd, 1) := by decide +kernel
theorem dX7_copy_284 : decode cX7_copy 284 = .ok (.iload 6, 2) := by decide +kernel
theorem dX7_copy_286 : decode cX7_copy 286 = .ok (.iadd, 1) := by decide +kernel
theorem dX7_copy_287 : decode cX7_copy 287 = .ok (.laload, 1) := by decide +kernel
theorem dX7_copy_288 : decode cX7_copy 288 = .ok (.lastore, 1) := by decide +kernel
theorem dX7_copy_289 : decode cX7_copy 289 = .ok (.iinc 6 1, 3) := by decide +kernel
theorem dX7_copy_292 : decode cX7_copy 292 = .ok (.goto (-41), 3) := by decide +kernel
theorem dX7_copy_295 : decode cX7_copy 295 = .ok (.iconst 1, 1) := by decide +kernel
theorem dX7_copy_296 : decode cX7_copy 296 = .ok (.ireturn, 1) := by decide +kernel
theorem dX7_element_0 : decode cX7_element 0 = .ok (.iload_n 1, 1) := by decide +kernel
theorem dX7_element_1 : decode cX7_element 1 = .ok (.iconst 0, 1) := by decide +kernel
theorem dX7_element_2 : decode cX7_element 2 = .ok (.bipush 7, 2) := by decide +kernel
theorem dX7_element_4 : decode cX7_element 4 = .ok (.invokestatic 97, 3) := by decide +kernel
theorem dX7_element_7 : decode cX7_element 7 = .ok (.ifCond .eq 42, 3) := by decide +kernel
theorem dX7_element_10 : decode cX7_element 10 = .ok (.aload_n 0, 1) := by decide +kernel
theorem dX7_element_11 : decode cX7_element 11 = .ok (.iload_n 1, 1) := by decide +kernel
theorem dX7_element_12 : decode cX7_element 12 = .ok (.invokevirtual 108, 3) := by decide +kernel
theorem dX7_element_15 : decode cX7_element 15 = .ok (.ifCond .eq 34, 3) := by decide +kernel
theorem dX7_element_18 : decode cX7_element 18 = .ok (.iload_n 2, 1) := by decide +kernel
theorem dX7_element_19 : decode cX7_element 19 = .ok (.iconst 0, 1) := by decide +kernel
theorem dX7_element_20 : decode cX7_element 20 = .ok (.aload_n 0, 1) := by decide +kernel
theorem dX7_element_21 : decode cX7_element 21 = .ok (.getfield 13, 3) := by decide +kernel
theorem dX7_element_24 : decode cX7_element 24 = .ok (.iload_n 1, 1) := by decide +kernel
theorem dX7_element_25 : decode cX7_element 25 = .ok (.iaload, 1) := by decide +kernel
theorem dX7_element_26 : decode cX7_element 26 = .ok (.iconst 1, 1) := by decide +kernel
theorem dX7_element_27 : decode cX7_element 27 = .ok (.isub, 1) := by decide +kernel
theorem dX7_element_28 : decode cX7_element 28 = .ok (.invokestatic 97, 3) := by decide +kernel
theorem dX7_element_31 : decode cX7_element 31 = .ok (.ifCond .eq 18, 3) := by decide +kernel
theorem dX7_element_34 : decode cX7_element 34 = .ok (.aload_n 0, 1) := by decide +kernel
theorem dX7_element_35 : decode cX7_element 35 = .ok (.getfield 16, 3) := by decide +kernel
theorem dX7_element_38 : decode cX7_element 38 = .ok (.sipush 160, 3) := by decide +kernel
theorem dX7_element_41 : decode cX7_element 41 = .ok (.iload_n 1, 1) := by decide +kernel
theorem dX7_element_42 : decode cX7_element 42 = .ok (.imul, 1) := by decide +kernel
theorem dX7_element_43 : decode cX7_element 43 = .ok (.iload_n 2, 1) := by decide +kernel
theorem dX7_element_44 : decode cX7_element 44 = .ok (.iadd, 1) := by decide +kernel
theorem dX7_element_45 : decode cX7_element 45 = .ok (.laload, 1) := by decide +kernel
theorem dX7_element_46 : decode cX7_element 46 = .ok (.goto 4, 3) := by decide +kernel
theorem dX7_element_49 : decode cX7_element 49 = .ok (.lconst 0, 1) := by decide +kernel
theorem dX7_element_50 : decode cX7_element 50 = .ok (.lreturn, 1) := by decide +kernel
theorem dX7_show_0 : decode cX7_show 0 = .ok (.iload_n 1, 1) := by decide +kernel
theorem dX7_show_1 : decode cX7_show 1 = .ok (.iconst 0, 1) := by decide +kernel
theorem dX7_show_2 : decode cX7_show 2 = .ok (.bipush 7, 2) := by decide +kernel
theorem dX7_show_4 : decode cX7_show 4 = .ok (.invokestatic 97, 3) := by decide +kernel
theorem dX7_show_7 : decode cX7_show 7 = .ok (.ifCond .eq 16, 3) := by decide +kernel
theorem dX7_show_10 : decode cX7_show 10 = .ok (.iload_n 2, 1) := by decide +kernel
theorem dX7_show_11 : decode cX7_show 11 = .ok (.iconst (-1), 1) := by decide +kernel
theorem dX7_show_12 : decode cX7_show 12 = .ok (.if_icmp .eq 17, 3) := by decide +kernel
theorem dX7_show_15 : decode cX7_show 15 = .ok (.aload_n 0, 1) := by decide +kernel
theorem dX7_show_16 : decode cX7_show 16 = .ok (.iload_n 2, 1) := by decide +kernel
theorem dX7_show_17 : decode cX7_show 17 = .ok (.invokevirtual 101, 3) := by decide +kernel
theorem dX7_show_20 : decode cX7_show 20 = .ok (.ifCond .ne 9, 3) := by decide +kernel
theorem dX7_show_23 : decode cX7_show 23 = .ok (.aload_n 0, 1) := by decide +kernel
theorem dX7_show_24 : decode cX7_show 24 = .ok (.iconst (-1), 1) := by decide +kernel
theorem dX7_show_25 : decode cX7_show 25 = .ok (.invokevirtual 90, 3) := by decide +kernel
theorem dX7_show_28 : decode cX7_show 28 = .ok (.ireturn, 1) := by decide +kernel
theorem dX7_show_29 : decode cX7_show 29 = .ok (.aload_n 0, 1) := by decide +kernel
theorem dX7_show_30 : decode cX7_show 30 = .ok (.getfield 7, 3) := by decide +kernel
theorem dX7_show_33 : decode cX7_show 33 = .ok (.iload_n 1, 1) := by decide +kernel
theorem dX7_show_34 : decode cX7_show 34 = .ok (.iload_n 2, 1) := by decide +kernel
theorem dX7_show_35 : decode cX7_show 35 = .ok (.iastore, 1) := by decide +kernel
theorem dX7_show_36 : decode cX7_show 36 = .ok (.iload_n 2, 1) := by decide +kernel
theorem dX7_show_37 : decode cX7_show 37 = .ok (.iconst (-1), 1) := by decide +kernel
theorem dX7_show_38 : decode cX7_show 38 = .ok (.if_icmp .ne 7, 3) := by decide +kernel
theorem dX7_show_41 : decode cX7_show 41 = .ok (.iconst 0, 1) := by decide +kernel
theorem dX7_show_42 : decode cX7_show 42 = .ok (.goto 4, 3) := by decide +kernel
theorem dX7_show_45 : decode cX7_show 45 = .ok (.iconst 1, 1) := by decide +kernel
theorem dX7_show_46 : decode cX7_show 46 = .ok (.ireturn, 1) := by decide +kernel
theorem dX7_holds_0 : decode cX7_holds 0 = .ok (.iload_n 1, 1) := by decide +kernel
theorem dX7_holds_1 : decode cX7_holds 1 = .ok (.iconst 0, 1) := by decide +kernel
theorem dX7_holds_2 : decode cX7_holds 2 = .ok (.bipush 7, 2) := by decide +kernel
theorem dX7_holds_4 : decode cX7_holds 4 = .ok (.invokestatic 97, 3) := by decide +kernel
theorem dX7_holds_7 : decode cX7_holds 7 = .ok (.ifCond .eq 12, 3) := by decide +kernel
theorem dX7_holds_10 : decode cX7_holds 10 = .ok (.aload_n 0, 1) := by decide +kernel
theorem dX7_holds_11 : decode cX7_holds 11 = .ok (.getfield 7, 3) := by decide +kernel
theorem dX7_holds_14 : decode cX7_holds 14 = .ok (.iload_n 1, 1) := by decide +kernel
theorem dX7_holds_15 : decode cX7_holds 15 = .ok (.iaload, 1) := by decide +kernel
theorem dX7_holds_16 : decode cX7_holds 16 = .ok (.goto 4, 3) := by decide +kernel
theorem dX7_holds_19 : decode cX7_holds 19 = .ok (.iconst (-1), 1) := by decide +kernel
theorem dX7_holds_20 : decode cX7_holds 20 = .ok (.ireturn, 1) := by decide +kernel
theorem dX7_above_0 : decode cX7_above 0 = .ok (.iload_n 0, 1) := by decide +kernel
theorem dX7_above_1 : decode cX7_above 1 = .ok (.iconst 3, 1) := by decide +kernel
theorem dX7_above_2 : decode cX7_above 2 = .ok (.if_icmp .ne 7, 3) := by decide +kernel
theorem dX7_above_5 : decode cX7_above 5 = .ok (.iconst 1, 1) := by decide +kernel
theorem dX7_above_6 : decode cX7_above 6 = .ok (.goto 23, 3) := by decide +kernel
theorem dX7_above_9 : decode cX7_above 9 = .ok (.iload_n 0, 1) := by decide +kernel
theorem dX7_above_10 : decode cX7_above 10 = .ok (.iconst 5, 1) := by decide +kernel
theorem dX7_above_11 : decode cX7_above 11 = .ok (.if_icmp .ne 7, 3) := by decide +kernel
theorem dX7_above_14 : decode cX7_above 14 = .ok (.iconst 2, 1) := by decide +kernel
theorem dX7_above_15 : decode cX7_above 15 = .ok (.goto 14, 3) := by decide +kernel
theorem dX7_above_18 : decode cX7_above 18 = .ok (.iload_n 0, 1) := by decide +kernel
theorem dX7_above_19 : decode cX7_above 19 = .ok (.bipush 6, 2) := by decide +kernel
theorem dX7_above_21 : decode cX7_above 21 = .ok (.if_icmp .ne 7, 3) := by decide +kernel
theorem dX7_above_24 : decode cX7_above 24 = .ok (.iconst 4, 1) := by decide +kernel
theorem dX7_above_25 : decode cX7_above 25 = .ok (.goto 4, 3) := by decide +kernel
theorem dX7_above_28 : decode cX7_above 28 = .ok (.iconst 0, 1) := by decide +kernel
theorem dX7_above_29 : decode cX7_above 29 = .ok (.ireturn, 1) := by decide +kernel
theorem dX7_isUnder_0 : decode cX7_isUnder 0 = .ok (.iload_n 0, 1) := by decide +kernel
theorem dX7_isUnder_1 : decode cX7_isUnder 1 = .ok (.istore_n 2, 1) := by decide +kernel
theorem dX7_isUnder_2 : decode cX7_isUnder 2 = .ok (.iload_n 2, 1) := by decide +kernel
theorem dX7_isUnder_3 : decode cX7_isUnder 3 = .ok (.iload_n 1, 1) := by decide +kernel
theorem dX7_isUnder_4 : decode cX7_isUnder 4 = .ok (.if_icmp .eq 15, 3) := by decide +kernel
theorem dX7_isUnder_7 : decode cX7_isUnder 7 = .ok (.iload_n 2, 1) := by decide +kernel
theorem dX7_isUnder_8 : decode cX7_isUnder 8 = .ok (.ifCond .le 11, 3) := by decide +kernel
theorem dX7_isUnder_11 : decode cX7_isUnder 11 = .ok (.iload_n 2, 1) := by decide +kernel
theorem dX7_isUnder_12 : decode cX7_isUnder 12 = .ok (.invokestatic 114, 3) := by decide +kernel
theorem dX7_isUnder_15 : decode cX7_isUnder 15 = .ok (.istore_n 2, 1) := by decide +kernel
theorem dX7_isUnder_16 : decode cX7_isUnder 16 = .ok (.goto (-14), 3) := by decide +kernel
theorem dX7_isUnder_19 : decode cX7_isUnder 19 = .ok (.iload_n 2, 1) := by decide +kernel
theorem dX7_isUnder_20 : decode cX7_isUnder 20 = .ok (.iload_n 1, 1) := by decide +kernel
theorem dX7_isUnder_21 : decode cX7_isUnder 21 = .ok (.if_icmp .ne 7, 3) := by decide +kernel
theorem dX7_isUnder_24 : decode cX7_isUnder 24 = .ok (.iconst 1, 1) := by decide +kernel
theorem dX7_isUnder_25 : decode cX7_isUnder 25 = .ok (.goto 4, 3) := by decide +kernel
theorem dX7_isUnder_28 : decode cX7_isUnder 28 = .ok (.iconst 0, 1) := by decide +kernel
theorem dX7_isUnder_29 : decode cX7_isUnder 29 = .ok (.ireturn, 1) := by decide +kernel
theorem dX7_says_0 : decode cX7_says 0 = .ok (.iload_n 1, 1) := by decide +kernel
theorem dX7_says_1 : decode cX7_says 1 = .ok (.iconst 0, 1) := by decide +kernel
theorem dX7_says_2 : decode cX7_says 2 = .ok (.bipush 7, 2) := by decide +kernel
theorem dX7_says_4 : decode cX7_says 4 = .ok (.invokestatic 97, 3) := by decide +kernel
theorem dX7_says_7 : decode cX7_says 7 = .ok (.ifCond .eq 13, 3) := by decide +kernel
theorem dX7_says_10 : decode cX7_says 10 = .ok (.iload_n 2, 1) := by decide +kernel
theorem dX7_says_11 : decode cX7_says 11 = .ok (.iconst 0, 1) := by decide +kernel
theorem dX7_says_12 : decode cX7_says 12 = .ok (.bipush 6, 2) := by decide +kernel
theorem dX7_says_14 : decode cX7_says 14 = .ok (.invokestatic 97, 3) := by decide +kernel
theorem dX7_says_17 : decode cX7_says 17 = .ok (.ifCond .ne 9, 3) := by decide +kernel
theorem dX7_says_20 : decode cX7_says 20 = .ok (.aload_n 0, 1) := by decide +kernel
theorem dX7_says_21 : decode cX7_says 21 = .ok (.iconst (-1), 1) := by decide +kernel
theorem dX7_says_22 : decode cX7_says 22 = .ok (.invokevirtual 90, 3) := by decide +kernel
theorem dX7_says_25 : decode cX7_says 25 = .ok (.ireturn, 1) := by decide +kernel
theorem dX7_says_26 : decode cX7_says 26 = .ok (.aload_n 0, 1) := by decide +kernel
theorem dX7_says_27 : decode cX7_says 27 = .ok (.getfield 7, 3) := by decide +kernel
theorem dX7_says_30 : decode cX7_says 30 = .ok (.iload_n 1, 1) := by decide +kernel
theorem dX7_says_31 : decode cX7_says 31 = .ok (.iaload, 1) := by decide +kernel
theorem dX7_says_32 : decode cX7_says 32 = .ok (.istore_n 3, 1) := by decide +kernel
theorem dX7_says_33 : decode cX7_says 33 = .ok (.iload_n 3, 1) := by decide +kernel
theorem dX7_says_34 : decode cX7_says 34 = .ok (.ifCond .lt 31, 3) := by decide +kernel
theorem dX7_says_37 : decode cX7_says 37 = .ok (.aload_n 0, 1) := by decide +kernel
theorem dX7_says_38 : decode cX7_says 38 = .ok (.iload_n 1, 1) := by decide +kernel
theorem dX7_says_39 : decode cX7_says 39 = .ok (.invokevirtual 108, 3) := by decide +kernel
theorem dX7_says_42 : decode cX7_says 42 = .ok (.ifCond .ne 16, 3) := by decide +kernel
theorem dX7_says_45 : decode cX7_says 45 = .ok (.aload_n 0, 1) := by decide +kernel
theorem dX7_says_46 : decode cX7_says 46 = .ok (.getfield 20, 3) := by decide +kernel
theorem dX7_says_49 : decode cX7_says 49 = .ok (.iload_n 3, 1) := by decide +kernel
theorem dX7_says_50 : decode cX7_says 50 = .ok (.iaload, 1) := by decide +kernel
theorem dX7_says_51 : decode cX7_says 51 = .ok (.iload_n 2, 1) := by decide +kernel
theorem dX7_says_52 : decode cX7_says 52 = .ok (.invokestatic 117, 3) := by decide +kernel
theorem dX7_says_55 : decode cX7_says 55 = .ok (.ifCond .ne 10, 3) := by decide +kernel
theorem dX7_says_58 : decode cX7_says 58 = .ok (.aload_n 0, 1) := by decide +kernel
theorem dX7_says_59 : decode cX7_says 59 = .ok (.bipush (-2), 2) := by decide +kernel
theorem dX7_says_61 : decode cX7_says 61 = .ok (.invokevirtual 90, 3) := by decide +kernel
theorem dX7_says_64 : decode cX7_says 64 = .ok (.ireturn, 1) := by decide +kernel
theorem dX7_says_65 : decode cX7_says 65 = .ok (.iload_n 3, 1) := by decide +kernel
theorem dX7_says_66 : decode cX7_says 66 = .ok (.ifCond .ge 10, 3) := by decide +kernel
theorem dX7_says_69 : decode cX7_says 69 = .ok (.aload_n 0, 1) := by decide +kernel
theorem dX7_says_70 : decode cX7_says 70 = .ok (.bipush (-3), 2) := by decide +kernel
theorem dX7_says_72 : decode cX7_says 72 = .ok (.invokevirtual 90, 3) := by decide +kernel
theorem dX7_says_75 : decode cX7_says 75 = .ok (.ireturn, 1) := by decide +kernel
theorem dX7_says_76 : decode cX7_says 76 = .ok (.iload_n 2, 1) := by decide +kernel
theorem dX7_says_77 : decode cX7_says 77 = .ok (.tableswitch 72 0 4 #[35, 42, 72, 42, 59], 35) := by decide +kernel
theorem dX7_says_112 : decode cX7_says 112 = .ok (.aload_n 0, 1) := by decide +kernel
theorem dX7_says_113 : decode cX7_says 113 = .ok (.getfield 29, 3) := by decide +kernel
theorem dX7_says_116 : decode cX7_says 116 = .ok (.iload_n 3, 1) := by decide +kernel
theorem dX7_says_117 : decode cX7_says 117 = .ok (.iaload, 1) := by decide +kernel
theorem dX7_says_118 : decode cX7_says 118 = .ok (.ireturn, 1) := by decide +kernel
theorem dX7_says_119 : decode cX7_says 119 = .ok (.aload_n 0, 1) := by decide +kernel
theorem dX7_says_120 : decode cX7_says 120 = .ok (.invokevirtual 121, 3) := by decide +kernel
theorem dX7_says_123 : decode cX7_says 123 = .ok (.iload_n 3, 1) := by decide +kernel
theorem dX7_says_124 : decode cX7_says 124 = .ok (.invokestatic 125, 3) := by decide +kernel
theorem dX7_says_127 : decode cX7_says 127 = .ok (.ifCond .eq 7, 3) := by decide +kernel
theorem dX7_says_130 : decode cX7_says 130 = .ok (.iconst 1, 1) := by decide +kernel
theorem dX7_says_131 : decode cX7_says 131 = .ok (.goto 4, 3) := by decide +kernel
theorem dX7_says_134 : decode cX7_says 134 = .ok (.iconst 0, 1) := by decide +kernel
theorem dX7_says_135 : decode cX7_says 135 = .ok (.ireturn, 1) := by decide +kernel
theorem dX7_says_136 : decode cX7_says 136 = .ok (.bipush 10, 2) := by decide +kernel
theorem dX7_says_138 : decode cX7_says 138 = .ok (.aload_n 0, 1) := by decide +kernel
theorem dX7_says_139 : decode cX7_says 139 = .ok (.getfield 23, 3) := by decide +kernel
theorem dX7_says_142 : decode cX7_says 142 = .ok (.iload_n 3, 1) := by decide +kernel
theorem dX7_says_143 : decode cX7_says 143 = .ok (.iaload, 1) := by decide +kernel
theorem dX7_says_144 : decode cX7_says 144 = .ok (.imul, 1) := by decide +kernel
theorem dX7_says_145 : decode cX7_says 145 = .ok (.bipush 10, 2) := by decide +kernel
theorem dX7_says_147 : decode cX7_says 147 = .ok (.iadd, 1) := by decide +kernel
theorem dX7_says_148 : decode cX7_says 148 = .ok (.ireturn, 1) := by decide +kernel
theorem dX7_says_149 : decode cX7_says 149 = .ok (.aload_n 0, 1) := by decide +kernel
theorem dX7_says_150 : decode cX7_says 150 = .ok (.iload_n 3, 1) := by decide +kernel
theorem dX7_says_151 : decode cX7_says 151 = .ok (.bipush 100, 2) := by decide +kernel
theorem dX7_says_153 : decode cX7_says 153 = .ok (.invokevirtual 128, 3) := by decide +kernel
theorem dX7_says_156 : decode cX7_says 156 = .ok (.ireturn, 1) := by decide +kernel
theorem dX7_newPeak_0 : decode cX7_newPeak 0 = .ok (.aload_n 0, 1) := by decide +kernel
theorem dX7_newPeak_1 : decode cX7_newPeak 1 = .ok (.getfield 20, 3) := by decide +kernel
theorem dX7_newPeak_4 : decode cX7_newPeak 4 = .ok (.aload_n 0, 1) := by decide +kernel
theorem dX7_newPeak_5 : decode cX7_newPeak 5 = .ok (.getfield 94, 3) := by decide +kernel
theorem dX7_newPeak_8 : decode cX7_newPeak 8 = .ok (.iload_n 1, 1) := by decide +kernel
theorem dX7_newPeak_9 : decode cX7_newPeak 9 = .ok (.iastore, 1) := by decide +kernel
theorem dX7_newPeak_10 : decode cX7_newPeak 10 = .ok (.aload_n 0, 1) := by decide +kernel
theorem dX7_newPeak_11 : decode cX7_newPeak 11 = .ok (.getfield 23, 3) := by decide +kernel
theorem dX7_newPeak_14 : decode cX7_newPeak 14 = .ok (.aload_n 0, 1) := by decide +kernel
theorem dX7_newPeak_15 : decode cX7_newPeak 15 = .ok (.getfield 94, 3) := by decide +kernel
theorem dX7_newPeak_18 : decode cX7_newPeak 18 = .ok (.iload_n 2, 1) := by decide +kernel
theorem dX7_newPeak_19 : decode cX7_newPeak 19 = .ok (.iastore, 1) := by decide +kernel
theorem dX7_newPeak_20 : decode cX7_newPeak 20 = .ok (.aload_n 0, 1) := by decide +kernel
theorem dX7_newPeak_21 : decode cX7_newPeak 21 = .ok (.getfield 26, 3) := by decide +kernel
theorem dX7_newPeak_24 : decode cX7_newPeak 24 = .ok (.aload_n 0, 1) := by decide +kernel
theorem dX7_newPeak_25 : decode cX7_newPeak 25 = .ok (.getfield 94, 3) := by decide +kernel
theorem dX7_newPeak_28 : decode cX7_newPeak 28 = .ok (.iload_n 3, 1) := by decide +kernel
theorem dX7_newPeak_29 : decode cX7_newPeak 29 = .ok (.iastore, 1) := by decide +kernel
theorem dX7_newPeak_30 : decode cX7_newPeak 30 = .ok (.aload_n 0, 1) := by decide +kernel
theorem dX7_newPeak_31 : decode cX7_newPeak 31 = .ok (.getfield 29, 3) := by decide +kernel
theorem dX7_newPeak_34 : decode cX7_newPeak 34 = .ok (.aload_n 0, 1) := by decide +kernel
theorem dX7_newPeak_35 : decode cX7_newPeak 35 = .ok (.getfield 94, 3) := by decide +kernel
theorem dX7_newPeak_38 : decode cX7_newPeak 38 = .ok (.iload 4, 2) := by decide +kernel
theorem dX7_newPeak_40 : decode cX7_newPeak 40 = .ok (.iastore, 1) := by decide +kernel
theorem dX7_newPeak_41 : decode cX7_newPeak 41 = .ok (.aload_n 0, 1) := by decide +kernel
theorem dX7_newPeak_42 : decode cX7_newPeak 42 = .ok (.getfield 32, 3) := by decide +kernel
theorem dX7_newPeak_45 : decode cX7_newPeak 45 = .ok (.aload_n 0, 1) := by decide +kernel
theorem dX7_newPeak_46 : decode cX7_newPeak 46 = .ok (.getfield 94, 3) := by decide +kernel
theorem dX7_newPeak_49 : decode cX7_newPeak 49 = .ok (.iconst 1, 1) := by decide +kernel
theorem dX7_newPeak_50 : decode cX7_newPeak 50 = .ok (.iastore, 1) := by decide +kernel
theorem dX7_newPeak_51 : decode cX7_newPeak 51 = .ok (.aload_n 0, 1) := by decide +kernel
theorem dX7_newPeak_52 : decode cX7_newPeak 52 = .ok (.getfield 35, 3) := by decide +kernel
theorem dX7_newPeak_55 : decode cX7_newPeak 55 = .ok (.aload_n 0, 1) := by decide +kernel
theorem dX7_newPeak_56 : decode cX7_newPeak 56 = .ok (.getfield 94, 3) := by decide +kernel
theorem dX7_newPeak_59 : decode cX7_newPeak 59 = .ok (.iconst 0, 1) := by decide +kernel
theorem dX7_newPeak_60 : decode cX7_newPeak 60 = .ok (.iastore, 1) := by decide +kernel
theorem dX7_newPeak_61 : decode cX7_newPeak 61 = .ok (.iconst 0, 1) := by decide +kernel
theorem dX7_newPeak_62 : decode cX7_newPeak 62 = .ok (.istore 5, 2) := by decide +kernel
theorem dX7_newPeak_64 : decode cX7_newPeak 64 = .ok (.iload 5, 2) := by decide +kernel
theorem dX7_newPeak_66 : decode cX7_newPeak 66 = .ok (.bipush 10, 2) := by decide +kernel
theorem dX7_newPeak_68 : decode cX7_newPeak 68 = .ok (.if_icmp .ge 41, 3) := by decide +kernel
theorem dX7_newPeak_71 : decode cX7_newPeak 71 = .ok (.aload_n 0, 1) := by decide +kernel
theorem dX7_newPeak_72 : decode cX7_newPeak 72 = .ok (.getfield 38, 3) := by decide +kernel
theorem dX7_newPeak_75 : decode cX7_newPeak 75 = .ok (.bipush 10, 2) := by decide +kernel
theorem dX7_newPeak_77 : decode cX7_newPeak 77 = .ok (.aload_n 0, 1) := by decide +kernel
theorem dX7_newPeak_78 : decode cX7_newPeak 78 = .ok (.getfield 94, 3) := by decide +kernel
theorem dX7_newPeak_81 : decode cX7_newPeak 81 = .ok (.imul, 1) := by decide +kernel
theorem dX7_newPeak_82 : decode cX7_newPeak 82 = .ok (.iload 5, 2) := by decide +kernel
theorem dX7_newPeak_84 : decode cX7_newPeak 84 = .ok (.iadd, 1) := by decide +kernel
theorem dX7_newPeak_85 : decode cX7_newPeak 85 = .ok (.iconst (-1), 1) := by decide +kernel
theorem dX7_newPeak_86 : decode cX7_newPeak 86 = .ok (.iastore, 1) := by decide +kernel
theorem dX7_newPeak_87 : decode cX7_newPeak 87 = .ok (.aload_n 0, 1) := by decide +kernel
theorem dX7_newPeak_88 : decode cX7_newPeak 88 = .ok (.getfield 38, 3) := by decide +kernel
theorem dX7_newPeak_91 : decode cX7_newPeak 91 = .ok (.bipush 10, 2) := by decide +kernel
theorem dX7_newPeak_93 : decode cX7_newPeak 93 = .ok (.iload 5, 2) := by decide +kernel
theorem dX7_newPeak_95 : decode cX7_newPeak 95 = .ok (.imul, 1) := by decide +kernel
theorem dX7_newPeak_96 : decode cX7_newPeak 96 = .ok (.aload_n 0, 1) := by decide +kernel
theorem dX7_newPeak_97 : decode cX7_newPeak 97 = .ok (.getfield 94, 3) := by decide +kernel
theorem dX7_newPeak_100 : decode cX7_newPeak 100 = .ok (.iadd, 1) := by decide +kernel
theorem dX7_newPeak_101 : decode cX7_newPeak 101 = .ok (.iconst (-1), 1) := by decide +kernel
theorem dX7_newPeak_102 : decode cX7_newPeak 102 = .ok (.iastore, 1) := by decide +kernel
theorem dX7_newPeak_103 : decode cX7_newPeak 103 = .ok (.iinc 5 1, 3) := by decide +kernel
theorem dX7_newPeak_106 : decode cX7_newPeak 106 = .ok (.goto (-42), 3) := by decide +kernel
theorem dX7_newPeak_109 : decode cX7_newPeak 109 = .ok (.aload_n 0, 1) := by decide +kernel
theorem dX7_newPeak_110 : decode cX7_newPeak 110 = .ok (.dup, 1) := by decide +kernel
theorem dX7_newPeak_111 : decode cX7_newPeak 111 = .ok (.getfield 94, 3) := by decide +kernel
theorem dX7_newPeak_114 : decode cX7_newPeak 114 = .ok (.iconst 1, 1) := by decide +kernel
theorem dX7_newPeak_115 : decode cX7_newPeak 115 = .ok (.iadd, 1) := by decide +kernel
theorem dX7_newPeak_116 : decode cX7_newPeak 116 = .ok (.putfield 94, 3) := by decide +kernel
theorem dX7_newPeak_119 : decode cX7_newPeak 119 = .ok (.aload_n 0, 1) := by decide +kernel
theorem dX7_newPeak_120 : decode cX7_newPeak 120 = .ok (.invokevirtual 132, 3) := by decide +kernel
theorem dX7_newPeak_123 : decode cX7_newPeak 123 = .ok (.aload_n 0, 1) := by decide +kernel
theorem dX7_newPeak_124 : decode cX7_newPeak 124 = .ok (.getfield 94, 3) := by decide +kernel
theorem dX7_newPeak_127 : decode cX7_newPeak 127 = .ok (.iconst 1, 1) := by decide +kernel
theorem dX7_newPeak_128 : decode cX7_newPeak 128 = .ok (.isub, 1) := by decide +kernel
theorem dX7_newPeak_129 : decode cX7_newPeak 129 = .ok (.ireturn, 1) := by decide +kernel
theorem dX7_peak_0 : decode cX7_peak 0 = .ok (.iload_n 1, 1) := by decide +kernel
theorem dX7_peak_1 : decode cX7_peak 1 = .ok (.iconst 0, 1) := by decide +kernel
theorem dX7_peak_2 : decode cX7_peak 2 = .ok (.bipush 6, 2) := by decide +kernel
theorem dX7_peak_4 : decode cX7_peak 4 = .ok (.invokestatic 97, 3) := by decide +kernel
theorem dX7_peak_7 : decode cX7_peak 7 = .ok (.ifCond .ne 9, 3) := by decide +kernel
theorem dX7_peak_10 : decode cX7_peak 10 = .ok (.aload_n 0, 1) := by decide +kernel
theorem dX7_peak_11 : decode cX7_peak 11 = .ok (.iconst (-1), 1) := by decide +kernel
theorem dX7_peak_12 : decode cX7_peak 12 = .ok (.invokevirtual 90, 3) := by decide +kernel
theorem dX7_peak_15 : decode cX7_peak 15 = .ok (.ireturn, 1) := by decide +kernel
theorem dX7_peak_16 : decode cX7_peak 16 = .ok (.iload_n 2, 1) := by decide +kernel
theorem dX7_peak_17 : decode cX7_peak 17 = .ok (.iconst 0, 1) := by decide +kernel
theorem dX7_peak_18 : decode cX7_peak 18 = .ok (.bipush 9, 2) := by decide +kernel
theorem dX7_peak_20 : decode cX7_peak 20 = .ok (.invokestatic 97, 3) := by decide +kernel
theorem dX7_peak_23 : decode cX7_peak 23 = .ok (.ifCond .eq 26, 3) := by decide +kernel
theorem dX7_peak_26 : decode cX7_peak 26 = .ok (.iload_n 3, 1) := by decide +kernel
theorem dX7_peak_27 : decode cX7_peak 27 = .ok (.invokestatic 135, 3) := by decide +kernel
theorem dX7_peak_30 : decode cX7_peak 30 = .ok (.ifCond .eq 19, 3) := by decide +kernel
theorem dX7_peak_33 : decode cX7_peak 33 = .ok (.iload 4, 2) := by decide +kernel
theorem dX7_peak_35 : decode cX7_peak 35 = .ok (.invokestatic 138, 3) := by decide +kernel
theorem dX7_peak_38 : decode cX7_peak 38 = .ok (.ifCond .eq 11, 3) := by decide +kernel
theorem dX7_peak_41 : decode cX7_peak 41 = .ok (.aload_n 0, 1) := by decide +kernel
theorem dX7_peak_42 : decode cX7_peak 42 = .ok (.iload_n 3, 1) := by decide +kernel
theorem dX7_peak_43 : decode cX7_peak 43 = .ok (.invokevirtual 141, 3) := by decide +kernel
theorem dX7_peak_46 : decode cX7_peak 46 = .ok (.ifCond .eq 10, 3) := by decide +kernel
theorem dX7_peak_49 : decode cX7_peak 49 = .ok (.aload_n 0, 1) := by decide +kernel
theorem dX7_peak_50 : decode cX7_peak 50 = .ok (.bipush (-6), 2) := by decide +kernel
theorem dX7_peak_52 : decode cX7_peak 52 = .ok (.invokevirtual 90, 3) := by decide +kernel
theorem dX7_peak_55 : decode cX7_peak 55 = .ok (.ireturn, 1) := by decide +kernel
theorem dX7_peak_56 : decode cX7_peak 56 = .ok (.aload_n 0, 1) := by decide +kernel
theorem dX7_peak_57 : decode cX7_peak 57 = .ok (.getfield 94, 3) := by decide +kernel
theorem dX7_peak_60 : decode cX7_peak 60 = .ok (.bipush 10, 2) := by decide +kernel
theorem dX7_peak_62 : decode cX7_peak 62 = .ok (.if_icmp .ne 12, 3) := by decide +kernel
theorem dX7_peak_65 : decode cX7_peak 65 = .ok (.aload_n 0, 1) := by decide +kernel
theorem dX7_peak_66 : decode cX7_peak 66 = .ok (.bipush (-7), 2) := by decide +kernel
theorem dX7_peak_68 : decode cX7_peak 68 = .ok (.invokevirtual 90, 3) := by decide +kernel
theorem dX7_peak_71 : decode cX7_peak 71 = .ok (.goto 12, 3) := by decide +kernel
theorem dX7_peak_74 : decode cX7_peak 74 = .ok (.aload_n 0, 1) := by decide +kernel
theorem dX7_peak_75 : decode cX7_peak 75 = .ok (.iload_n 1, 1) := by decide +kernel
theorem dX7_peak_76 : decode cX7_peak 76 = .ok (.iload_n 2, 1) := by decide +kernel
theorem dX7_peak_77 : decode cX7_peak 77 = .ok (.iload_n 3, 1) := by decide +kernel
theorem dX7_peak_78 : decode cX7_peak 78 = .ok (.iload 4, 2) := by decide +kernel
theorem dX7_peak_80 : decode cX7_peak 80 = .ok (.invokevirtual 144, 3) := by decide +kernel
theorem dX7_peak_83 : decode cX7_peak 83 = .ok (.ireturn, 1) := by decide +kernel
theorem dX7_newScreen_0 : decode cX7_newScreen 0 = .ok (.aload_n 0, 1) := by decide +kernel
theorem dX7_newScreen_1 : decode cX7_newScreen 1 = .ok (.getfield 41, 3) := by decide +kernel
theorem dX7_newScreen_4 : decode cX7_newScreen 4 = .ok (.aload_n 0, 1) := by decide +kernel
theorem dX7_newScreen_5 : decode cX7_newScreen 5 = .ok (.getfield 148, 3) := by decide +kernel
theorem dX7_newScreen_8 : decode cX7_newScreen 8 = .ok (.iload_n 1, 1) := by decide +kernel
theorem dX7_newScreen_9 : decode cX7_newScreen 9 = .ok (.iastore, 1) := by decide +kernel
theorem dX7_newScreen_10 : decode cX7_newScreen 10 = .ok (.aload_n 0, 1) := by decide +kernel
theorem dX7_newScreen_11 : decode cX7_newScreen 11 = .ok (.getfield 44, 3) := by decide +kernel
theorem dX7_newScreen_14 : decode cX7_newScreen 14 = .ok (.aload_n 0, 1) := by decide +kernel
theorem dX7_newScreen_15 : decode cX7_newScreen 15 = .ok (.getfield 148, 3) := by decide +kernel
theorem dX7_newScreen_18 : decode cX7_newScreen 18 = .ok (.iload_n 2, 1) := by decide +kernel
theorem dX7_newScreen_19 : decode cX7_newScreen 19 = .ok (.iastore, 1) := by decide +kernel
theorem dX7_newScreen_20 : decode cX7_newScreen 20 = .ok (.aload_n 0, 1) := by decide +kernel
theorem dX7_newScreen_21 : decode cX7_newScreen 21 = .ok (.dup, 1) := by decide +kernel
theorem dX7_newScreen_22 : decode cX7_newScreen 22 = .ok (.getfield 148, 3) := by decide +kernel
theorem dX7_newScreen_25 : decode cX7_newScreen 25 = .ok (.iconst 1, 1) := by decide +kernel
theorem dX7_newScreen_26 : decode cX7_newScreen 26 = .ok (.iadd, 1) := by decide +kernel
theorem dX7_newScreen_27 : decode cX7_newScreen 27 = .ok (.putfield 148, 3) := by decide +kernel
theorem dX7_newScreen_30 : decode cX7_newScreen 30 = .ok (.aload_n 0, 1) := by decide +kernel
theorem dX7_newScreen_31 : decode cX7_newScreen 31 = .ok (.invokevirtual 132, 3) := by decide +kernel
theorem dX7_newScreen_34 : decode cX7_newScreen 34 = .ok (.aload_n 0, 1) := by decide +kernel
theorem dX7_newScreen_35 : decode cX7_newScreen 35 = .ok (.getfield 148, 3) := by decide +kernel
theorem dX7_newScreen_38 : decode cX7_newScreen 38 = .ok (.iconst 1, 1) := by decide +kernel
theorem dX7_newScreen_39 : decode cX7_newScreen 39 = .ok (.isub, 1) := by decide +kernel
theorem dX7_newScreen_40 : decode cX7_newScreen 40 = .ok (.ireturn, 1) := by decide +kernel
theorem dX7_screen_0 : decode cX7_screen 0 = .ok (.iload_n 1, 1) := by decide +kernel
theorem dX7_screen_1 : decode cX7_screen 1 = .ok (.invokestatic 135, 3) := by decide +kernel
theorem dX7_screen_4 : decode cX7_screen 4 = .ok (.ifCond .eq 10, 3) := by decide +kernel
theorem dX7_screen_7 : decode cX7_screen 7 = .ok (.iload_n 2, 1) := by decide +kernel
theorem dX7_screen_8 : decode cX7_screen 8 = .ok (.invokestatic 138, 3) := by decide +kernel
theorem dX7_screen_11 : decode cX7_screen 11 = .ok (.ifCond .ne 10, 3) := by decide +kernel
theorem dX7_screen_14 : decode cX7_screen 14 = .ok (.aload_n 0, 1) := by decide +kernel
theorem dX7_screen_15 : decode cX7_screen 15 = .ok (.bipush (-6), 2) := by decide +kernel
theorem dX7_screen_17 : decode cX7_screen 17 = .ok (.invokevirtual 90, 3) := by decide +kernel
theorem dX7_screen_20 : decode cX7_screen 20 = .ok (.ireturn, 1) := by decide +kernel
theorem dX7_screen_21 : decode cX7_screen 21 = .ok (.aload_n 0, 1) := by decide +kernel
theorem dX7_screen_22 : decode cX7_screen 22 = .ok (.getfield 148, 3) := by decide +kernel
theorem dX7_screen_25 : decode cX7_screen 25 = .ok (.bipush 6, 2) := by decide +kernel
theorem dX7_screen_27 : decode cX7_screen 27 = .ok (.if_icmp .ne 12, 3) := by decide +kernel
theorem dX7_screen_30 : decode cX7_screen 30 = .ok (.aload_n 0, 1) := by decide +kernel
theorem dX7_screen_31 : decode cX7_screen 31 = .ok (.bipush (-7), 2) := by decide +kernel
theorem dX7_screen_33 : decode cX7_screen 33 = .ok (.invokevirtual 90, 3) := by decide +kernel
theorem dX7_screen_36 : decode cX7_screen 36 = .ok (.goto 9, 3) := by decide +kernel
theorem dX7_screen_39 : decode cX7_screen 39 = .ok (.aload_n 0, 1) := by decide +kernel
theorem dX7_screen_40 : decode cX7_screen 40 = .ok (.iload_n 1, 1) := by decide +kernel
theorem dX7_screen_41 : decode cX7_screen 41 = .ok (.iload_n 2, 1) := by decide +kernel
theorem dX7_screen_42 : decode cX7_screen 42 = .ok (.invokevirtual 151, 3) := by decide +kernel
theorem dX7_screen_45 : decode cX7_screen 45 = .ok (.ireturn, 1) := by decide +kernel
theorem dX7_newValley_0 : decode cX7_newValley 0 = .ok (.aload_n 0, 1) := by decide +kernel
theorem dX7_newValley_1 : decode cX7_newValley 1 = .ok (.getfield 47, 3) := by decide +kernel
theorem dX7_newValley_4 : decode cX7_newValley 4 = .ok (.aload_n 0, 1) := by decide +kernel
theorem dX7_newValley_5 : decode cX7_newValley 5 = .ok (.getfield 105, 3) := by decide +kernel
theorem dX7_newValley_8 : decode cX7_newValley 8 = .ok (.iload_n 1, 1) := by decide +kernel
theorem dX7_newValley_9 : decode cX7_newValley 9 = .ok (.iastore, 1) := by decide +kernel
theorem dX7_newValley_10 : decode cX7_newValley 10 = .ok (.aload_n 0, 1) := by decide +kernel
theorem dX7_newValley_11 : decode cX7_newValley 11 = .ok (.getfield 50, 3) := by decide +kernel
theorem dX7_newValley_14 : decode cX7_newValley 14 = .ok (.aload_n 0, 1) := by decide +kernel
theorem dX7_newValley_15 : decode cX7_newValley 15 = .ok (.getfield 105, 3) := by decide +kernel
theorem dX7_newValley_18 : decode cX7_newValley 18 = .ok (.iconst 0, 1) := by decide +kernel
theorem dX7_newValley_19 : decode cX7_newValley 19 = .ok (.iastore, 1) := by decide +kernel
theorem dX7_newValley_20 : decode cX7_newValley 20 = .ok (.aload_n 0, 1) := by decide +kernel
theorem dX7_newValley_21 : decode cX7_newValley 21 = .ok (.dup, 1) := by decide +kernel
theorem dX7_newValley_22 : decode cX7_newValley 22 = .ok (.getfield 105, 3) := by decide +kernel
theorem dX7_newValley_25 : decode cX7_newValley 25 = .ok (.dup_x1, 1) := by decide +kernel
theorem dX7_newValley_26 : decode cX7_newValley 26 = .ok (.iconst 1, 1) := by decide +kernel
theorem dX7_newValley_27 : decode cX7_newValley 27 = .ok (.iadd, 1) := by decide +kernel
theorem dX7_newValley_28 : decode cX7_newValley 28 = .ok (.putfield 105, 3) := by decide +kernel
theorem dX7_newValley_31 : decode cX7_newValley 31 = .ok (.ireturn, 1) := by decide +kernel
theorem dX7_valley_0 : decode cX7_valley 0 = .ok (.iload_n 1, 1) := by decide +kernel
theorem dX7_valley_1 : decode cX7_valley 1 = .ok (.iconst 0, 1) := by decide +kernel
theorem dX7_valley_2 : decode cX7_valley 2 = .ok (.sipush 999, 3) := by decide +kernel
theorem dX7_valley_5 : decode cX7_valley 5 = .ok (.invokestatic 97, 3) := by decide +kernel
theorem dX7_valley_8 : decode cX7_valley 8 = .ok (.ifCond .ne 10, 3) := by decide +kernel
theorem dX7_valley_11 : decode cX7_valley 11 = .ok (.aload_n 0, 1) := by decide +kernel
theorem dX7_valley_12 : decode cX7_valley 12 = .ok (.bipush (-6), 2) := by decide +kernel
theorem dX7_valley_14 : decode cX7_valley 14 = .ok (.invokevirtual 90, 3) := by decide +kernel
theorem dX7_valley_17 : decode cX7_valley 17 = .ok (.ireturn, 1) := by decide +kernel
theorem dX7_valley_18 : decode cX7_valley 18 = .ok (.aload_n 0, 1) := by decide +kernel
theorem dX7_valley_19 : decode cX7_valley 19 = .ok (.getfield 105, 3) := by decide +kernel
theorem dX7_valley_22 : decode cX7_valley 22 = .ok (.bipush 8, 2) := by decide +kernel
theorem dX7_valley_24 : decode cX7_valley 24 = .ok (.if_icmp .ne 12, 3) := by decide +kernel
theorem dX7_valley_27 : decode cX7_valley 27 = .ok (.aload_n 0, 1) := by decide +kernel
theorem dX7_valley_28 : decode cX7_valley 28 = .ok (.bipush (-7), 2) := by decide +kernel
theorem dX7_valley_30 : decode cX7_valley 30 = .ok (.invokevirtual 90, 3) := by decide +kernel
theorem dX7_valley_33 : decode cX7_valley 33 = .ok (.goto 8, 3) := by decide +kernel
theorem dX7_valley_36 : decode cX7_valley 36 = .ok (.aload_n 0, 1) := by decide +kernel
theorem dX7_valley_37 : decode cX7_valley 37 = .ok (.iload_n 1, 1) := by decide +kernel
theorem dX7_valley_38 : decode cX7_valley 38 = .ok (.invokevirtual 154, 3) := by decide +kernel
theorem dX7_valley_41 : decode cX7_valley 41 = .ok (.ireturn, 1) := by decide +kernel
theorem dX7_under_0 : decode cX7_under 0 = .ok (.aload_n 0, 1) := by decide +kernel
theorem dX7_under_1 : decode cX7_under 1 = .ok (.iload_n 1, 1) := by decide +kernel
theorem dX7_under_2 : decode cX7_under 2 = .ok (.invokevirtual 157, 3) := by decide +kernel
theorem dX7_under_5 : decode cX7_under 5 = .ok (.ifCond .eq 11, 3) := by decide +kernel
theorem dX7_under_8 : decode cX7_under 8 = .ok (.aload_n 0, 1) := by decide +kernel
theorem dX7_under_9 : decode cX7_under 9 = .ok (.iload_n 2, 1) := by decide +kernel
theorem dX7_under_10 : decode cX7_under 10 = .ok (.invokevirtual 101, 3) := by decide +kernel
theorem dX7_under_13 : decode cX7_under 13 = .ok (.ifCond .ne 9, 3) := by decide +kernel
theorem dX7_under_16 : decode cX7_under 16 = .ok (.aload_n 0, 1) := by decide +kernel
theorem dX7_under_17 : decode cX7_under 17 = .ok (.iconst (-1), 1) := by decide +kernel
theorem dX7_under_18 : decode cX7_under 18 = .ok (.invokevirtual 90, 3) := by decide +kernel
theorem dX7_under_21 : decode cX7_under 21 = .ok (.ireturn, 1) := by decide +kernel
theorem dX7_under_22 : decode cX7_under 22 = .ok (.aload_n 0, 1) := by decide +kernel
theorem dX7_under_23 : decode cX7_under 23 = .ok (.getfield 50, 3) := by decide +kernel
theorem dX7_under_26 : decode cX7_under 26 = .ok (.iload_n 1, 1) := by decide +kernel
theorem dX7_under_27 : decode cX7_under 27 = .ok (.iaload, 1) := by decide +kernel
theorem dX7_under_28 : decode cX7_under 28 = .ok (.iload_n 2, 1) := by decide +kernel
theorem dX7_under_29 : decode cX7_under 29 = .ok (.invokestatic 125, 3) := by decide +kernel
theorem dX7_under_32 : decode cX7_under 32 = .ok (.ifCond .eq 7, 3) := by decide +kernel
theorem dX7_under_35 : decode cX7_under 35 = .ok (.iconst 1, 1) := by decide +kernel
theorem dX7_under_36 : decode cX7_under 36 = .ok (.goto 4, 3) := by decide +kernel
theorem dX7_under_39 : decode cX7_under 39 = .ok (.iconst 0, 1) := by decide +kernel
theorem dX7_under_40 : decode cX7_under 40 = .ok (.istore 4, 2) := by decide +kernel
theorem dX7_under_42 : decode cX7_under 42 = .ok (.aload_n 0, 1) := by decide +kernel
theorem dX7_under_43 : decode cX7_under 43 = .ok (.getfield 50, 3) := by decide +kernel
theorem dX7_under_46 : decode cX7_under 46 = .ok (.iload_n 1, 1) := by decide +kernel
theorem dX7_under_47 : decode cX7_under 47 = .ok (.aload_n 0, 1) := by decide +kernel
theorem dX7_under_48 : decode cX7_under 48 = .ok (.getfield 50, 3) := by decide +kernel
theorem dX7_under_51 : decode cX7_under 51 = .ok (.iload_n 1, 1) := by decide +kernel
theorem dX7_under_52 : decode cX7_under 52 = .ok (.iaload, 1) := by decide +kernel
theorem dX7_under_53 : decode cX7_under 53 = .ok (.iconst 1, 1) := by decide +kernel
theorem dX7_under_54 : decode cX7_under 54 = .ok (.iload_n 2, 1) := by decide +kernel
theorem dX7_under_55 : decode cX7_under 55 = .ok (.ishl, 1) := by decide +kernel
theorem dX7_under_56 : decode cX7_under 56 = .ok (.iconst (-1), 1) := by decide +kernel
theorem dX7_under_57 : decode cX7_under 57 = .ok (.ixor, 1) := by decide +kernel
theorem dX7_under_58 : decode cX7_under 58 = .ok (.iand, 1) := by decide +kernel
theorem dX7_under_59 : decode cX7_under 59 = .ok (.iload_n 3, 1) := by decide +kernel
theorem dX7_under_60 : decode cX7_under 60 = .ok (.ifCond .eq 9, 3) := by decide +kernel
theorem dX7_under_63 : decode cX7_under 63 = .ok (.iconst 1, 1) := by decide +kernel
theorem dX7_under_64 : decode cX7_under 64 = .ok (.iload_n 2, 1) := by decide +kernel
theorem dX7_under_65 : decode cX7_under 65 = .ok (.ishl, 1) := by decide +kernel
theorem dX7_under_66 : decode cX7_under 66 = .ok (.goto 4, 3) := by decide +kernel
theorem dX7_under_69 : decode cX7_under 69 = .ok (.iconst 0, 1) := by decide +kernel
theorem dX7_under_70 : decode cX7_under 70 = .ok (.ior, 1) := by decide +kernel
theorem dX7_under_71 : decode cX7_under 71 = .ok (.iastore, 1) := by decide +kernel
theorem dX7_under_72 : decode cX7_under 72 = .ok (.iload 4, 2) := by decide +kernel
theorem dX7_under_74 : decode cX7_under 74 = .ok (.ireturn, 1) := by decide +kernel
theorem dX7_peakOf_0 : decode cX7_peakOf 0 = .ok (.aload_n 0, 1) := by decide +kernel
theorem dX7_peakOf_1 : decode cX7_peakOf 1 = .ok (.iload_n 1, 1) := by decide +kernel
theorem dX7_peakOf_2 : decode cX7_peakOf 2 = .ok (.invokevirtual 101, 3) := by decide +kernel
theorem dX7_peakOf_5 : decode cX7_peakOf 5 = .ok (.ifCond .ne 10, 3) := by decide +kernel
theorem dX7_peakOf_8 : decode cX7_peakOf 8 = .ok (.aload_n 0, 1) := by decide +kernel
theorem dX7_peakOf_9 : decode cX7_peakOf 9 = .ok (.bipush (-5), 2) := by decide +kernel
theorem dX7_peakOf_11 : decode cX7_peakOf 11 = .ok (.invokevirtual 90, 3) := by decide +kernel
theorem dX7_peakOf_14 : decode cX7_peakOf 14 = .ok (.ireturn, 1) := by decide +kernel
theorem dX7_peakOf_15 : decode cX7_peakOf 15 = .ok (.iconst 0, 1) := by decide +kernel
theorem dX7_peakOf_16 : decode cX7_peakOf 16 = .ok (.istore_n 3, 1) := by decide +kernel
theorem dX7_peakOf_17 : decode cX7_peakOf 17 = .ok (.iload_n 2, 1) := by decide +kernel
theorem dX7_peakOf_18 : decode cX7_peakOf 18 = .ok (.tableswitch 121 0 6 #[42, 49, 56, 63, 70, 77, 84], 42) := by decide +kernel
theorem dX7_peakOf_60 : decode cX7_peakOf 60 = .ok (.aload_n 0, 1) := by decide +kernel
theorem dX7_peakOf_61 : decode cX7_peakOf 61 = .ok (.getfield 20, 3) := by decide +kernel
theorem dX7_peakOf_64 : decode cX7_peakOf 64 = .ok (.iload_n 1, 1) := by decide +kernel
theorem dX7_peakOf_65 : decode cX7_peakOf 65 = .ok (.iaload, 1) := by decide +kernel
theorem dX7_peakOf_66 : decode cX7_peakOf 66 = .ok (.ireturn, 1) := by decide +kernel
theorem dX7_peakOf_67 : decode cX7_peakOf 67 = .ok (.aload_n 0, 1) := by decide +kernel
theorem dX7_peakOf_68 : decode cX7_peakOf 68 = .ok (.getfield 23, 3) := by decide +kernel
theorem dX7_peakOf_71 : decode cX7_peakOf 71 = .ok (.iload_n 1, 1) := by decide +kernel
theorem dX7_peakOf_72 : decode cX7_peakOf 72 = .ok (.iaload, 1) := by decide +kernel
theorem dX7_peakOf_73 : decode cX7_peakOf 73 = .ok (.ireturn, 1) := by decide +kernel
theorem dX7_peakOf_74 : decode cX7_peakOf 74 = .ok (.aload_n 0, 1) := by decide +kernel
theorem dX7_peakOf_75 : decode cX7_peakOf 75 = .ok (.getfield 26, 3) := by decide +kernel
theorem dX7_peakOf_78 : decode cX7_peakOf 78 = .ok (.iload_n 1, 1) := by decide +kernel
theorem dX7_peakOf_79 : decode cX7_peakOf 79 = .ok (.iaload, 1) := by decide +kernel
theorem dX7_peakOf_80 : decode cX7_peakOf 80 = .ok (.ireturn, 1) := by decide +kernel
theorem dX7_peakOf_81 : decode cX7_peakOf 81 = .ok (.aload_n 0, 1) := by decide +kernel
theorem dX7_peakOf_82 : decode cX7_peakOf 82 = .ok (.getfield 29, 3) := by decide +kernel
theorem dX7_peakOf_85 : decode cX7_peakOf 85 = .ok (.iload_n 1, 1) := by decide +kernel
theorem dX7_peakOf_86 : decode cX7_peakOf 86 = .ok (.iaload, 1) := by decide +kernel
theorem dX7_peakOf_87 : decode cX7_peakOf 87 = .ok (.ireturn, 1) := by decide +kernel
theorem dX7_peakOf_88 : decode cX7_peakOf 88 = .ok (.aload_n 0, 1) := by decide +kernel
theorem dX7_peakOf_89 : decode cX7_peakOf 89 = .ok (.getfield 32, 3) := by decide +kernel
theorem dX7_peakOf_92 : decode cX7_peakOf 92 = .ok (.iload_n 1, 1) := by decide +kernel
theorem dX7_peakOf_93 : decode cX7_peakOf 93 = .ok (.iaload, 1) := by decide +kernel
theorem dX7_peakOf_94 : decode cX7_peakOf 94 = .ok (.ireturn, 1) := by decide +kernel
theorem dX7_peakOf_95 : decode cX7_peakOf 95 = .ok (.aload_n 0, 1) := by decide +kernel
theorem dX7_peakOf_96 : decode cX7_peakOf 96 = .ok (.getfield 35, 3) := by decide +kernel
theorem dX7_peakOf_99 : decode cX7_peakOf 99 = .ok (.iload_n 1, 1) := by decide +kernel
theorem dX7_peakOf_100 : decode cX7_peakOf 100 = .ok (.iaload, 1) := by decide +kernel
theorem dX7_peakOf_101 : decode cX7_peakOf 101 = .ok (.ireturn, 1) := by decide +kernel
theorem dX7_peakOf_102 : decode cX7_peakOf 102 = .ok (.iconst 0, 1) := by decide +kernel
theorem dX7_peakOf_103 : decode cX7_peakOf 103 = .ok (.istore 4, 2) := by decide +kernel
theorem dX7_peakOf_105 : decode cX7_peakOf 105 = .ok (.iload 4, 2) := by decide +kernel
theorem dX7_peakOf_107 : decode cX7_peakOf 107 = .ok (.aload_n 0, 1) := by decide +kernel
theorem dX7_peakOf_108 : decode cX7_peakOf 108 = .ok (.getfield 94, 3) := by decide +kernel
theorem dX7_peakOf_111 : decode cX7_peakOf 111 = .ok (.if_icmp .ge 26, 3) := by decide +kernel
theorem dX7_peakOf_114 : decode cX7_peakOf 114 = .ok (.aload_n 0, 1) := by decide +kernel
theorem dX7_peakOf_115 : decode cX7_peakOf 115 = .ok (.iload_n 1, 1) := by decide +kernel
theorem dX7_peakOf_116 : decode cX7_peakOf 116 = .ok (.iload 4, 2) := by decide +kernel
theorem dX7_peakOf_118 : decode cX7_peakOf 118 = .ok (.invokevirtual 160, 3) := by decide +kernel
theorem dX7_peakOf_121 : decode cX7_peakOf 121 = .ok (.ifCond .eq 10, 3) := by decide +kernel
theorem dX7_peakOf_124 : decode cX7_peakOf 124 = .ok (.iload_n 3, 1) := by decide +kernel
theorem dX7_peakOf_125 : decode cX7_peakOf 125 = .ok (.iconst 1, 1) := by decide +kernel
theorem dX7_peakOf_126 : decode cX7_peakOf 126 = .ok (.iload 4, 2) := by decide +kernel
theorem dX7_peakOf_128 : decode cX7_peakOf 128 = .ok (.ishl, 1) := by decide +kernel
theorem dX7_peakOf_129 : decode cX7_peakOf 129 = .ok (.ior, 1) := by decide +kernel
theorem dX7_peakOf_130 : decode cX7_peakOf 130 = .ok (.istore_n 3, 1) := by decide +kernel
theorem dX7_peakOf_131 : decode cX7_peakOf 131 = .ok (.iinc 4 1, 3) := by decide +kernel
theorem dX7_peakOf_134 : decode cX7_peakOf 134 = .ok (.goto (-29), 3) := by decide +kernel
theorem dX7_peakOf_137 : decode cX7_peakOf 137 = .ok (.iload_n 3, 1) := by decide +kernel
theorem dX7_peakOf_138 : decode cX7_peakOf 138 = .ok (.ireturn, 1) := by decide +kernel
theorem dX7_peakOf_139 : decode cX7_peakOf 139 = .ok (.aload_n 0, 1) := by decide +kernel
theorem dX7_peakOf_140 : decode cX7_peakOf 140 = .ok (.bipush (-5), 2) := by decide +kernel
theorem dX7_peakOf_142 : decode cX7_peakOf 142 = .ok (.invokevirtual 90, 3) := by decide +kernel
theorem dX7_peakOf_145 : decode cX7_peakOf 145 = .ok (.ireturn, 1) := by decide +kernel
theorem dX7_valleyOf_0 : decode cX7_valleyOf 0 = .ok (.aload_n 0, 1) := by decide +kernel
theorem dX7_valleyOf_1 : decode cX7_valleyOf 1 = .ok (.iload_n 1, 1) := by decide +kernel
theorem dX7_valleyOf_2 : decode cX7_valleyOf 2 = .ok (.invokevirtual 157, 3) := by decide +kernel
theorem dX7_valleyOf_5 : decode cX7_valleyOf 5 = .ok (.ifCond .ne 10, 3) := by decide +kernel
theorem dX7_valleyOf_8 : decode cX7_valleyOf 8 = .ok (.aload_n 0, 1) := by decide +kernel
theorem dX7_valleyOf_9 : decode cX7_valleyOf 9 = .ok (.bipush (-5), 2) := by decide +kernel
theorem dX7_valleyOf_11 : decode cX7_valleyOf 11 = .ok (.invokevirtual 90, 3) := by decide +kernel
theorem dX7_valleyOf_14 : decode cX7_valleyOf 14 = .ok (.ireturn, 1) := by decide +kernel
theorem dX7_valleyOf_15 : decode cX7_valleyOf 15 = .ok (.iload_n 2, 1) := by decide +kernel
theorem dX7_valleyOf_16 : decode cX7_valleyOf 16 = .ok (.tableswitch 52 0 2 #[28, 35, 42], 28) := by decide +kernel
theorem dX7_valleyOf_44 : decode cX7_valleyOf 44 = .ok (.aload_n 0, 1) := by decide +kernel
theorem dX7_valleyOf_45 : decode cX7_valleyOf 45 = .ok (.getfield 47, 3) := by decide +kernel
theorem dX7_valleyOf_48 : decode cX7_valleyOf 48 = .ok (.iload_n 1, 1) := by decide +kernel
theorem dX7_valleyOf_49 : decode cX7_valleyOf 49 = .ok (.iaload, 1) := by decide +kernel
theorem dX7_valleyOf_50 : decode cX7_valleyOf 50 = .ok (.ireturn, 1) := by decide +kernel
theorem dX7_valleyOf_51 : decode cX7_valleyOf 51 = .ok (.aload_n 0, 1) := by decide +kernel
theorem dX7_valleyOf_52 : decode cX7_valleyOf 52 = .ok (.getfield 50, 3) := by decide +kernel
theorem dX7_valleyOf_55 : decode cX7_valleyOf 55 = .ok (.iload_n 1, 1) := by decide +kernel
theorem dX7_valleyOf_56 : decode cX7_valleyOf 56 = .ok (.iaload, 1) := by decide +kernel
theorem dX7_valleyOf_57 : decode cX7_valleyOf 57 = .ok (.ireturn, 1) := by decide +kernel
theorem dX7_valleyOf_58 : decode cX7_valleyOf 58 = .ok (.aload_n 0, 1) := by decide +kernel
theorem dX7_valleyOf_59 : decode cX7_valleyOf 59 = .ok (.iload_n 1, 1) := by decide +kernel
theorem dX7_valleyOf_60 : decode cX7_valleyOf 60 = .ok (.aload_n 0, 1) := by decide +kernel
theorem dX7_valleyOf_61 : decode cX7_valleyOf 61 = .ok (.invokevirtual 121, 3) := by decide +kernel
theorem dX7_valleyOf_64 : decode cX7_valleyOf 64 = .ok (.invokevirtual 163, 3) := by decide +kernel
theorem dX7_valleyOf_67 : decode cX7_valleyOf 67 = .ok (.ireturn, 1) := by decide +kernel
theorem dX7_valleyOf_68 : decode cX7_valleyOf 68 = .ok (.aload_n 0, 1) := by decide +kernel
theorem dX7_valleyOf_69 : decode cX7_valleyOf 69 = .ok (.bipush (-5), 2) := by decide +kernel
theorem dX7_valleyOf_71 : decode cX7_valleyOf 71 = .ok (.invokevirtual 90, 3) := by decide +kernel
theorem dX7_valleyOf_74 : decode cX7_valleyOf 74 = .ok (.ireturn, 1) := by decide +kernel
theorem dX7_sign_0 : decode cX7_sign 0 = .ok (.aload_n 0, 1) := by decide +kernel
theorem dX7_sign_1 : decode cX7_sign 1 = .ok (.getfield 166, 3) := by decide +kernel
theorem dX7_sign_4 : decode cX7_sign 4 = .ok (.aload_n 0, 1) := by decide +kernel
theorem dX7_sign_5 : decode cX7_sign 5 = .ok (.getfield 13, 3) := by decide +kernel
theorem dX7_sign_8 : decode cX7_sign 8 = .ok (.aload_n 0, 1) := by decide +kernel
theorem dX7_sign_9 : decode cX7_sign 9 = .ok (.getfield 169, 3) := by decide +kernel
theorem dX7_sign_12 : decode cX7_sign 12 = .ok (.iaload, 1) := by decide +kernel
theorem dX7_sign_13 : decode cX7_sign 13 = .ok (.if_icmp .ge 25, 3) := by decide +kernel
theorem dX7_sign_16 : decode cX7_sign 16 = .ok (.aload_n 0, 1) := by decide +kernel
theorem dX7_sign_17 : decode cX7_sign 17 = .ok (.getfield 16, 3) := by decide +kernel
theorem dX7_sign_20 : decode cX7_sign 20 = .ok (.sipush 160, 3) := by decide +kernel
theorem dX7_sign_23 : decode cX7_sign 23 = .ok (.aload_n 0, 1) := by decide +kernel
theorem dX7_sign_24 : decode cX7_sign 24 = .ok (.getfield 169, 3) := by decide +kernel
theorem dX7_sign_27 : decode cX7_sign 27 = .ok (.imul, 1) := by decide +kernel
theorem dX7_sign_28 : decode cX7_sign 28 = .ok (.aload_n 0, 1) := by decide +kernel
theorem dX7_sign_29 : decode cX7_sign 29 = .ok (.getfield 166, 3) := by decide +kernel
theorem dX7_sign_32 : decode cX7_sign 32 = .ok (.iadd, 1) := by decide +kernel
theorem dX7_sign_33 : decode cX7_sign 33 = .ok (.laload, 1) := by decide +kernel
theorem dX7_sign_34 : decode cX7_sign 34 = .ok (.l2i, 1) := by decide +kernel
theorem dX7_sign_35 : decode cX7_sign 35 = .ok (.goto 4, 3) := by decide +kernel
theorem dX7_sign_38 : decode cX7_sign 38 = .ok (.iconst (-1), 1) := by decide +kernel
theorem dX7_sign_39 : decode cX7_sign 39 = .ok (.ireturn, 1) := by decide +kernel
theorem dX7_is_0 : decode cX7_is 0 = .ok (.aload_n 0, 1) := by decide +kernel
theorem dX7_is_1 : decode cX7_is 1 = .ok (.invokevirtual 172, 3) := by decide +kernel
theorem dX7_is_4 : decode cX7_is 4 = .ok (.iload_n 1, 1) := by decide +kernel
theorem dX7_is_5 : decode cX7_is 5 = .ok (.if_icmp .eq 5, 3) := by decide +kernel
theorem dX7_is_8 : decode cX7_is 8 = .ok (.iconst 0, 1) := by decide +kernel
theorem dX7_is_9 : decode cX7_is 9 = .ok (.ireturn, 1) := by decide +kernel
theorem dX7_is_10 : decode cX7_is 10 = .ok (.aload_n 0, 1) := by decide +kernel
theorem dX7_is_11 : decode cX7_is 11 = .ok (.dup, 1) := by decide +kernel
theorem dX7_is_12 : decode cX7_is 12 = .ok (.getfield 166, 3) := by decide +kernel
theorem dX7_is_15 : decode cX7_is 15 = .ok (.iconst 1, 1) := by decide +kernel
theorem dX7_is_16 : decode cX7_is 16 = .ok (.iadd, 1) := by decide +kernel
theorem dX7_is_17 : decode cX7_is 17 = .ok (.putfield 166, 3) := by decide +kernel
theorem dX7_is_20 : decode cX7_is 20 = .ok (.iconst 1, 1) := by decide +kernel
theorem dX7_is_21 : decode cX7_is 21 = .ok (.ireturn, 1) := by decide +kernel
theorem dX7_word_0 : decode cX7_word 0 = .ok (.iconst 0, 1) := by decide +kernel
theorem dX7_word_1 : decode cX7_word 1 = .ok (.istore_n 2, 1) := by decide +kernel
theorem dX7_word_2 : decode cX7_word 2 = .ok (.iload_n 2, 1) := by decide +kernel
theorem dX7_word_3 : decode cX7_word 3 = .ok (.aload_n 1, 1) := by decide +kernel
theorem dX7_word_4 : decode cX7_word 4 = .ok (.invokevirtual 175, 3) := by decide +kernel
theorem dX7_word_7 : decode cX7_word 7 = .ok (.if_icmp .ge 23, 3) := by decide +kernel
theorem dX7_word_10 : decode cX7_word 10 = .ok (.aload_n 0, 1) := by decide +kernel
theorem dX7_word_11 : decode cX7_word 11 = .ok (.aload_n 1, 1) := by decide +kernel
theorem dX7_word_12 : decode cX7_word 12 = .ok (.iload_n 2, 1) := by decide +kernel
theorem dX7_word_13 : decode cX7_word 13 = .ok (.invokevirtual 180, 3) := by decide +kernel
theorem dX7_word_16 : decode cX7_word 16 = .ok (.invokevirtual 184, 3) := by decide +kernel
theorem dX7_word_19 : decode cX7_word 19 = .ok (.ifCond .ne 5, 3) := by decide +kernel
theorem dX7_word_22 : decode cX7_word 22 = .ok (.iconst 0, 1) := by decide +kernel
theorem dX7_word_23 : decode cX7_word 23 = .ok (.ireturn, 1) := by decide +kernel
theorem dX7_word_24 : decode cX7_word 24 = .ok (.iinc 2 1, 3) := by decide +kernel
theorem dX7_word_27 : decode cX7_word 27 = .ok (.goto (-25), 3) := by decide +kernel
theorem dX7_word_30 : decode cX7_word 30 = .ok (.iconst 1, 1) := by decide +kernel
theorem dX7_word_31 : decode cX7_word 31 = .ok (.ireturn, 1) := by decide +kernel
theorem dX7_word__0 : decode cX7_word_ 0 = .ok (.aload_n 0, 1) := by decide +kernel
theorem dX7_word__1 : decode cX7_word_ 1 = .ok (.getfield 166, 3) := by decide +kernel
theorem dX7_word__4 : decode cX7_word_ 4 = .ok (.istore_n 3, 1) := by decide +kernel
theorem dX7_word__5 : decode cX7_word_ 5 = .ok (.aload_n 0, 1) := by decide +kernel
theorem dX7_word__6 : decode cX7_word_ 6 = .ok (.aload_n 1, 1) := by decide +kernel
theorem dX7_word__7 : decode cX7_word_ 7 = .ok (.invokevirtual 188, 3) := by decide +kernel
theorem dX7_word__10 : decode cX7_word_ 10 = .ok (.istore 4, 2) := by decide +kernel
theorem dX7_word__12 : decode cX7_word_ 12 = .ok (.iload 4, 2) := by decide +kernel
theorem dX7_word__14 : decode cX7_word_ 14 = .ok (.ifCond .eq 12, 3) := by decide +kernel
theorem dX7_word__17 : decode cX7_word_ 17 = .ok (.iload_n 2, 1) := by decide +kernel
theorem dX7_word__18 : decode cX7_word_ 18 = .ok (.ifCond .ne 8, 3) := by decide +kernel
theorem dX7_word__21 : decode cX7_word_ 21 = .ok (.aload_n 0, 1) := by decide +kernel
theorem dX7_word__22 : decode cX7_word_ 22 = .ok (.iload_n 3, 1) := by decide +kernel
theorem dX7_word__23 : decode cX7_word_ 23 = .ok (.putfield 166, 3) := by decide +kernel
theorem dX7_word__26 : decode cX7_word_ 26 = .ok (.iload 4, 2) := by decide +kernel
theorem dX7_word__28 : decode cX7_word_ 28 = .ok (.ifCond .eq 11, 3) := by decide +kernel
theorem dX7_word__31 : decode cX7_word_ 31 = .ok (.iload_n 2, 1) := by decide +kernel
theorem dX7_word__32 : decode cX7_word_ 32 = .ok (.ifCond .eq 7, 3) := by decide +kernel
theorem dX7_word__35 : decode cX7_word_ 35 = .ok (.iconst 1, 1) := by decide +kernel
theorem dX7_word__36 : decode cX7_word_ 36 = .ok (.goto 4, 3) := by decide +kernel
theorem dX7_word__39 : decode cX7_word_ 39 = .ok (.iconst 0, 1) := by decide +kernel
theorem dX7_word__40 : decode cX7_word_ 40 = .ok (.ireturn, 1) := by decide +kernel
theorem dX7_number_0 : decode cX7_number 0 = .ok (.aload_n 0, 1) := by decide +kernel
theorem dX7_number_1 : decode cX7_number 1 = .ok (.bipush 32, 2) := by decide +kernel
theorem dX7_number_3 : decode cX7_number 3 = .ok (.invokevirtual 184, 3) := by decide +kernel
theorem dX7_number_6 : decode cX7_number 6 = .ok (.ifCond .ne 5, 3) := by decide +kernel
theorem dX7_number_9 : decode cX7_number 9 = .ok (.iconst 0, 1) := by decide +kernel
theorem dX7_number_10 : decode cX7_number 10 = .ok (.ireturn, 1) := by decide +kernel
theorem dX7_number_11 : decode cX7_number 11 = .ok (.aload_n 0, 1) := by decide +kernel
theorem dX7_number_12 : decode cX7_number 12 = .ok (.getfield 166, 3) := by decide +kernel
theorem dX7_number_15 : decode cX7_number 15 = .ok (.istore 4, 2) := by decide +kernel
theorem dX7_number_17 : decode cX7_number 17 = .ok (.iconst 0, 1) := by decide +kernel
theorem dX7_number_18 : decode cX7_number 18 = .ok (.istore 5, 2) := by decide +kernel
theorem dX7_number_20 : decode cX7_number 20 = .ok (.aload_n 0, 1) := by decide +kernel
theorem dX7_number_21 : decode cX7_number 21 = .ok (.getfield 166, 3) := by decide +kernel
theorem dX7_number_24 : decode cX7_number 24 = .ok (.iload 4, 2) := by decide +kernel
theorem dX7_number_26 : decode cX7_number 26 = .ok (.isub, 1) := by decide +kernel
theorem dX7_number_27 : decode cX7_number 27 = .ok (.iconst 3, 1) := by decide +kernel
theorem dX7_number_28 : decode cX7_number 28 = .ok (.if_icmp .ge 49, 3) := by decide +kernel
theorem dX7_number_31 : decode cX7_number 31 = .ok (.aload_n 0, 1) := by decide +kernel
theorem dX7_number_32 : decode cX7_number 32 = .ok (.invokevirtual 172, 3) := by decide +kernel
theorem dX7_number_35 : decode cX7_number 35 = .ok (.bipush 48, 2) := by decide +kernel
theorem dX7_number_37 : decode cX7_number 37 = .ok (.if_icmp .lt 40, 3) := by decide +kernel
theorem dX7_number_40 : decode cX7_number 40 = .ok (.aload_n 0, 1) := by decide +kernel
theorem dX7_number_41 : decode cX7_number 41 = .ok (.invokevirtual 172, 3) := by decide +kernel
theorem dX7_number_44 : decode cX7_number 44 = .ok (.bipush 57, 2) := by decide +kernel
theorem dX7_number_46 : decode cX7_number 46 = .ok (.if_icmp .gt 31, 3) := by decide +kernel
theorem dX7_number_49 : decode cX7_number 49 = .ok (.bipush 10, 2) := by decide +kernel
theorem dX7_number_51 : decode cX7_number 51 = .ok (.iload 5, 2) := by decide +kernel
theorem dX7_number_53 : decode cX7_number 53 = .ok (.imul, 1) := by decide +kernel
theorem dX7_number_54 : decode cX7_number 54 = .ok (.aload_n 0, 1) := by decide +kernel
theorem dX7_number_55 : decode cX7_number 55 = .ok (.invokevirtual 172, 3) := by decide +kernel
theorem dX7_number_58 : decode cX7_number 58 = .ok (.iadd, 1) := by decide +kernel
theorem dX7_number_59 : decode cX7_number 59 = .ok (.bipush 48, 2) := by decide +kernel
theorem dX7_number_61 : decode cX7_number 61 = .ok (.isub, 1) := by decide +kernel
theorem dX7_number_62 : decode cX7_number 62 = .ok (.istore 5, 2) := by decide +kernel
theorem dX7_number_64 : decode cX7_number 64 = .ok (.aload_n 0, 1) := by decide +kernel
theorem dX7_number_65 : decode cX7_number 65 = .ok (.dup, 1) := by decide +kernel
theorem dX7_number_66 : decode cX7_number 66 = .ok (.getfield 166, 3) := by decide +kernel
theorem dX7_number_69 : decode cX7_number 69 = .ok (.iconst 1, 1) := by decide +kernel
theorem dX7_number_70 : decode cX7_number 70 = .ok (.iadd, 1) := by decide +kernel
theorem dX7_number_71 : decode cX7_number 71 = .ok (.putfield 166, 3) := by decide +kernel
theorem dX7_number_74 : decode cX7_number 74 = .ok (.goto (-54), 3) := by decide +kernel
theorem dX7_number_77 : decode cX7_number 77 = .ok (.aload_n 0, 1) := by decide +kernel
theorem dX7_number_78 : decode cX7_number 78 = .ok (.getfield 166, 3) := by decide +kernel
theorem dX7_number_81 : decode cX7_number 81 = .ok (.iload 4, 2) := by decide +kernel
theorem dX7_number_83 : decode cX7_number 83 = .ok (.if_icmp .ne 5, 3) := by decide +kernel
theorem dX7_number_86 : decode cX7_number 86 = .ok (.iconst 0, 1) := by decide +kernel
theorem dX7_number_87 : decode cX7_number 87 = .ok (.ireturn, 1) := by decide +kernel
theorem dX7_number_88 : decode cX7_number 88 = .ok (.aload_n 0, 1) := by decide +kernel
theorem dX7_number_89 : decode cX7_number 89 = .ok (.getfield 80, 3) := by decide +kernel
theorem dX7_number_92 : decode cX7_number 92 = .ok (.iload_n 1, 1) := by decide +kernel
theorem dX7_number_93 : decode cX7_number 93 = .ok (.iload 5, 2) := by decide +kernel
theorem dX7_number_95 : decode cX7_number 95 = .ok (.iastore, 1) := by decide +kernel
theorem dX7_number_96 : decode cX7_number 96 = .ok (.iload 5, 2) := by decide +kernel
theorem dX7_number_98 : decode cX7_number 98 = .ok (.iload_n 2, 1) := by decide +kernel
theorem dX7_number_99 : decode cX7_number 99 = .ok (.iload_n 3, 1) := by decide +kernel
theorem dX7_number_100 : decode cX7_number 100 = .ok (.invokestatic 97, 3) := by decide +kernel
theorem dX7_number_103 : decode cX7_number 103 = .ok (.istore 6, 2) := by decide +kernel
theorem dX7_number_105 : decode cX7_number 105 = .ok (.iload 6, 2) := by decide +kernel
theorem dX7_number_107 : decode cX7_number 107 = .ok (.ifCond .ne 9, 3) := by decide +kernel
theorem dX7_number_110 : decode cX7_number 110 = .ok (.aload_n 0, 1) := by decide +kernel
theorem dX7_number_111 : decode cX7_number 111 = .ok (.iload 4, 2) := by decide +kernel
theorem dX7_number_113 : decode cX7_number 113 = .ok (.putfield 166, 3) := by decide +kernel
theorem dX7_number_116 : decode cX7_number 116 = .ok (.iload 6, 2) := by decide +kernel
theorem dX7_number_118 : decode cX7_number 118 = .ok (.ireturn, 1) := by decide +kernel
theorem dX7_stands_0 : decode cX7_stands 0 = .ok (.iload_n 2, 1) := by decide +kernel
theorem dX7_stands_1 : decode cX7_stands 1 = .ok (.ifCond .ne 8, 3) := by decide +kernel
theorem dX7_stands_4 : decode cX7_stands 4 = .ok (.aload_n 0, 1) := by decide +kernel
theorem dX7_stands_5 : decode cX7_stands 5 = .ok (.iload_n 1, 1) := by decide +kernel
theorem dX7_stands_6 : decode cX7_stands 6 = .ok (.putfield 166, 3) := by decide +kernel
theorem dX7_stands_9 : decode cX7_stands 9 = .ok (.iload_n 2, 1) := by decide +kernel
theorem dX7_stands_10 : decode cX7_stands 10 = .ok (.ireturn, 1) := by decide +kernel
theorem dX7_item_0 : decode cX7_item 0 = .ok (.aload_n 0, 1) := by decide +kernel
theorem dX7_item_1 : decode cX7_item 1 = .ok (.invokevirtual 172, 3) := by decide +kernel
theorem dX7_item_4 : decode cX7_item 4 = .ok (.tableswitch 480 112 121 #[56, 480, 480, 192, 414, 309, 259, 480, 480, 374], 56) := by decide +kernel
theorem dX7_item_60 : decode cX7_item 60 = .ok (.aload_n 0, 1) := by decide +kernel
theorem dX7_item_61 : decode cX7_item 61 = .ok (.ldc 192, 2) := by decide +kernel
theorem dX7_item_63 : decode cX7_item 63 = .ok (.aload_n 0, 1) := by decide +kernel
theorem dX7_item_64 : decode cX7_item 64 = .ok (.getfield 94, 3) := by decide +kernel
theorem dX7_item_67 : decode cX7_item 67 = .ok (.bipush 10, 2) := by decide +kernel
theorem dX7_item_69 : decode cX7_item 69 = .ok (.if_icmp .ge 7, 3) := by decide +kernel
theorem dX7_item_72 : decode cX7_item 72 = .ok (.iconst 1, 1) := by decide +kernel
theorem dX7_item_73 : decode cX7_item 73 = .ok (.goto 4, 3) := by decide +kernel
theorem dX7_item_76 : decode cX7_item 76 = .ok (.iconst 0, 1) := by decide +kernel
theorem dX7_item_77 : decode cX7_item 77 = .ok (.invokevirtual 194, 3) := by decide +kernel
theorem dX7_item_80 : decode cX7_item 80 = .ok (.ifCond .eq 25, 3) := by decide +kernel
theorem dX7_item_83 : decode cX7_item 83 = .ok (.aload_n 0, 1) := by decide +kernel
theorem dX7_item_84 : decode cX7_item 84 = .ok (.iconst 0, 1) := by decide +kernel
theorem dX7_item_85 : decode cX7_item 85 = .ok (.iconst 0, 1) := by decide +kernel
theorem dX7_item_86 : decode cX7_item 86 = .ok (.bipush 6, 2) := by decide +kernel
theorem dX7_item_88 : decode cX7_item 88 = .ok (.invokevirtual 197, 3) := by decide +kernel
theorem dX7_item_91 : decode cX7_item 91 = .ok (.ifCond .eq 14, 3) := by decide +kernel
theorem dX7_item_94 : decode cX7_item 94 = .ok (.aload_n 0, 1) := by decide +kernel
theorem dX7_item_95 : decode cX7_item 95 = .ok (.iconst 1, 1) := by decide +kernel
theorem dX7_item_96 : decode cX7_item 96 = .ok (.iconst 0, 1) := by decide +kernel
theorem dX7_item_97 : decode cX7_item 97 = .ok (.bipush 9, 2) := by decide +kernel
theorem dX7_item_99 : decode cX7_item 99 = .ok (.invokevirtual 197, 3) := by decide +kernel
theorem dX7_item_102 : decode cX7_item 102 = .ok (.ifCond .ne 5, 3) := by decide +kernel
theorem dX7_item_105 : decode cX7_item 105 = .ok (.iconst 0, 1) := by decide +kernel
theorem dX7_item_106 : decode cX7_item 106 = .ok (.ireturn, 1) := by decide +kernel
theorem dX7_item_107 : decode cX7_item 107 = .ok (.aload_n 0, 1) := by decide +kernel
theorem dX7_item_108 : decode cX7_item 108 = .ok (.getfield 166, 3) := by decide +kernel
theorem dX7_item_111 : decode cX7_item 111 = .ok (.iconst 1, 1) := by decide +kernel
theorem dX7_item_112 : decode cX7_item 112 = .ok (.iadd, 1) := by decide +kernel
theorem dX7_item_113 : decode cX7_item 113 = .ok (.istore_n 1, 1) := by decide +kernel
theorem dX7_item_114 : decode cX7_item 114 = .ok (.aload_n 0, 1) := by decide +kernel
theorem dX7_item_115 : decode cX7_item 115 = .ok (.iconst 2, 1) := by decide +kernel
theorem dX7_item_116 : decode cX7_item 116 = .ok (.iconst 0, 1) := by decide +kernel
theorem dX7_item_117 : decode cX7_item 117 = .ok (.bipush 99, 2) := by decide +kernel
theorem dX7_item_119 : decode cX7_item 119 = .ok (.invokevirtual 197, 3) := by decide +kernel
theorem dX7_item_122 : decode cX7_item 122 = .ok (.ifCond .eq 41, 3) := by decide +kernel
theorem dX7_item_125 : decode cX7_item 125 = .ok (.aload_n 0, 1) := by decide +kernel
theorem dX7_item_126 : decode cX7_item 126 = .ok (.iload_n 1, 1) := by decide +kernel
theorem dX7_item_127 : decode cX7_item 127 = .ok (.aload_n 0, 1) := by decide +kernel
theorem dX7_item_128 : decode cX7_item 128 = .ok (.aload_n 0, 1) := by decide +kernel
theorem dX7_item_129 : decode cX7_item 129 = .ok (.getfield 80, 3) := by decide +kernel
theorem dX7_item_132 : decode cX7_item 132 = .ok (.iconst 2, 1) := by decide +kernel
theorem dX7_item_133 : decode cX7_item 133 = .ok (.iaload, 1) := by decide +kernel
theorem dX7_item_134 : decode cX7_item 134 = .ok (.invokevirtual 141, 3) := by decide +kernel
theorem dX7_item_137 : decode cX7_item 137 = .ok (.ifCond .ne 7, 3) := by decide +kernel
theorem dX7_item_140 : decode cX7_item 140 = .ok (.iconst 1, 1) := by decide +kernel
theorem dX7_item_141 : decode cX7_item 141 = .ok (.goto 4, 3) := by decide +kernel
theorem dX7_item_144 : decode cX7_item 144 = .ok (.iconst 0, 1) := by decide +kernel
theorem dX7_item_145 : decode cX7_item 145 = .ok (.invokevirtual 200, 3) := by decide +kernel
theorem dX7_item_148 : decode cX7_item 148 = .ok (.ifCond .eq 15, 3) := by decide +kernel
theorem dX7_item_151 : decode cX7_item 151 = .ok (.aload_n 0, 1) := by decide +kernel
theorem dX7_item_152 : decode cX7_item 152 = .ok (.iconst 3, 1) := by decide +kernel
theorem dX7_item_153 : decode cX7_item 153 = .ok (.iconst 1, 1) := by decide +kernel
theorem dX7_item_154 : decode cX7_item 154 = .ok (.sipush 999, 3) := by decide +kernel
theorem dX7_item_157 : decode cX7_item 157 = .ok (.invokevirtual 197, 3) := by decide +kernel
theorem dX7_item_160 : decode cX7_item 160 = .ok (.ifCond .ne 5, 3) := by decide +kernel
theorem dX7_item_163 : decode cX7_item 163 = .ok (.iconst 0, 1) := by decide +kernel
theorem dX7_item_164 : decode cX7_item 164 = .ok (.ireturn, 1) := by decide +kernel
theorem dX7_item_165 : decode cX7_item 165 = .ok (.aload_n 0, 1) := by decide +kernel
theorem dX7_item_166 : decode cX7_item 166 = .ok (.aload_n 0, 1) := by decide +kernel
theorem dX7_item_167 : decode cX7_item 167 = .ok (.getfield 80, 3) := by decide +kernel
theorem dX7_item_170 : decode cX7_item 170 = .ok (.iconst 0, 1) := by decide +kernel
theorem dX7_item_171 : decode cX7_item 171 = .ok (.iaload, 1) := by decide +kernel
theorem dX7_item_172 : decode cX7_item 172 = .ok (.aload_n 0, 1) := by decide +kernel
theorem dX7_item_173 : decode cX7_item 173 = .ok (.getfield 80, 3) := by decide +kernel
theorem dX7_item_176 : decode cX7_item 176 = .ok (.iconst 1, 1) := by decide +kernel
theorem dX7_item_177 : decode cX7_item 177 = .ok (.iaload, 1) := by decide +kernel
theorem dX7_item_178 : decode cX7_item 178 = .ok (.aload_n 0, 1) := by decide +kernel
theorem dX7_item_179 : decode cX7_item 179 = .ok (.getfield 80, 3) := by decide +kernel
theorem dX7_item_182 : decode cX7_item 182 = .ok (.iconst 2, 1) := by decide +kernel
theorem dX7_item_183 : decode cX7_item 183 = .ok (.iaload, 1) := by decide +kernel
theorem dX7_item_184 : decode cX7_item 184 = .ok (.aload_n 0, 1) := by decide +kernel
theorem dX7_item_185 : decode cX7_item 185 = .ok (.getfield 80, 3) := by decide +kernel
theorem dX7_item_188 : decode cX7_item 188 = .ok (.iconst 3, 1) := by decide +kernel
theorem dX7_item_189 : decode cX7_item 189 = .ok (.iaload, 1) := by decide +kernel
theorem dX7_item_190 : decode cX7_item 190 = .ok (.invokevirtual 144, 3) := by decide +kernel
theorem dX7_item_193 : decode cX7_item 193 = .ok (.pop, 1) := by decide +kernel
theorem dX7_item_194 : decode cX7_item 194 = .ok (.iconst 1, 1) := by decide +kernel
theorem dX7_item_195 : decode cX7_item 195 = .ok (.ireturn, 1) := by decide +kernel
theorem dX7_item_196 : decode cX7_item 196 = .ok (.aload_n 0, 1) := by decide +kernel
theorem dX7_item_197 : decode cX7_item 197 = .ok (.ldc 203, 2) := by decide +kernel
theorem dX7_item_199 : decode cX7_item 199 = .ok (.aload_n 0, 1) := by decide +kernel
theorem dX7_item_200 : decode cX7_item 200 = .ok (.getfield 148, 3) := by decide +kernel
theorem dX7_item_203 : decode cX7_item 203 = .ok (.bipush 6, 2) := by decide +kernel
theorem dX7_item_205 : decode cX7_item 205 = .ok (.if_icmp .ge 7, 3) := by decide +kernel
theorem dX7_item_208 : decode cX7_item 208 = .ok (.iconst 1, 1) := by decide +kernel
theorem dX7_item_209 : decode cX7_item 209 = .ok (.goto 4, 3) := by decide +kernel
theorem dX7_item_212 : decode cX7_item 212 = .ok (.iconst 0, 1) := by decide +kernel
theorem dX7_item_213 : decode cX7_item 213 = .ok (.invokevirtual 194, 3) := by decide +kernel
theorem dX7_item_216 : decode cX7_item 216 = .ok (.ifCond .eq 26, 3) := by decide +kernel
theorem dX7_item_219 : decode cX7_item 219 = .ok (.aload_n 0, 1) := by decide +kernel
theorem dX7_item_220 : decode cX7_item 220 = .ok (.iconst 0, 1) := by decide +kernel
theorem dX7_item_221 : decode cX7_item 221 = .ok (.iconst 0, 1) := by decide +kernel
theorem dX7_item_222 : decode cX7_item 222 = .ok (.bipush 99, 2) := by decide +kernel
theorem dX7_item_224 : decode cX7_item 224 = .ok (.invokevirtual 197, 3) := by decide +kernel
theorem dX7_item_227 : decode cX7_item 227 = .ok (.ifCond .eq 15, 3) := by decide +kernel
theorem dX7_item_230 : decode cX7_item 230 = .ok (.aload_n 0, 1) := by decide +kernel
theorem dX7_item_231 : decode cX7_item 231 = .ok (.iconst 1, 1) := by decide +kernel
theorem dX7_item_232 : decode cX7_item 232 = .ok (.iconst 1, 1) := by decide +kernel
theorem dX7_item_233 : decode cX7_item 233 = .ok (.sipush 999, 3) := by decide +kernel
theorem dX7_item_236 : decode cX7_item 236 = .ok (.invokevirtual 197, 3) := by decide +kernel
theorem dX7_item_239 : decode cX7_item 239 = .ok (.ifCond .ne 5, 3) := by decide +kernel
theorem dX7_item_242 : decode cX7_item 242 = .ok (.iconst 0, 1) := by decide +kernel
theorem dX7_item_243 : decode cX7_item 243 = .ok (.ireturn, 1) := by decide +kernel
theorem dX7_item_244 : decode cX7_item 244 = .ok (.aload_n 0, 1) := by decide +kernel
theorem dX7_item_245 : decode cX7_item 245 = .ok (.aload_n 0, 1) := by decide +kernel
theorem dX7_item_246 : decode cX7_item 246 = .ok (.getfield 80, 3) := by decide +kernel
theorem dX7_item_249 : decode cX7_item 249 = .ok (.iconst 0, 1) := by decide +kernel
theorem dX7_item_250 : decode cX7_item 250 = .ok (.iaload, 1) := by decide +kernel
theorem dX7_item_251 : decode cX7_item 251 = .ok (.aload_n 0, 1) := by decide +kernel
theorem dX7_item_252 : decode cX7_item 252 = .ok (.getfield 80, 3) := by decide +kernel
theorem dX7_item_255 : decode cX7_item 255 = .ok (.iconst 1, 1) := by decide +kernel
theorem dX7_item_256 : decode cX7_item 256 = .ok (.iaload, 1) := by decide +kernel
theorem dX7_item_257 : decode cX7_item 257 = .ok (.invokevirtual 151, 3) := by decide +kernel
theorem dX7_item_260 : decode cX7_item 260 = .ok (.pop, 1) := by decide +kernel
theorem dX7_item_261 : decode cX7_item 261 = .ok (.iconst 1, 1) := by decide +kernel
theorem dX7_item_262 : decode cX7_item 262 = .ok (.ireturn, 1) := by decide +kernel
theorem dX7_item_263 : decode cX7_item 263 = .ok (.aload_n 0, 1) := by decide +kernel
theorem dX7_item_264 : decode cX7_item 264 = .ok (.ldc 205, 2) := by decide +kernel
theorem dX7_item_266 : decode cX7_item 266 = .ok (.aload_n 0, 1) := by decide +kernel
theorem dX7_item_267 : decode cX7_item 267 = .ok (.getfield 105, 3) := by decide +kernel
theorem dX7_item_270 : decode cX7_item 270 = .ok (.bipush 8, 2) := by decide +kernel
theorem dX7_item_272 : decode cX7_item 272 = .ok (.if_icmp .ge 7, 3) := by decide +kernel
theorem dX7_item_275 : decode cX7_item 275 = .ok (.iconst 1, 1) := by decide +kernel
theorem dX7_item_276 : decode cX7_item 276 = .ok (.goto 4, 3) := by decide +kernel
theorem dX7_item_279 : decode cX7_item 279 = .ok (.iconst 0, 1) := by decide +kernel
theorem dX7_item_280 : decode cX7_item 280 = .ok (.invokevirtual 194, 3) := by decide +kernel
theorem dX7_item_283 : decode cX7_item 283 = .ok (.ifCond .eq 15, 3) := by decide +kernel
theorem dX7_item_286 : decode cX7_item 286 = .ok (.aload_n 0, 1) := by decide +kernel
theorem dX7_item_287 : decode cX7_item 287 = .ok (.iconst 0, 1) := by decide +kernel
theorem dX7_item_288 : decode cX7_item 288 = .ok (.iconst 0, 1) := by decide +kernel
theorem dX7_item_289 : decode cX7_item 289 = .ok (.sipush 999, 3) := by decide +kernel
theorem dX7_item_292 : decode cX7_item 292 = .ok (.invokevirtual 197, 3) := by decide +kernel
theorem dX7_item_295 : decode cX7_item 295 = .ok (.ifCond .ne 5, 3) := by decide +kernel
theorem dX7_item_298 : decode cX7_item 298 = .ok (.iconst 0, 1) := by decide +kernel
theorem dX7_item_299 : decode cX7_item 299 = .ok (.ireturn, 1) := by decide +kernel
theorem dX7_item_300 : decode cX7_item 300 = .ok (.aload_n 0, 1) := by decide +kernel
theorem dX7_item_301 : decode cX7_item 301 = .ok (.aload_n 0, 1) := by decide +kernel
theorem dX7_item_302 : decode cX7_item 302 = .ok (.getfield 80, 3) := by decide +kernel
theorem dX7_item_305 : decode cX7_item 305 = .ok (.iconst 0, 1) := by decide +kernel
theorem dX7_item_306 : decode cX7_item 306 = .ok (.iaload, 1) := by decide +kernel
theorem dX7_item_307 : decode cX7_item 307 = .ok (.invokevirtual 154, 3) := by decide +kernel
theorem dX7_item_310 : decode cX7_item 310 = .ok (.pop, 1) := by decide +kernel
theorem dX7_item_311 : decode cX7_item 311 = .ok (.iconst 1, 1) := by decide +kernel
theorem dX7_item_312 : decode cX7_item 312 = .ok (.ireturn, 1) := by decide +kernel
theorem dX7_item_313 : decode cX7_item 313 = .ok (.aload_n 0, 1) := by decide +kernel
theorem dX7_item_314 : decode cX7_item 314 = .ok (.ldc 207, 2) := by decide +kernel
theorem dX7_item_316 : decode cX7_item 316 = .ok (.invokevirtual 188, 3) := by decide +kernel
theorem dX7_item_319 : decode cX7_item 319 = .ok (.ifCond .eq 33, 3) := by decide +kernel
theorem dX7_item_322 : decode cX7_item 322 = .ok (.aload_n 0, 1) := by decide +kernel
theorem dX7_item_323 : decode cX7_item 323 = .ok (.iconst 0, 1) := by decide +kernel
theorem dX7_item_324 : decode cX7_item 324 = .ok (.iconst 0, 1) := by decide +kernel
theorem dX7_item_325 : decode cX7_item 325 = .ok (.aload_n 0, 1) := by decide +kernel
theorem dX7_item_326 : decode cX7_item 326 = .ok (.getfield 105, 3) := by decide +kernel
theorem dX7_item_329 : decode cX7_item 329 = .ok (.iconst 1, 1) := by decide +kernel
theorem dX7_item_330 : decode cX7_item 330 = .ok (.isub, 1) := by decide +kernel
theorem dX7_item_331 : decode cX7_item 331 = .ok (.invokevirtual 197, 3) := by decide +kernel
theorem dX7_item_334 : decode cX7_item 334 = .ok (.ifCond .eq 18, 3) := by decide +kernel
theorem dX7_item_337 : decode cX7_item 337 = .ok (.aload_n 0, 1) := by decide +kernel
theorem dX7_item_338 : decode cX7_item 338 = .ok (.iconst 1, 1) := by decide +kernel
theorem dX7_item_339 : decode cX7_item 339 = .ok (.iconst 0, 1) := by decide +kernel
theorem dX7_item_340 : decode cX7_item 340 = .ok (.aload_n 0, 1) := by decide +kernel
theorem dX7_item_341 : decode cX7_item 341 = .ok (.getfield 94, 3) := by decide +kernel
theorem dX7_item_344 : decode cX7_item 344 = .ok (.iconst 1, 1) := by decide +kernel
theorem dX7_item_345 : decode cX7_item 345 = .ok (.isub, 1) := by decide +kernel
theorem dX7_item_346 : decode cX7_item 346 = .ok (.invokevirtual 197, 3) := by decide +kernel
theorem dX7_item_349 : decode cX7_item 349 = .ok (.ifCond .ne 5, 3) := by decide +kernel
theorem dX7_item_352 : decode cX7_item 352 = .ok (.iconst 0, 1) := by decide +kernel
theorem dX7_item_353 : decode cX7_item 353 = .ok (.ireturn, 1) := by decide +kernel
theorem dX7_item_354 : decode cX7_item 354 = .ok (.aload_n 0, 1) := by decide +kernel
theorem dX7_item_355 : decode cX7_item 355 = .ok (.getfield 50, 3) := by decide +kernel
theorem dX7_item_358 : decode cX7_item 358 = .ok (.aload_n 0, 1) := by decide +kernel
theorem dX7_item_359 : decode cX7_item 359 = .ok (.getfield 80, 3) := by decide +kernel
theorem dX7_item_362 : decode cX7_item 362 = .ok (.iconst 0, 1) := by decide +kernel
theorem dX7_item_363 : decode cX7_item 363 = .ok (.iaload, 1) := by decide +kernel
theorem dX7_item_364 : decode cX7_item 364 = .ok (.dup2, 1) := by decide +kernel
theorem dX7_item_365 : decode cX7_item 365 = .ok (.iaload, 1) := by decide +kernel
theorem dX7_item_366 : decode cX7_item 366 = .ok (.iconst 1, 1) := by decide +kernel
theorem dX7_item_367 : decode cX7_item 367 = .ok (.aload_n 0, 1) := by decide +kernel
theorem dX7_item_368 : decode cX7_item 368 = .ok (.getfield 80, 3) := by decide +kernel
theorem dX7_item_371 : decode cX7_item 371 = .ok (.iconst 1, 1) := by decide +kernel
theorem dX7_item_372 : decode cX7_item 372 = .ok (.iaload, 1) := by decide +kernel
theorem dX7_item_373 : decode cX7_item 373 = .ok (.ishl, 1) := by decide +kernel
theorem dX7_item_374 : decode cX7_item 374 = .ok (.ior, 1) := by decide +kernel
theorem dX7_item_375 : decode cX7_item 375 = .ok (.iastore, 1) := by decide +kernel
theorem dX7_item_376 : decode cX7_item 376 = .ok (.iconst 1, 1) := by decide +kernel
theorem dX7_item_377 : decode cX7_item 377 = .ok (.ireturn, 1) := by decide +kernel
theorem dX7_item_378 : decode cX7_item 378 = .ok (.aload_n 0, 1) := by decide +kernel
theorem dX7_item_379 : decode cX7_item 379 = .ok (.ldc 208, 2) := by decide +kernel
theorem dX7_item_381 : decode cX7_item 381 = .ok (.invokevirtual 188, 3) := by decide +kernel
theorem dX7_item_384 : decode cX7_item 384 = .ok (.ifCond .eq 15, 3) := by decide +kernel
theorem dX7_item_387 : decode cX7_item 387 = .ok (.aload_n 0, 1) := by decide +kernel
theorem dX7_item_388 : decode cX7_item 388 = .ok (.iconst 0, 1) := by decide +kernel
theorem dX7_item_389 : decode cX7_item 389 = .ok (.iconst 1, 1) := by decide +kernel
theorem dX7_item_390 : decode cX7_item 390 = .ok (.sipush 999, 3) := by decide +kernel
theorem dX7_item_393 : decode cX7_item 393 = .ok (.invokevirtual 197, 3) := by decide +kernel
theorem dX7_item_396 : decode cX7_item 396 = .ok (.ifCond .ne 5, 3) := by decide +kernel
theorem dX7_item_399 : decode cX7_item 399 = .ok (.iconst 0, 1) := by decide +kernel
theorem dX7_item_400 : decode cX7_item 400 = .ok (.ireturn, 1) := by decide +kernel
theorem dX7_item_401 : decode cX7_item 401 = .ok (.aload_n 0, 1) := by decide +kernel
theorem dX7_item_402 : decode cX7_item 402 = .ok (.dup, 1) := by decide +kernel
theorem dX7_item_403 : decode cX7_item 403 = .ok (.getfield 210, 3) := by decide +kernel
theorem dX7_item_406 : decode cX7_item 406 = .ok (.aload_n 0, 1) := by decide +kernel
theorem dX7_item_407 : decode cX7_item 407 = .ok (.getfield 80, 3) := by decide +kernel
theorem dX7_item_410 : decode cX7_item 410 = .ok (.iconst 0, 1) := by decide +kernel
theorem dX7_item_411 : decode cX7_item 411 = .ok (.iaload, 1) := by decide +kernel
theorem dX7_item_412 : decode cX7_item 412 = .ok (.iadd, 1) := by decide +kernel
theorem dX7_item_413 : decode cX7_item 413 = .ok (.putfield 210, 3) := by decide +kernel
theorem dX7_item_416 : decode cX7_item 416 = .ok (.iconst 1, 1) := by decide +kernel
theorem dX7_item_417 : decode cX7_item 417 = .ok (.ireturn, 1) := by decide +kernel
theorem dX7_item_418 : decode cX7_item 418 = .ok (.aload_n 0, 1) := by decide +kernel
theorem dX7_item_419 : decode cX7_item 419 = .ok (.ldc 213, 2) := by decide +kernel
theorem dX7_item_421 : decode cX7_item 421 = .ok (.invokevirtual 188, 3) := by decide +kernel
theorem dX7_item_424 : decode cX7_item 424 = .ok (.ifCond .ne 5, 3) := by decide +kernel
theorem dX7_item_427 : decode cX7_item 427 = .ok (.iconst 0, 1) := by decide +kernel
theorem dX7_item_428 : decode cX7_item 428 = .ok (.ireturn, 1) := by decide +kernel
theorem dX7_item_429 : decode cX7_item 429 = .ok (.aload_n 0, 1) := by decide +kernel
theorem dX7_item_430 : decode cX7_item 430 = .ok (.getfield 166, 3) := by decide +kernel
theorem dX7_item_433 : decode cX7_item 433 = .ok (.iconst 1, 1) := by decide +kernel
theorem dX7_item_434 : decode cX7_item 434 = .ok (.iadd, 1) := by decide +kernel
theorem dX7_item_435 : decode cX7_item 435 = .ok (.istore_n 1, 1) := by decide +kernel
theorem dX7_item_436 : decode cX7_item 436 = .ok (.aload_n 0, 1) := by decide +kernel
theorem dX7_item_437 : decode cX7_item 437 = .ok (.iconst 0, 1) := by decide +kernel
theorem dX7_item_438 : decode cX7_item 438 = .ok (.iconst 0, 1) := by decide +kernel
theorem dX7_item_439 : decode cX7_item 439 = .ok (.aload_n 0, 1) := by decide +kernel
theorem dX7_item_440 : decode cX7_item 440 = .ok (.getfield 94, 3) := by decide +kernel
theorem dX7_item_443 : decode cX7_item 443 = .ok (.iconst 1, 1) := by decide +kernel
theorem dX7_item_444 : decode cX7_item 444 = .ok (.isub, 1) := by decide +kernel
theorem dX7_item_445 : decode cX7_item 445 = .ok (.invokevirtual 197, 3) := by decide +kernel
theorem dX7_item_448 : decode cX7_item 448 = .ok (.ifCond .eq 21, 3) := by decide +kernel
theorem dX7_item_451 : decode cX7_item 451 = .ok (.aload_n 0, 1) := by decide +kernel
theorem dX7_item_452 : decode cX7_item 452 = .ok (.iload_n 1, 1) := by decide +kernel
theorem dX7_item_453 : decode cX7_item 453 = .ok (.aload_n 0, 1) := by decide +kernel
theorem dX7_item_454 : decode cX7_item 454 = .ok (.aload_n 0, 1) := by decide +kernel
theorem dX7_item_455 : decode cX7_item 455 = .ok (.getfield 80, 3) := by decide +kernel
theorem dX7_item_458 : decode cX7_item 458 = .ok (.iconst 0, 1) := by decide +kernel
theorem dX7_item_459 : decode cX7_item 459 = .ok (.iaload, 1) := by decide +kernel
theorem dX7_item_460 : decode cX7_item 460 = .ok (.invokevirtual 215, 3) := by decide +kernel
theorem dX7_item_463 : decode cX7_item 463 = .ok (.invokevirtual 200, 3) := by decide +kernel
theorem dX7_item_466 : decode cX7_item 466 = .ok (.ifCond .ne 5, 3) := by decide +kernel
theorem dX7_item_469 : decode cX7_item 469 = .ok (.iconst 0, 1) := by decide +kernel
theorem dX7_item_470 : decode cX7_item 470 = .ok (.ireturn, 1) := by decide +kernel
theorem dX7_item_471 : decode cX7_item 471 = .ok (.aload_n 0, 1) := by decide +kernel
theorem dX7_item_472 : decode cX7_item 472 = .ok (.aload_n 0, 1) := by decide +kernel
theorem dX7_item_473 : decode cX7_item 473 = .ok (.getfield 80, 3) := by decide +kernel
theorem dX7_item_476 : decode cX7_item 476 = .ok (.iconst 0, 1) := by decide +kernel
theorem dX7_item_477 : decode cX7_item 477 = .ok (.iaload, 1) := by decide +kernel
theorem dX7_item_478 : decode cX7_item 478 = .ok (.invokevirtual 218, 3) := by decide +kernel
theorem dX7_item_481 : decode cX7_item 481 = .ok (.pop, 1) := by decide +kernel
theorem dX7_item_482 : decode cX7_item 482 = .ok (.iconst 1, 1) := by decide +kernel
theorem dX7_item_483 : decode cX7_item 483 = .ok (.ireturn, 1) := by decide +kernel
theorem dX7_item_484 : decode cX7_item 484 = .ok (.iconst 0, 1) := by decide +kernel
theorem dX7_item_485 : decode cX7_item 485 = .ok (.ireturn, 1) := by decide +kernel
theorem dX7_range_0 : decode cX7_range 0 = .ok (.aload_n 0, 1) := by decide +kernel
theorem dX7_range_1 : decode cX7_range 1 = .ok (.iload_n 1, 1) := by decide +kernel
theorem dX7_range_2 : decode cX7_range 2 = .ok (.invokevirtual 111, 3) := by decide +kernel
theorem dX7_range_5 : decode cX7_range 5 = .ok (.istore_n 2, 1) := by decide +kernel
theorem dX7_range_6 : decode cX7_range 6 = .ok (.iload_n 2, 1) := by decide +kernel
theorem dX7_range_7 : decode cX7_range 7 = .ok (.ifCond .ge 9, 3) := by decide +kernel
theorem dX7_range_10 : decode cX7_range 10 = .ok (.aload_n 0, 1) := by decide +kernel
theorem dX7_range_11 : decode cX7_range 11 = .ok (.iload_n 2, 1) := by decide +kernel
theorem dX7_range_12 : decode cX7_range 12 = .ok (.invokevirtual 90, 3) := by decide +kernel
theorem dX7_range_15 : decode cX7_range 15 = .ok (.ireturn, 1) := by decide +kernel
theorem dX7_range_16 : decode cX7_range 16 = .ok (.aload_n 0, 1) := by decide +kernel
theorem dX7_range_17 : decode cX7_range 17 = .ok (.aload_n 0, 1) := by decide +kernel
theorem dX7_range_18 : decode cX7_range 18 = .ok (.getfield 62, 3) := by decide +kernel
theorem dX7_range_21 : decode cX7_range 21 = .ok (.invokevirtual 221, 3) := by decide +kernel
theorem dX7_range_24 : decode cX7_range 24 = .ok (.aload_n 0, 1) := by decide +kernel
theorem dX7_range_25 : decode cX7_range 25 = .ok (.iload_n 1, 1) := by decide +kernel
theorem dX7_range_26 : decode cX7_range 26 = .ok (.putfield 169, 3) := by decide +kernel
theorem dX7_range_29 : decode cX7_range 29 = .ok (.aload_n 0, 1) := by decide +kernel
theorem dX7_range_30 : decode cX7_range 30 = .ok (.iconst 0, 1) := by decide +kernel
theorem dX7_range_31 : decode cX7_range 31 = .ok (.putfield 166, 3) := by decide +kernel
theorem dX7_range_34 : decode cX7_range 34 = .ok (.iconst 0, 1) := by decide +kernel
theorem dX7_range_35 : decode cX7_range 35 = .ok (.istore_n 3, 1) := by decide +kernel
theorem dX7_range_36 : decode cX7_range 36 = .ok (.iconst 1, 1) := by decide +kernel
theorem dX7_range_37 : decode cX7_range 37 = .ok (.istore 4, 2) := by decide +kernel
theorem dX7_range_39 : decode cX7_range 39 = .ok (.iload 4, 2) := by decide +kernel
theorem dX7_range_41 : decode cX7_range 41 = .ok (.ifCond .eq 58, 3) := by decide +kernel
theorem dX7_range_44 : decode cX7_range 44 = .ok (.aload_n 0, 1) := by decide +kernel
theorem dX7_range_45 : decode cX7_range 45 = .ok (.invokevirtual 225, 3) := by decide +kernel
theorem dX7_range_48 : decode cX7_range 48 = .ok (.istore 4, 2) := by decide +kernel
theorem dX7_range_50 : decode cX7_range 50 = .ok (.iload 4, 2) := by decide +kernel
theorem dX7_range_52 : decode cX7_range 52 = .ok (.ifCond .eq 6, 3) := by decide +kernel
theorem dX7_range_55 : decode cX7_range 55 = .ok (.iinc 3 1, 3) := by decide +kernel
theorem dX7_range_58 : decode cX7_range 58 = .ok (.iload 4, 2) := by decide +kernel
theorem dX7_range_60 : decode cX7_range 60 = .ok (.ifCond .eq 23, 3) := by decide +kernel
theorem dX7_range_63 : decode cX7_range 63 = .ok (.aload_n 0, 1) := by decide +kernel
theorem dX7_range_64 : decode cX7_range 64 = .ok (.getfield 166, 3) := by decide +kernel
theorem dX7_range_67 : decode cX7_range 67 = .ok (.aload_n 0, 1) := by decide +kernel
theorem dX7_range_68 : decode cX7_range 68 = .ok (.getfield 13, 3) := by decide +kernel
theorem dX7_range_71 : decode cX7_range 71 = .ok (.iload_n 1, 1) := by decide +kernel
theorem dX7_range_72 : decode cX7_range 72 = .ok (.iaload, 1) := by decide +kernel
theorem dX7_range_73 : decode cX7_range 73 = .ok (.if_icmp .ne 10, 3) := by decide +kernel
theorem dX7_range_76 : decode cX7_range 76 = .ok (.aload_n 0, 1) := by decide +kernel
theorem dX7_range_77 : decode cX7_range 77 = .ok (.iconst (-1), 1) := by decide +kernel
theorem dX7_range_78 : decode cX7_range 78 = .ok (.putfield 87, 3) := by decide +kernel
theorem dX7_range_81 : decode cX7_range 81 = .ok (.iload_n 3, 1) := by decide +kernel
theorem dX7_range_82 : decode cX7_range 82 = .ok (.ireturn, 1) := by decide +kernel
theorem dX7_range_83 : decode cX7_range 83 = .ok (.iload 4, 2) := by decide +kernel
theorem dX7_range_85 : decode cX7_range 85 = .ok (.ifCond .eq (-46), 3) := by decide +kernel
theorem dX7_range_88 : decode cX7_range 88 = .ok (.aload_n 0, 1) := by decide +kernel
theorem dX7_range_89 : decode cX7_range 89 = .ok (.bipush 59, 2) := by decide +kernel
theorem dX7_range_91 : decode cX7_range 91 = .ok (.invokevirtual 184, 3) := by decide +kernel
theorem dX7_range_94 : decode cX7_range 94 = .ok (.istore 4, 2) := by decide +kernel
theorem dX7_range_96 : decode cX7_range 96 = .ok (.goto (-57), 3) := by decide +kernel
theorem dX7_range_99 : decode cX7_range 99 = .ok (.aload_n 0, 1) := by decide +kernel
theorem dX7_range_100 : decode cX7_range 100 = .ok (.aload_n 0, 1) := by decide +kernel
theorem dX7_range_101 : decode cX7_range 101 = .ok (.getfield 166, 3) := by decide +kernel
theorem dX7_range_104 : decode cX7_range 104 = .ok (.putfield 87, 3) := by decide +kernel
theorem dX7_range_107 : decode cX7_range 107 = .ok (.aload_n 0, 1) := by decide +kernel
theorem dX7_range_108 : decode cX7_range 108 = .ok (.aload_n 0, 1) := by decide +kernel
theorem dX7_range_109 : decode cX7_range 109 = .ok (.getfield 62, 3) := by decide +kernel
theorem dX7_range_112 : decode cX7_range 112 = .ok (.invokevirtual 229, 3) := by decide +kernel
theorem dX7_range_115 : decode cX7_range 115 = .ok (.aload_n 0, 1) := by decide +kernel
theorem dX7_range_116 : decode cX7_range 116 = .ok (.bipush (-6), 2) := by decide +kernel
theorem dX7_range_118 : decode cX7_range 118 = .ok (.invokevirtual 90, 3) := by decide +kernel
theorem dX7_range_121 : decode cX7_range 121 = .ok (.ireturn, 1) := by decide +kernel
theorem dX7_fault_0 : decode cX7_fault 0 = .ok (.aload_n 0, 1) := by decide +kernel
theorem dX7_fault_1 : decode cX7_fault 1 = .ok (.getfield 87, 3) := by decide +kernel
theorem dX7_fault_4 : decode cX7_fault 4 = .ok (.ireturn, 1) := by decide +kernel
theorem dX7_isBelow_0 : decode cX7_isBelow 0 = .ok (.aload_n 0, 1) := by decide +kernel
theorem dX7_isBelow_1 : decode cX7_isBelow 1 = .ok (.getfield 26, 3) := by decide +kernel
theorem dX7_isBelow_4 : decode cX7_isBelow 4 = .ok (.iload_n 2, 1) := by decide +kernel
theorem dX7_isBelow_5 : decode cX7_isBelow 5 = .ok (.iaload, 1) := by decide +kernel
theorem dX7_isBelow_6 : decode cX7_isBelow 6 = .ok (.aload_n 0, 1) := by decide +kernel
theorem dX7_isBelow_7 : decode cX7_isBelow 7 = .ok (.getfield 26, 3) := by decide +kernel
theorem dX7_isBelow_10 : decode cX7_isBelow 10 = .ok (.iload_n 1, 1) := by decide +kernel
theorem dX7_isBelow_11 : decode cX7_isBelow 11 = .ok (.iaload, 1) := by decide +kernel
theorem dX7_isBelow_12 : decode cX7_isBelow 12 = .ok (.isub, 1) := by decide +kernel
theorem dX7_isBelow_13 : decode cX7_isBelow 13 = .ok (.istore 5, 2) := by decide +kernel
theorem dX7_isBelow_15 : decode cX7_isBelow 15 = .ok (.aload_n 0, 1) := by decide +kernel
theorem dX7_isBelow_16 : decode cX7_isBelow 16 = .ok (.getfield 29, 3) := by decide +kernel
theorem dX7_isBelow_19 : decode cX7_isBelow 19 = .ok (.iload_n 1, 1) := by decide +kernel
theorem dX7_isBelow_20 : decode cX7_isBelow 20 = .ok (.iaload, 1) := by decide +kernel
theorem dX7_isBelow_21 : decode cX7_isBelow 21 = .ok (.iload 5, 2) := by decide +kernel
theorem dX7_isBelow_23 : decode cX7_isBelow 23 = .ok (.imul, 1) := by decide +kernel
theorem dX7_isBelow_24 : decode cX7_isBelow 24 = .ok (.aload_n 0, 1) := by decide +kernel
theorem dX7_isBelow_25 : decode cX7_isBelow 25 = .ok (.getfield 29, 3) := by decide +kernel
theorem dX7_isBelow_28 : decode cX7_isBelow 28 = .ok (.iload_n 2, 1) := by decide +kernel
theorem dX7_isBelow_29 : decode cX7_isBelow 29 = .ok (.iaload, 1) := by decide +kernel
theorem dX7_isBelow_30 : decode cX7_isBelow 30 = .ok (.aload_n 0, 1) := by decide +kernel
theorem dX7_isBelow_31 : decode cX7_isBelow 31 = .ok (.getfield 29, 3) := by decide +kernel
theorem dX7_isBelow_34 : decode cX7_isBelow 34 = .ok (.iload_n 1, 1) := by decide +kernel
theorem dX7_isBelow_35 : decode cX7_isBelow 35 = .ok (.iaload, 1) := by decide +kernel
theorem dX7_isBelow_36 : decode cX7_isBelow 36 = .ok (.isub, 1) := by decide +kernel
theorem dX7_isBelow_37 : decode cX7_isBelow 37 = .ok (.iload_n 3, 1) := by decide +kernel
theorem dX7_isBelow_38 : decode cX7_isBelow 38 = .ok (.aload_n 0, 1) := by decide +kernel
theorem dX7_isBelow_39 : decode cX7_isBelow 39 = .ok (.getfield 26, 3) := by decide +kernel
theorem dX7_isBelow_42 : decode cX7_isBelow 42 = .ok (.iload_n 1, 1) := by decide +kernel
theorem dX7_isBelow_43 : decode cX7_isBelow 43 = .ok (.iaload, 1) := by decide +kernel
theorem dX7_isBelow_44 : decode cX7_isBelow 44 = .ok (.isub, 1) := by decide +kernel
theorem dX7_isBelow_45 : decode cX7_isBelow 45 = .ok (.imul, 1) := by decide +kernel
theorem dX7_isBelow_46 : decode cX7_isBelow 46 = .ok (.iadd, 1) := by decide +kernel
theorem dX7_isBelow_47 : decode cX7_isBelow 47 = .ok (.istore 6, 2) := by decide +kernel
theorem dX7_isBelow_49 : decode cX7_isBelow 49 = .ok (.iload 5, 2) := by decide +kernel
theorem dX7_isBelow_51 : decode cX7_isBelow 51 = .ok (.ifCond .le 21, 3) := by decide +kernel
theorem dX7_isBelow_54 : decode cX7_isBelow 54 = .ok (.iload 4, 2) := by decide +kernel
theorem dX7_isBelow_56 : decode cX7_isBelow 56 = .ok (.iload 5, 2) := by decide +kernel
theorem dX7_isBelow_58 : decode cX7_isBelow 58 = .ok (.imul, 1) := by decide +kernel
theorem dX7_isBelow_59 : decode cX7_isBelow 59 = .ok (.iload 6, 2) := by decide +kernel
theorem dX7_isBelow_61 : decode cX7_isBelow 61 = .ok (.if_icmp .ge 7, 3) := by decide +kernel
theorem dX7_isBelow_64 : decode cX7_isBelow 64 = .ok (.iconst 1, 1) := by decide +kernel
theorem dX7_isBelow_65 : decode cX7_isBelow 65 = .ok (.goto 22, 3) := by decide +kernel
theorem dX7_isBelow_68 : decode cX7_isBelow 68 = .ok (.iconst 0, 1) := by decide +kernel
theorem dX7_isBelow_69 : decode cX7_isBelow 69 = .ok (.goto 18, 3) := by decide +kernel
theorem dX7_isBelow_72 : decode cX7_isBelow 72 = .ok (.iload 4, 2) := by decide +kernel
theorem dX7_isBelow_74 : decode cX7_isBelow 74 = .ok (.iload 5, 2) := by decide +kernel
theorem dX7_isBelow_76 : decode cX7_isBelow 76 = .ok (.imul, 1) := by decide +kernel
theorem dX7_isBelow_77 : decode cX7_isBelow 77 = .ok (.iload 6, 2) := by decide +kernel
theorem dX7_isBelow_79 : decode cX7_isBelow 79 = .ok (.if_icmp .le 7, 3) := by decide +kernel
theorem dX7_isBelow_82 : decode cX7_isBelow 82 = .ok (.iconst 1, 1) := by decide +kernel
theorem dX7_isBelow_83 : decode cX7_isBelow 83 = .ok (.goto 4, 3) := by decide +kernel
theorem dX7_isBelow_86 : decode cX7_isBelow 86 = .ok (.iconst 0, 1) := by decide +kernel
theorem dX7_isBelow_87 : decode cX7_isBelow 87 = .ok (.ireturn, 1) := by decide +kernel
theorem dX7_isBetween_0 : decode cX7_isBetween 0 = .ok (.iload_n 3, 1) := by decide +kernel
theorem dX7_isBetween_1 : decode cX7_isBetween 1 = .ok (.aload_n 0, 1) := by decide +kernel
theorem dX7_isBetween_2 : decode cX7_isBetween 2 = .ok (.getfield 26, 3) := by decide +kernel
theorem dX7_isBetween_5 : decode cX7_isBetween 5 = .ok (.iload_n 1, 1) := by decide +kernel
theorem dX7_isBetween_6 : decode cX7_isBetween 6 = .ok (.iaload, 1) := by decide +kernel
theorem dX7_isBetween_7 : decode cX7_isBetween 7 = .ok (.aload_n 0, 1) := by decide +kernel
theorem dX7_isBetween_8 : decode cX7_isBetween 8 = .ok (.getfield 26, 3) := by decide +kernel
theorem dX7_isBetween_11 : decode cX7_isBetween 11 = .ok (.iload_n 2, 1) := by decide +kernel
theorem dX7_isBetween_12 : decode cX7_isBetween 12 = .ok (.iaload, 1) := by decide +kernel
theorem dX7_isBetween_13 : decode cX7_isBetween 13 = .ok (.invokestatic 232, 3) := by decide +kernel
theorem dX7_isBetween_16 : decode cX7_isBetween 16 = .ok (.if_icmp .le 26, 3) := by decide +kernel
theorem dX7_isBetween_19 : decode cX7_isBetween 19 = .ok (.iload_n 3, 1) := by decide +kernel
theorem dX7_isBetween_20 : decode cX7_isBetween 20 = .ok (.aload_n 0, 1) := by decide +kernel
theorem dX7_isBetween_21 : decode cX7_isBetween 21 = .ok (.getfield 26, 3) := by decide +kernel
theorem dX7_isBetween_24 : decode cX7_isBetween 24 = .ok (.iload_n 1, 1) := by decide +kernel
theorem dX7_isBetween_25 : decode cX7_isBetween 25 = .ok (.iaload, 1) := by decide +kernel
theorem dX7_isBetween_26 : decode cX7_isBetween 26 = .ok (.aload_n 0, 1) := by decide +kernel
theorem dX7_isBetween_27 : decode cX7_isBetween 27 = .ok (.getfield 26, 3) := by decide +kernel
theorem dX7_isBetween_30 : decode cX7_isBetween 30 = .ok (.iload_n 2, 1) := by decide +kernel
theorem dX7_isBetween_31 : decode cX7_isBetween 31 = .ok (.iaload, 1) := by decide +kernel
theorem dX7_isBetween_32 : decode cX7_isBetween 32 = .ok (.invokestatic 237, 3) := by decide +kernel
theorem dX7_isBetween_35 : decode cX7_isBetween 35 = .ok (.if_icmp .ge 7, 3) := by decide +kernel
theorem dX7_isBetween_38 : decode cX7_isBetween 38 = .ok (.iconst 1, 1) := by decide +kernel
theorem dX7_isBetween_39 : decode cX7_isBetween 39 = .ok (.goto 4, 3) := by decide +kernel
theorem dX7_isBetween_42 : decode cX7_isBetween 42 = .ok (.iconst 0, 1) := by decide +kernel
theorem dX7_isBetween_43 : decode cX7_isBetween 43 = .ok (.ireturn, 1) := by decide +kernel
theorem dX7_couldSee_0 : decode cX7_couldSee 0 = .ok (.iload_n 1, 1) := by decide +kernel
theorem dX7_couldSee_1 : decode cX7_couldSee 1 = .ok (.iload_n 2, 1) := by decide +kernel
theorem dX7_couldSee_2 : decode cX7_couldSee 2 = .ok (.if_icmp .eq 21, 3) := by decide +kernel
theorem dX7_couldSee_5 : decode cX7_couldSee 5 = .ok (.aload_n 0, 1) := by decide +kernel
theorem dX7_couldSee_6 : decode cX7_couldSee 6 = .ok (.getfield 32, 3) := by decide +kernel
theorem dX7_couldSee_9 : decode cX7_couldSee 9 = .ok (.iload_n 1, 1) := by decide +kernel
theorem dX7_couldSee_10 : decode cX7_couldSee 10 = .ok (.iaload, 1) := by decide +kernel
theorem dX7_couldSee_11 : decode cX7_couldSee 11 = .ok (.ifCond .eq 12, 3) := by decide +kernel
theorem dX7_couldSee_14 : decode cX7_couldSee 14 = .ok (.aload_n 0, 1) := by decide +kernel
theorem dX7_couldSee_15 : decode cX7_couldSee 15 = .ok (.getfield 32, 3) := by decide +kernel
theorem dX7_couldSee_18 : decode cX7_couldSee 18 = .ok (.iload_n 2, 1) := by decide +kernel
theorem dX7_couldSee_19 : decode cX7_couldSee 19 = .ok (.iaload, 1) := by decide +kernel
theorem dX7_couldSee_20 : decode cX7_couldSee 20 = .ok (.ifCond .ne 5, 3) := by decide +kernel
theorem dX7_couldSee_23 : decode cX7_couldSee 23 = .ok (.iconst 0, 1) := by decide +kernel
theorem dX7_couldSee_24 : decode cX7_couldSee 24 = .ok (.ireturn, 1) := by decide +kernel
theorem dX7_couldSee_25 : decode cX7_couldSee 25 = .ok (.aload_n 0, 1) := by decide +kernel
theorem dX7_couldSee_26 : decode cX7_couldSee 26 = .ok (.getfield 20, 3) := by decide +kernel
theorem dX7_couldSee_29 : decode cX7_couldSee 29 = .ok (.iload_n 1, 1) := by decide +kernel
theorem dX7_couldSee_30 : decode cX7_couldSee 30 = .ok (.iaload, 1) := by decide +kernel
theorem dX7_couldSee_31 : decode cX7_couldSee 31 = .ok (.iconst 4, 1) := by decide +kernel
theorem dX7_couldSee_32 : decode cX7_couldSee 32 = .ok (.invokestatic 117, 3) := by decide +kernel
theorem dX7_couldSee_35 : decode cX7_couldSee 35 = .ok (.ifCond .eq 36, 3) := by decide +kernel
theorem dX7_couldSee_38 : decode cX7_couldSee 38 = .ok (.aload_n 0, 1) := by decide +kernel
theorem dX7_couldSee_39 : decode cX7_couldSee 39 = .ok (.getfield 26, 3) := by decide +kernel
theorem dX7_couldSee_42 : decode cX7_couldSee 42 = .ok (.iload_n 1, 1) := by decide +kernel
theorem dX7_couldSee_43 : decode cX7_couldSee 43 = .ok (.iaload, 1) := by decide +kernel
theorem dX7_couldSee_44 : decode cX7_couldSee 44 = .ok (.aload_n 0, 1) := by decide +kernel
theorem dX7_couldSee_45 : decode cX7_couldSee 45 = .ok (.getfield 26, 3) := by decide +kernel
theorem dX7_couldSee_48 : decode cX7_couldSee 48 = .ok (.iload_n 2, 1) := by decide +kernel
theorem dX7_couldSee_49 : decode cX7_couldSee 49 = .ok (.iaload, 1) := by decide +kernel
theorem dX7_couldSee_50 : decode cX7_couldSee 50 = .ok (.isub, 1) := by decide +kernel
theorem dX7_couldSee_51 : decode cX7_couldSee 51 = .ok (.invokestatic 240, 3) := by decide +kernel
theorem dX7_couldSee_54 : decode cX7_couldSee 54 = .ok (.bipush 10, 2) := by decide +kernel
theorem dX7_couldSee_56 : decode cX7_couldSee 56 = .ok (.aload_n 0, 1) := by decide +kernel
theorem dX7_couldSee_57 : decode cX7_couldSee 57 = .ok (.getfield 23, 3) := by decide +kernel
theorem dX7_couldSee_60 : decode cX7_couldSee 60 = .ok (.iload_n 1, 1) := by decide +kernel
theorem dX7_couldSee_61 : decode cX7_couldSee 61 = .ok (.iaload, 1) := by decide +kernel
theorem dX7_couldSee_62 : decode cX7_couldSee 62 = .ok (.imul, 1) := by decide +kernel
theorem dX7_couldSee_63 : decode cX7_couldSee 63 = .ok (.bipush 10, 2) := by decide +kernel
theorem dX7_couldSee_65 : decode cX7_couldSee 65 = .ok (.iadd, 1) := by decide +kernel
theorem dX7_couldSee_66 : decode cX7_couldSee 66 = .ok (.if_icmp .le 5, 3) := by decide +kernel
theorem dX7_couldSee_69 : decode cX7_couldSee 69 = .ok (.iconst 0, 1) := by decide +kernel
theorem dX7_couldSee_70 : decode cX7_couldSee 70 = .ok (.ireturn, 1) := by decide +kernel
theorem dX7_couldSee_71 : decode cX7_couldSee 71 = .ok (.iconst 0, 1) := by decide +kernel
theorem dX7_couldSee_72 : decode cX7_couldSee 72 = .ok (.istore_n 3, 1) := by decide +kernel
theorem dX7_couldSee_73 : decode cX7_couldSee 73 = .ok (.iload_n 3, 1) := by decide +kernel
theorem dX7_couldSee_74 : decode cX7_couldSee 74 = .ok (.aload_n 0, 1) := by decide +kernel
theorem dX7_couldSee_75 : decode cX7_couldSee 75 = .ok (.getfield 94, 3) := by decide +kernel
theorem dX7_couldSee_78 : decode cX7_couldSee 78 = .ok (.if_icmp .ge 57, 3) := by decide +kernel
theorem dX7_couldSee_81 : decode cX7_couldSee 81 = .ok (.aload_n 0, 1) := by decide +kernel
theorem dX7_couldSee_82 : decode cX7_couldSee 82 = .ok (.getfield 32, 3) := by decide +kernel
theorem dX7_couldSee_85 : decode cX7_couldSee 85 = .ok (.iload_n 3, 1) := by decide +kernel
theorem dX7_couldSee_86 : decode cX7_couldSee 86 = .ok (.iaload, 1) := by decide +kernel
theorem dX7_couldSee_87 : decode cX7_couldSee 87 = .ok (.iconst 1, 1) := by decide +kernel
theorem dX7_couldSee_88 : decode cX7_couldSee 88 = .ok (.if_icmp .ne 41, 3) := by decide +kernel
theorem dX7_couldSee_91 : decode cX7_couldSee 91 = .ok (.aload_n 0, 1) := by decide +kernel
theorem dX7_couldSee_92 : decode cX7_couldSee 92 = .ok (.iload_n 1, 1) := by decide +kernel
theorem dX7_couldSee_93 : decode cX7_couldSee 93 = .ok (.iload_n 2, 1) := by decide +kernel
theorem dX7_couldSee_94 : decode cX7_couldSee 94 = .ok (.aload_n 0, 1) := by decide +kernel
theorem dX7_couldSee_95 : decode cX7_couldSee 95 = .ok (.getfield 26, 3) := by decide +kernel
theorem dX7_couldSee_98 : decode cX7_couldSee 98 = .ok (.iload_n 3, 1) := by decide +kernel
theorem dX7_couldSee_99 : decode cX7_couldSee 99 = .ok (.iaload, 1) := by decide +kernel
theorem dX7_couldSee_100 : decode cX7_couldSee 100 = .ok (.invokevirtual 243, 3) := by decide +kernel
theorem dX7_couldSee_103 : decode cX7_couldSee 103 = .ok (.ifCond .eq 26, 3) := by decide +kernel
theorem dX7_couldSee_106 : decode cX7_couldSee 106 = .ok (.aload_n 0, 1) := by decide +kernel
theorem dX7_couldSee_107 : decode cX7_couldSee 107 = .ok (.iload_n 1, 1) := by decide +kernel
theorem dX7_couldSee_108 : decode cX7_couldSee 108 = .ok (.iload_n 2, 1) := by decide +kernel
theorem dX7_couldSee_109 : decode cX7_couldSee 109 = .ok (.aload_n 0, 1) := by decide +kernel
theorem dX7_couldSee_110 : decode cX7_couldSee 110 = .ok (.getfield 26, 3) := by decide +kernel
theorem dX7_couldSee_113 : decode cX7_couldSee 113 = .ok (.iload_n 3, 1) := by decide +kernel
theorem dX7_couldSee_114 : decode cX7_couldSee 114 = .ok (.iaload, 1) := by decide +kernel
theorem dX7_couldSee_115 : decode cX7_couldSee 115 = .ok (.aload_n 0, 1) := by decide +kernel
theorem dX7_couldSee_116 : decode cX7_couldSee 116 = .ok (.getfield 29, 3) := by decide +kernel
theorem dX7_couldSee_119 : decode cX7_couldSee 119 = .ok (.iload_n 3, 1) := by decide +kernel
theorem dX7_couldSee_120 : decode cX7_couldSee 120 = .ok (.iaload, 1) := by decide +kernel
theorem dX7_couldSee_121 : decode cX7_couldSee 121 = .ok (.invokevirtual 246, 3) := by decide +kernel
theorem dX7_couldSee_124 : decode cX7_couldSee 124 = .ok (.ifCond .ne 5, 3) := by decide +kernel
theorem dX7_couldSee_127 : decode cX7_couldSee 127 = .ok (.iconst 0, 1) := by decide +kernel
theorem dX7_couldSee_128 : decode cX7_couldSee 128 = .ok (.ireturn, 1) := by decide +kernel
theorem dX7_couldSee_129 : decode cX7_couldSee 129 = .ok (.iinc 3 1, 3) := by decide +kernel
theorem dX7_couldSee_132 : decode cX7_couldSee 132 = .ok (.goto (-59), 3) := by decide +kernel
theorem dX7_couldSee_135 : decode cX7_couldSee 135 = .ok (.iconst 0, 1) := by decide +kernel
theorem dX7_couldSee_136 : decode cX7_couldSee 136 = .ok (.istore_n 3, 1) := by decide +kernel
theorem dX7_couldSee_137 : decode cX7_couldSee 137 = .ok (.iload_n 3, 1) := by decide +kernel
theorem dX7_couldSee_138 : decode cX7_couldSee 138 = .ok (.aload_n 0, 1) := by decide +kernel
theorem dX7_couldSee_139 : decode cX7_couldSee 139 = .ok (.getfield 148, 3) := by decide +kernel
theorem dX7_couldSee_142 : decode cX7_couldSee 142 = .ok (.if_icmp .ge 47, 3) := by decide +kernel
theorem dX7_couldSee_145 : decode cX7_couldSee 145 = .ok (.aload_n 0, 1) := by decide +kernel
theorem dX7_couldSee_146 : decode cX7_couldSee 146 = .ok (.iload_n 1, 1) := by decide +kernel
theorem dX7_couldSee_147 : decode cX7_couldSee 147 = .ok (.iload_n 2, 1) := by decide +kernel
theorem dX7_couldSee_148 : decode cX7_couldSee 148 = .ok (.aload_n 0, 1) := by decide +kernel
theorem dX7_couldSee_149 : decode cX7_couldSee 149 = .ok (.getfield 41, 3) := by decide +kernel
theorem dX7_couldSee_152 : decode cX7_couldSee 152 = .ok (.iload_n 3, 1) := by decide +kernel
theorem dX7_couldSee_153 : decode cX7_couldSee 153 = .ok (.iaload, 1) := by decide +kernel
theorem dX7_couldSee_154 : decode cX7_couldSee 154 = .ok (.invokevirtual 243, 3) := by decide +kernel
theorem dX7_couldSee_157 : decode cX7_couldSee 157 = .ok (.ifCond .eq 26, 3) := by decide +kernel
theorem dX7_couldSee_160 : decode cX7_couldSee 160 = .ok (.aload_n 0, 1) := by decide +kernel
theorem dX7_couldSee_161 : decode cX7_couldSee 161 = .ok (.iload_n 1, 1) := by decide +kernel
theorem dX7_couldSee_162 : decode cX7_couldSee 162 = .ok (.iload_n 2, 1) := by decide +kernel
theorem dX7_couldSee_163 : decode cX7_couldSee 163 = .ok (.aload_n 0, 1) := by decide +kernel
theorem dX7_couldSee_164 : decode cX7_couldSee 164 = .ok (.getfield 41, 3) := by decide +kernel
theorem dX7_couldSee_167 : decode cX7_couldSee 167 = .ok (.iload_n 3, 1) := by decide +kernel
theorem dX7_couldSee_168 : decode cX7_couldSee 168 = .ok (.iaload, 1) := by decide +kernel
theorem dX7_couldSee_169 : decode cX7_couldSee 169 = .ok (.aload_n 0, 1) := by decide +kernel
theorem dX7_couldSee_170 : decode cX7_couldSee 170 = .ok (.getfield 44, 3) := by decide +kernel
theorem dX7_couldSee_173 : decode cX7_couldSee 173 = .ok (.iload_n 3, 1) := by decide +kernel
theorem dX7_couldSee_174 : decode cX7_couldSee 174 = .ok (.iaload, 1) := by decide +kernel
theorem dX7_couldSee_175 : decode cX7_couldSee 175 = .ok (.invokevirtual 246, 3) := by decide +kernel
theorem dX7_couldSee_178 : decode cX7_couldSee 178 = .ok (.ifCond .ne 5, 3) := by decide +kernel
theorem dX7_couldSee_181 : decode cX7_couldSee 181 = .ok (.iconst 0, 1) := by decide +kernel
theorem dX7_couldSee_182 : decode cX7_couldSee 182 = .ok (.ireturn, 1) := by decide +kernel
theorem dX7_couldSee_183 : decode cX7_couldSee 183 = .ok (.iinc 3 1, 3) := by decide +kernel
theorem dX7_couldSee_186 : decode cX7_couldSee 186 = .ok (.goto (-49), 3) := by decide +kernel
theorem dX7_couldSee_189 : decode cX7_couldSee 189 = .ok (.iconst 1, 1) := by decide +kernel
theorem dX7_couldSee_190 : decode cX7_couldSee 190 = .ok (.ireturn, 1) := by decide +kernel
theorem dX7_looks_0 : decode cX7_looks 0 = .ok (.iconst 0, 1) := by decide +kernel
theorem dX7_looks_1 : decode cX7_looks 1 = .ok (.istore_n 1, 1) := by decide +kernel
theorem dX7_looks_2 : decode cX7_looks 2 = .ok (.iload_n 1, 1) := by decide +kernel
theorem dX7_looks_3 : decode cX7_looks 3 = .ok (.aload_n 0, 1) := by decide +kernel
theorem dX7_looks_4 : decode cX7_looks 4 = .ok (.getfield 94, 3) := by decide +kernel
theorem dX7_looks_7 : decode cX7_looks 7 = .ok (.if_icmp .ge 71, 3) := by decide +kernel
theorem dX7_looks_10 : decode cX7_looks 10 = .ok (.iconst 0, 1) := by decide +kernel
theorem dX7_looks_11 : decode cX7_looks 11 = .ok (.istore_n 2, 1) := by decide +kernel
theorem dX7_looks_12 : decode cX7_looks 12 = .ok (.iload_n 2, 1) := by decide +kernel
theorem dX7_looks_13 : decode cX7_looks 13 = .ok (.aload_n 0, 1) := by decide +kernel
theorem dX7_looks_14 : decode cX7_looks 14 = .ok (.getfield 94, 3) := by decide +kernel
theorem dX7_looks_17 : decode cX7_looks 17 = .ok (.if_icmp .ge 55, 3) := by decide +kernel
theorem dX7_looks_20 : decode cX7_looks 20 = .ok (.bipush 10, 2) := by decide +kernel
theorem dX7_looks_22 : decode cX7_looks 22 = .ok (.iload_n 1, 1) := by decide +kernel
theorem dX7_looks_23 : decode cX7_looks 23 = .ok (.imul, 1) := by decide +kernel
theorem dX7_looks_24 : decode cX7_looks 24 = .ok (.iload_n 2, 1) := by decide +kernel
theorem dX7_looks_25 : decode cX7_looks 25 = .ok (.iadd, 1) := by decide +kernel
theorem dX7_looks_26 : decode cX7_looks 26 = .ok (.istore_n 3, 1) := by decide +kernel
theorem dX7_looks_27 : decode cX7_looks 27 = .ok (.aload_n 0, 1) := by decide +kernel
theorem dX7_looks_28 : decode cX7_looks 28 = .ok (.iload_n 1, 1) := by decide +kernel
theorem dX7_looks_29 : decode cX7_looks 29 = .ok (.iload_n 2, 1) := by decide +kernel
theorem dX7_looks_30 : decode cX7_looks 30 = .ok (.invokevirtual 250, 3) := by decide +kernel
theorem dX7_looks_33 : decode cX7_looks 33 = .ok (.ifCond .ne 13, 3) := by decide +kernel
theorem dX7_looks_36 : decode cX7_looks 36 = .ok (.aload_n 0, 1) := by decide +kernel
theorem dX7_looks_37 : decode cX7_looks 37 = .ok (.getfield 38, 3) := by decide +kernel
theorem dX7_looks_40 : decode cX7_looks 40 = .ok (.iload_n 3, 1) := by decide +kernel
theorem dX7_looks_41 : decode cX7_looks 41 = .ok (.iconst (-1), 1) := by decide +kernel
theorem dX7_looks_42 : decode cX7_looks 42 = .ok (.iastore, 1) := by decide +kernel
theorem dX7_looks_43 : decode cX7_looks 43 = .ok (.goto 23, 3) := by decide +kernel
theorem dX7_looks_46 : decode cX7_looks 46 = .ok (.aload_n 0, 1) := by decide +kernel
theorem dX7_looks_47 : decode cX7_looks 47 = .ok (.getfield 38, 3) := by decide +kernel
theorem dX7_looks_50 : decode cX7_looks 50 = .ok (.iload_n 3, 1) := by decide +kernel
theorem dX7_looks_51 : decode cX7_looks 51 = .ok (.iaload, 1) := by decide +kernel
theorem dX7_looks_52 : decode cX7_looks 52 = .ok (.iconst (-1), 1) := by decide +kernel
theorem dX7_looks_53 : decode cX7_looks 53 = .ok (.if_icmp .ne 13, 3) := by decide +kernel
theorem dX7_looks_56 : decode cX7_looks 56 = .ok (.aload_n 0, 1) := by decide +kernel
theorem dX7_looks_57 : decode cX7_looks 57 = .ok (.getfield 38, 3) := by decide +kernel
theorem dX7_looks_60 : decode cX7_looks 60 = .ok (.iload_n 3, 1) := by decide +kernel
theorem dX7_looks_61 : decode cX7_looks 61 = .ok (.aload_n 0, 1) := by decide +kernel
theorem dX7_looks_62 : decode cX7_looks 62 = .ok (.getfield 210, 3) := by decide +kernel
theorem dX7_looks_65 : decode cX7_looks 65 = .ok (.iastore, 1) := by decide +kernel
theorem dX7_looks_66 : decode cX7_looks 66 = .ok (.iinc 2 1, 3) := by decide +kernel
theorem dX7_looks_69 : decode cX7_looks 69 = .ok (.goto (-57), 3) := by decide +kernel
theorem dX7_looks_72 : decode cX7_looks 72 = .ok (.iinc 1 1, 3) := by decide +kernel
theorem dX7_looks_75 : decode cX7_looks 75 = .ok (.goto (-73), 3) := by decide +kernel
theorem dX7_looks_78 : decode cX7_looks 78 = .ok (.return_, 1) := by decide +kernel
theorem dX7_sees_0 : decode cX7_sees 0 = .ok (.aload_n 0, 1) := by decide +kernel
theorem dX7_sees_1 : decode cX7_sees 1 = .ok (.getfield 38, 3) := by decide +kernel
theorem dX7_sees_4 : decode cX7_sees 4 = .ok (.bipush 10, 2) := by decide +kernel
theorem dX7_sees_6 : decode cX7_sees 6 = .ok (.iload_n 1, 1) := by decide +kernel
theorem dX7_sees_7 : decode cX7_sees 7 = .ok (.imul, 1) := by decide +kernel
theorem dX7_sees_8 : decode cX7_sees 8 = .ok (.iload_n 2, 1) := by decide +kernel
theorem dX7_sees_9 : decode cX7_sees 9 = .ok (.iadd, 1) := by decide +kernel
theorem dX7_sees_10 : decode cX7_sees 10 = .ok (.iaload, 1) := by decide +kernel
theorem dX7_sees_11 : decode cX7_sees 11 = .ok (.iconst (-1), 1) := by decide +kernel
theorem dX7_sees_12 : decode cX7_sees 12 = .ok (.if_icmp .eq 7, 3) := by decide +kernel
theorem dX7_sees_15 : decode cX7_sees 15 = .ok (.iconst 1, 1) := by decide +kernel
theorem dX7_sees_16 : decode cX7_sees 16 = .ok (.goto 4, 3) := by decide +kernel
theorem dX7_sees_19 : decode cX7_sees 19 = .ok (.iconst 0, 1) := by decide +kernel
theorem dX7_sees_20 : decode cX7_sees 20 = .ok (.ireturn, 1) := by decide +kernel
theorem dX7_since_0 : decode cX7_since 0 = .ok (.aload_n 0, 1) := by decide +kernel
theorem dX7_since_1 : decode cX7_since 1 = .ok (.iload_n 1, 1) := by decide +kernel
theorem dX7_since_2 : decode cX7_since 2 = .ok (.invokevirtual 101, 3) := by decide +kernel
theorem dX7_since_5 : decode cX7_since 5 = .ok (.ifCond .eq 25, 3) := by decide +kernel
theorem dX7_since_8 : decode cX7_since 8 = .ok (.aload_n 0, 1) := by decide +kernel
theorem dX7_since_9 : decode cX7_since 9 = .ok (.iload_n 2, 1) := by decide +kernel
theorem dX7_since_10 : decode cX7_since 10 = .ok (.invokevirtual 101, 3) := by decide +kernel
theorem dX7_since_13 : decode cX7_since 13 = .ok (.ifCond .eq 17, 3) := by decide +kernel
theorem dX7_since_16 : decode cX7_since 16 = .ok (.aload_n 0, 1) := by decide +kernel
theorem dX7_since_17 : decode cX7_since 17 = .ok (.getfield 38, 3) := by decide +kernel
theorem dX7_since_20 : decode cX7_since 20 = .ok (.bipush 10, 2) := by decide +kernel
theorem dX7_since_22 : decode cX7_since 22 = .ok (.iload_n 1, 1) := by decide +kernel
theorem dX7_since_23 : decode cX7_since 23 = .ok (.imul, 1) := by decide +kernel
theorem dX7_since_24 : decode cX7_since 24 = .ok (.iload_n 2, 1) := by decide +kernel
theorem dX7_since_25 : decode cX7_since 25 = .ok (.iadd, 1) := by decide +kernel
theorem dX7_since_26 : decode cX7_since 26 = .ok (.iaload, 1) := by decide +kernel
theorem dX7_since_27 : decode cX7_since 27 = .ok (.goto 8, 3) := by decide +kernel
theorem dX7_since_30 : decode cX7_since 30 = .ok (.aload_n 0, 1) := by decide +kernel
theorem dX7_since_31 : decode cX7_since 31 = .ok (.iconst (-1), 1) := by decide +kernel
theorem dX7_since_32 : decode cX7_since 32 = .ok (.invokevirtual 253, 3) := by decide +kernel
theorem dX7_since_35 : decode cX7_since 35 = .ok (.ireturn, 1) := by decide +kernel
theorem dX7_mourns_0 : decode cX7_mourns 0 = .ok (.aload_n 0, 1) := by decide +kernel
theorem dX7_mourns_1 : decode cX7_mourns 1 = .ok (.getfield 20, 3) := by decide +kernel
theorem dX7_mourns_4 : decode cX7_mourns 4 = .ok (.iload_n 1, 1) := by decide +kernel
theorem dX7_mourns_5 : decode cX7_mourns 5 = .ok (.iaload, 1) := by decide +kernel
theorem dX7_mourns_6 : decode cX7_mourns 6 = .ok (.tableswitch 55 2 6 #[34, 55, 55, 38, 51], 34) := by decide +kernel
theorem dX7_mourns_40 : decode cX7_mourns 40 = .ok (.iload_n 2, 1) := by decide +kernel
theorem dX7_mourns_41 : decode cX7_mourns 41 = .ok (.iconst 2, 1) := by decide +kernel
theorem dX7_mourns_42 : decode cX7_mourns 42 = .ok (.idiv, 1) := by decide +kernel
theorem dX7_mourns_43 : decode cX7_mourns 43 = .ok (.ireturn, 1) := by decide +kernel
theorem dX7_mourns_44 : decode cX7_mourns 44 = .ok (.iload_n 2, 1) := by decide +kernel
theorem dX7_mourns_45 : decode cX7_mourns 45 = .ok (.iconst 2, 1) := by decide +kernel
theorem dX7_mourns_46 : decode cX7_mourns 46 = .ok (.idiv, 1) := by decide +kernel
theorem dX7_mourns_47 : decode cX7_mourns 47 = .ok (.aload_n 0, 1) := by decide +kernel
theorem dX7_mourns_48 : decode cX7_mourns 48 = .ok (.getfield 23, 3) := by decide +kernel
theorem dX7_mourns_51 : decode cX7_mourns 51 = .ok (.iload_n 1, 1) := by decide +kernel
theorem dX7_mourns_52 : decode cX7_mourns 52 = .ok (.iaload, 1) := by decide +kernel
theorem dX7_mourns_53 : decode cX7_mourns 53 = .ok (.invokestatic 232, 3) := by decide +kernel
theorem dX7_mourns_56 : decode cX7_mourns 56 = .ok (.ireturn, 1) := by decide +kernel
theorem dX7_mourns_57 : decode cX7_mourns 57 = .ok (.iconst 2, 1) := by decide +kernel
theorem dX7_mourns_58 : decode cX7_mourns 58 = .ok (.iload_n 2, 1) := by decide +kernel
theorem dX7_mourns_59 : decode cX7_mourns 59 = .ok (.imul, 1) := by decide +kernel
theorem dX7_mourns_60 : decode cX7_mourns 60 = .ok (.ireturn, 1) := by decide +kernel
theorem dX7_mourns_61 : decode cX7_mourns 61 = .ok (.iload_n 2, 1) := by decide +kernel
theorem dX7_mourns_62 : decode cX7_mourns 62 = .ok (.ireturn, 1) := by decide +kernel
theorem dX7_mourning_0 : decode cX7_mourning 0 = .ok (.iconst 0, 1) := by decide +kernel
theorem dX7_mourning_1 : decode cX7_mourning 1 = .ok (.istore_n 1, 1) := by decide +kernel
theorem dX7_mourning_2 : decode cX7_mourning 2 = .ok (.iconst 0, 1) := by decide +kernel
theorem dX7_mourning_3 : decode cX7_mourning 3 = .ok (.istore_n 2, 1) := by decide +kernel
theorem dX7_mourning_4 : decode cX7_mourning 4 = .ok (.iload_n 2, 1) := by decide +kernel
theorem dX7_mourning_5 : decode cX7_mourning 5 = .ok (.aload_n 0, 1) := by decide +kernel
theorem dX7_mourning_6 : decode cX7_mourning 6 = .ok (.getfield 94, 3) := by decide +kernel
theorem dX7_mourning_9 : decode cX7_mourning 9 = .ok (.if_icmp .ge 37, 3) := by decide +kernel
theorem dX7_mourning_12 : decode cX7_mourning 12 = .ok (.aload_n 0, 1) := by decide +kernel
theorem dX7_mourning_13 : decode cX7_mourning 13 = .ok (.getfield 32, 3) := by decide +kernel
theorem dX7_mourning_16 : decode cX7_mourning 16 = .ok (.iload_n 2, 1) := by decide +kernel
theorem dX7_mourning_17 : decode cX7_mourning 17 = .ok (.iaload, 1) := by decide +kernel
theorem dX7_mourning_18 : decode cX7_mourning 18 = .ok (.iconst 1, 1) := by decide +kernel
theorem dX7_mourning_19 : decode cX7_mourning 19 = .ok (.if_icmp .ne 21, 3) := by decide +kernel
theorem dX7_mourning_22 : decode cX7_mourning 22 = .ok (.iload_n 1, 1) := by decide +kernel
theorem dX7_mourning_23 : decode cX7_mourning 23 = .ok (.iconst 0, 1) := by decide +kernel
theorem dX7_mourning_24 : decode cX7_mourning 24 = .ok (.aload_n 0, 1) := by decide +kernel
theorem dX7_mourning_25 : decode cX7_mourning 25 = .ok (.getfield 35, 3) := by decide +kernel
theorem dX7_mourning_28 : decode cX7_mourning 28 = .ok (.iload_n 2, 1) := by decide +kernel
theorem dX7_mourning_29 : decode cX7_mourning 29 = .ok (.iaload, 1) := by decide +kernel
theorem dX7_mourning_30 : decode cX7_mourning 30 = .ok (.aload_n 0, 1) := by decide +kernel
theorem dX7_mourning_31 : decode cX7_mourning 31 = .ok (.getfield 210, 3) := by decide +kernel
theorem dX7_mourning_34 : decode cX7_mourning 34 = .ok (.isub, 1) := by decide +kernel
theorem dX7_mourning_35 : decode cX7_mourning 35 = .ok (.invokestatic 237, 3) := by decide +kernel
theorem dX7_mourning_38 : decode cX7_mourning 38 = .ok (.iadd, 1) := by decide +kernel
theorem dX7_mourning_39 : decode cX7_mourning 39 = .ok (.istore_n 1, 1) := by decide +kernel
theorem dX7_mourning_40 : decode cX7_mourning 40 = .ok (.iinc 2 1, 3) := by decide +kernel
theorem dX7_mourning_43 : decode cX7_mourning 43 = .ok (.goto (-39), 3) := by decide +kernel
theorem dX7_mourning_46 : decode cX7_mourning 46 = .ok (.iload_n 1, 1) := by decide +kernel
theorem dX7_mourning_47 : decode cX7_mourning 47 = .ok (.ireturn, 1) := by decide +kernel
theorem dX7_loses_0 : decode cX7_loses 0 = .ok (.aload_n 0, 1) := by decide +kernel
theorem dX7_loses_1 : decode cX7_loses 1 = .ok (.invokevirtual 256, 3) := by decide +kernel
theorem dX7_loses_4 : decode cX7_loses 4 = .ok (.iconst 0, 1) := by decide +kernel
theorem dX7_loses_5 : decode cX7_loses 5 = .ok (.aload_n 0, 1) := by decide +kernel
theorem dX7_loses_6 : decode cX7_loses 6 = .ok (.getfield 35, 3) := by decide +kernel
theorem dX7_loses_9 : decode cX7_loses 9 = .ok (.iload_n 1, 1) := by decide +kernel
theorem dX7_loses_10 : decode cX7_loses 10 = .ok (.iaload, 1) := by decide +kernel
theorem dX7_loses_11 : decode cX7_loses 11 = .ok (.aload_n 0, 1) := by decide +kernel
theorem dX7_loses_12 : decode cX7_loses 12 = .ok (.getfield 210, 3) := by decide +kernel
theorem dX7_loses_15 : decode cX7_loses 15 = .ok (.isub, 1) := by decide +kernel
theorem dX7_loses_16 : decode cX7_loses 16 = .ok (.invokestatic 237, 3) := by decide +kernel
theorem dX7_loses_19 : decode cX7_loses 19 = .ok (.isub, 1) := by decide +kernel
theorem dX7_loses_20 : decode cX7_loses 20 = .ok (.istore_n 2, 1) := by decide +kernel
theorem dX7_loses_21 : decode cX7_loses 21 = .ok (.iconst 0, 1) := by decide +kernel
theorem dX7_loses_22 : decode cX7_loses 22 = .ok (.istore_n 3, 1) := by decide +kernel
theorem dX7_loses_23 : decode cX7_loses 23 = .ok (.iload_n 3, 1) := by decide +kernel
theorem dX7_loses_24 : decode cX7_loses 24 = .ok (.aload_n 0, 1) := by decide +kernel
theorem dX7_loses_25 : decode cX7_loses 25 = .ok (.getfield 94, 3) := by decide +kernel
theorem dX7_loses_28 : decode cX7_loses 28 = .ok (.if_icmp .ge 59, 3) := by decide +kernel
theorem dX7_loses_31 : decode cX7_loses 31 = .ok (.aload_n 0, 1) := by decide +kernel
theorem dX7_loses_32 : decode cX7_loses 32 = .ok (.iload_n 3, 1) := by decide +kernel
theorem dX7_loses_33 : decode cX7_loses 33 = .ok (.iload_n 1, 1) := by decide +kernel
theorem dX7_loses_34 : decode cX7_loses 34 = .ok (.invokevirtual 160, 3) := by decide +kernel
theorem dX7_loses_37 : decode cX7_loses 37 = .ok (.ifCond .eq 44, 3) := by decide +kernel
theorem dX7_loses_40 : decode cX7_loses 40 = .ok (.aload_n 0, 1) := by decide +kernel
theorem dX7_loses_41 : decode cX7_loses 41 = .ok (.getfield 35, 3) := by decide +kernel
theorem dX7_loses_44 : decode cX7_loses 44 = .ok (.iload_n 3, 1) := by decide +kernel
theorem dX7_loses_45 : decode cX7_loses 45 = .ok (.aload_n 0, 1) := by decide +kernel
theorem dX7_loses_46 : decode cX7_loses 46 = .ok (.getfield 35, 3) := by decide +kernel
theorem dX7_loses_49 : decode cX7_loses 49 = .ok (.iload_n 3, 1) := by decide +kernel
theorem dX7_loses_50 : decode cX7_loses 50 = .ok (.iaload, 1) := by decide +kernel
theorem dX7_loses_51 : decode cX7_loses 51 = .ok (.aload_n 0, 1) := by decide +kernel
theorem dX7_loses_52 : decode cX7_loses 52 = .ok (.getfield 210, 3) := by decide +kernel
theorem dX7_loses_55 : decode cX7_loses 55 = .ok (.aload_n 0, 1) := by decide +kernel
theorem dX7_loses_56 : decode cX7_loses 56 = .ok (.iload_n 3, 1) := by decide +kernel
theorem dX7_loses_57 : decode cX7_loses 57 = .ok (.aload_n 0, 1) := by decide +kernel
theorem dX7_loses_58 : decode cX7_loses 58 = .ok (.getfield 210, 3) := by decide +kernel
theorem dX7_loses_61 : decode cX7_loses 61 = .ok (.aload_n 0, 1) := by decide +kernel
theorem dX7_loses_62 : decode cX7_loses 62 = .ok (.getfield 38, 3) := by decide +kernel
theorem dX7_loses_65 : decode cX7_loses 65 = .ok (.bipush 10, 2) := by decide +kernel
theorem dX7_loses_67 : decode cX7_loses 67 = .ok (.iload_n 3, 1) := by decide +kernel
theorem dX7_loses_68 : decode cX7_loses 68 = .ok (.imul, 1) := by decide +kernel
theorem dX7_loses_69 : decode cX7_loses 69 = .ok (.iload_n 1, 1) := by decide +kernel
theorem dX7_loses_70 : decode cX7_loses 70 = .ok (.iadd, 1) := by decide +kernel
theorem dX7_loses_71 : decode cX7_loses 71 = .ok (.iaload, 1) := by decide +kernel
theorem dX7_loses_72 : decode cX7_loses 72 = .ok (.isub, 1) := by decide +kernel
theorem dX7_loses_73 : decode cX7_loses 73 = .ok (.invokevirtual 128, 3) := by decide +kernel
theorem dX7_loses_76 : decode cX7_loses 76 = .ok (.iadd, 1) := by decide +kernel
theorem dX7_loses_77 : decode cX7_loses 77 = .ok (.invokestatic 237, 3) := by decide +kernel
theorem dX7_loses_80 : decode cX7_loses 80 = .ok (.iastore, 1) := by decide +kernel
theorem dX7_loses_81 : decode cX7_loses 81 = .ok (.iinc 3 1, 3) := by decide +kernel
theorem dX7_loses_84 : decode cX7_loses 84 = .ok (.goto (-61), 3) := by decide +kernel
theorem dX7_loses_87 : decode cX7_loses 87 = .ok (.aload_n 0, 1) := by decide +kernel
theorem dX7_loses_88 : decode cX7_loses 88 = .ok (.getfield 32, 3) := by decide +kernel
theorem dX7_loses_91 : decode cX7_loses 91 = .ok (.iload_n 1, 1) := by decide +kernel
theorem dX7_loses_92 : decode cX7_loses 92 = .ok (.iconst 0, 1) := by decide +kernel
theorem dX7_loses_93 : decode cX7_loses 93 = .ok (.iastore, 1) := by decide +kernel
theorem dX7_loses_94 : decode cX7_loses 94 = .ok (.aload_n 0, 1) := by decide +kernel
theorem dX7_loses_95 : decode cX7_loses 95 = .ok (.invokevirtual 132, 3) := by decide +kernel
theorem dX7_loses_98 : decode cX7_loses 98 = .ok (.aload_n 0, 1) := by decide +kernel
theorem dX7_loses_99 : decode cX7_loses 99 = .ok (.invokevirtual 256, 3) := by decide +kernel
theorem dX7_loses_102 : decode cX7_loses 102 = .ok (.iload_n 2, 1) := by decide +kernel
theorem dX7_loses_103 : decode cX7_loses 103 = .ok (.isub, 1) := by decide +kernel
theorem dX7_loses_104 : decode cX7_loses 104 = .ok (.ireturn, 1) := by decide +kernel
theorem dX7_mourners_0 : decode cX7_mourners 0 = .ok (.iconst 0, 1) := by decide +kernel
theorem dX7_mourners_1 : decode cX7_mourners 1 = .ok (.istore_n 1, 1) := by decide +kernel
theorem dX7_mourners_2 : decode cX7_mourners 2 = .ok (.iconst 0, 1) := by decide +kernel
theorem dX7_mourners_3 : decode cX7_mourners 3 = .ok (.istore_n 2, 1) := by decide +kernel
theorem dX7_mourners_4 : decode cX7_mourners 4 = .ok (.iload_n 2, 1) := by decide +kernel
theorem dX7_mourners_5 : decode cX7_mourners 5 = .ok (.aload_n 0, 1) := by decide +kernel
theorem dX7_mourners_6 : decode cX7_mourners 6 = .ok (.getfield 94, 3) := by decide +kernel
theorem dX7_mourners_9 : decode cX7_mourners 9 = .ok (.if_icmp .ge 38, 3) := by decide +kernel
theorem dX7_mourners_12 : decode cX7_mourners 12 = .ok (.aload_n 0, 1) := by decide +kernel
theorem dX7_mourners_13 : decode cX7_mourners 13 = .ok (.getfield 32, 3) := by decide +kernel
theorem dX7_mourners_16 : decode cX7_mourners 16 = .ok (.iload_n 2, 1) := by decide +kernel
theorem dX7_mourners_17 : decode cX7_mourners 17 = .ok (.iaload, 1) := by decide +kernel
theorem dX7_mourners_18 : decode cX7_mourners 18 = .ok (.iconst 1, 1) := by decide +kernel
theorem dX7_mourners_19 : decode cX7_mourners 19 = .ok (.if_icmp .ne 22, 3) := by decide +kernel
theorem dX7_mourners_22 : decode cX7_mourners 22 = .ok (.aload_n 0, 1) := by decide +kernel
theorem dX7_mourners_23 : decode cX7_mourners 23 = .ok (.getfield 210, 3) := by decide +kernel
theorem dX7_mourners_26 : decode cX7_mourners 26 = .ok (.aload_n 0, 1) := by decide +kernel
theorem dX7_mourners_27 : decode cX7_mourners 27 = .ok (.getfield 35, 3) := by decide +kernel
theorem dX7_mourners_30 : decode cX7_mourners 30 = .ok (.iload_n 2, 1) := by decide +kernel
theorem dX7_mourners_31 : decode cX7_mourners 31 = .ok (.iaload, 1) := by decide +kernel
theorem dX7_mourners_32 : decode cX7_mourners 32 = .ok (.if_icmp .ge 9, 3) := by decide +kernel
theorem dX7_mourners_35 : decode cX7_mourners 35 = .ok (.iload_n 1, 1) := by decide +kernel
theorem dX7_mourners_36 : decode cX7_mourners 36 = .ok (.iconst 1, 1) := by decide +kernel
theorem dX7_mourners_37 : decode cX7_mourners 37 = .ok (.iload_n 2, 1) := by decide +kernel
theorem dX7_mourners_38 : decode cX7_mourners 38 = .ok (.ishl, 1) := by decide +kernel
theorem dX7_mourners_39 : decode cX7_mourners 39 = .ok (.ior, 1) := by decide +kernel
theorem dX7_mourners_40 : decode cX7_mourners 40 = .ok (.istore_n 1, 1) := by decide +kernel
theorem dX7_mourners_41 : decode cX7_mourners 41 = .ok (.iinc 2 1, 3) := by decide +kernel
theorem dX7_mourners_44 : decode cX7_mourners 44 = .ok (.goto (-40), 3) := by decide +kernel
theorem dX7_mourners_47 : decode cX7_mourners 47 = .ok (.iload_n 1, 1) := by decide +kernel
theorem dX7_mourners_48 : decode cX7_mourners 48 = .ok (.ireturn, 1) := by decide +kernel
theorem dX7_seesAny_0 : decode cX7_seesAny 0 = .ok (.iconst 0, 1) := by decide +kernel
theorem dX7_seesAny_1 : decode cX7_seesAny 1 = .ok (.istore_n 3, 1) := by decide +kernel
theorem dX7_seesAny_2 : decode cX7_seesAny 2 = .ok (.iload_n 3, 1) := by decide +kernel
theorem dX7_seesAny_3 : decode cX7_seesAny 3 = .ok (.aload_n 0, 1) := by decide +kernel
theorem dX7_seesAny_4 : decode cX7_seesAny 4 = .ok (.getfield 94, 3) := by decide +kernel
theorem dX7_seesAny_7 : decode cX7_seesAny 7 = .ok (.if_icmp .ge 28, 3) := by decide +kernel
theorem dX7_seesAny_10 : decode cX7_seesAny 10 = .ok (.iload_n 2, 1) := by decide +kernel
theorem dX7_seesAny_11 : decode cX7_seesAny 11 = .ok (.iload_n 3, 1) := by decide +kernel
theorem dX7_seesAny_12 : decode cX7_seesAny 12 = .ok (.invokestatic 125, 3) := by decide +kernel
theorem dX7_seesAny_15 : decode cX7_seesAny 15 = .ok (.ifCond .eq 14, 3) := by decide +kernel
theorem dX7_seesAny_18 : decode cX7_seesAny 18 = .ok (.aload_n 0, 1) := by decide +kernel
theorem dX7_seesAny_19 : decode cX7_seesAny 19 = .ok (.iload_n 1, 1) := by decide +kernel
theorem dX7_seesAny_20 : decode cX7_seesAny 20 = .ok (.iload_n 3, 1) := by decide +kernel
theorem dX7_seesAny_21 : decode cX7_seesAny 21 = .ok (.invokevirtual 160, 3) := by decide +kernel
theorem dX7_seesAny_24 : decode cX7_seesAny 24 = .ok (.ifCond .eq 5, 3) := by decide +kernel
theorem dX7_seesAny_27 : decode cX7_seesAny 27 = .ok (.iconst 1, 1) := by decide +kernel
theorem dX7_seesAny_28 : decode cX7_seesAny 28 = .ok (.ireturn, 1) := by decide +kernel
theorem dX7_seesAny_29 : decode cX7_seesAny 29 = .ok (.iinc 3 1, 3) := by decide +kernel
theorem dX7_seesAny_32 : decode cX7_seesAny 32 = .ok (.goto (-30), 3) := by decide +kernel
theorem dX7_seesAny_35 : decode cX7_seesAny 35 = .ok (.iconst 0, 1) := by decide +kernel
theorem dX7_seesAny_36 : decode cX7_seesAny 36 = .ok (.ireturn, 1) := by decide +kernel
theorem dX7_blacks_0 : decode cX7_blacks 0 = .ok (.aload_n 0, 1) := by decide +kernel
theorem dX7_blacks_1 : decode cX7_blacks 1 = .ok (.invokevirtual 259, 3) := by decide +kernel
theorem dX7_blacks_4 : decode cX7_blacks 4 = .ok (.istore_n 1, 1) := by decide +kernel
theorem dX7_blacks_5 : decode cX7_blacks 5 = .ok (.iload_n 1, 1) := by decide +kernel
theorem dX7_blacks_6 : decode cX7_blacks 6 = .ok (.istore_n 2, 1) := by decide +kernel
theorem dX7_blacks_7 : decode cX7_blacks 7 = .ok (.iconst 0, 1) := by decide +kernel
theorem dX7_blacks_8 : decode cX7_blacks 8 = .ok (.istore_n 3, 1) := by decide +kernel
theorem dX7_blacks_9 : decode cX7_blacks 9 = .ok (.iload_n 3, 1) := by decide +kernel
theorem dX7_blacks_10 : decode cX7_blacks 10 = .ok (.aload_n 0, 1) := by decide +kernel
theorem dX7_blacks_11 : decode cX7_blacks 11 = .ok (.getfield 94, 3) := by decide +kernel
theorem dX7_blacks_14 : decode cX7_blacks 14 = .ok (.if_icmp .ge 37, 3) := by decide +kernel
theorem dX7_blacks_17 : decode cX7_blacks 17 = .ok (.aload_n 0, 1) := by decide +kernel
theorem dX7_blacks_18 : decode cX7_blacks 18 = .ok (.getfield 20, 3) := by decide +kernel
theorem dX7_blacks_21 : decode cX7_blacks 21 = .ok (.iload_n 3, 1) := by decide +kernel
theorem dX7_blacks_22 : decode cX7_blacks 22 = .ok (.iaload, 1) := by decide +kernel
theorem dX7_blacks_23 : decode cX7_blacks 23 = .ok (.iconst 1, 1) := by decide +kernel
theorem dX7_blacks_24 : decode cX7_blacks 24 = .ok (.invokestatic 117, 3) := by decide +kernel
theorem dX7_blacks_27 : decode cX7_blacks 27 = .ok (.ifCond .eq 18, 3) := by decide +kernel
theorem dX7_blacks_30 : decode cX7_blacks 30 = .ok (.aload_n 0, 1) := by decide +kernel
theorem dX7_blacks_31 : decode cX7_blacks 31 = .ok (.iload_n 3, 1) := by decide +kernel
theorem dX7_blacks_32 : decode cX7_blacks 32 = .ok (.iload_n 1, 1) := by decide +kernel
theorem dX7_blacks_33 : decode cX7_blacks 33 = .ok (.invokevirtual 262, 3) := by decide +kernel
theorem dX7_blacks_36 : decode cX7_blacks 36 = .ok (.ifCond .eq 9, 3) := by decide +kernel
theorem dX7_blacks_39 : decode cX7_blacks 39 = .ok (.iload_n 2, 1) := by decide +kernel
theorem dX7_blacks_40 : decode cX7_blacks 40 = .ok (.iconst 1, 1) := by decide +kernel
theorem dX7_blacks_41 : decode cX7_blacks 41 = .ok (.iload_n 3, 1) := by decide +kernel
theorem dX7_blacks_42 : decode cX7_blacks 42 = .ok (.ishl, 1) := by decide +kernel
theorem dX7_blacks_43 : decode cX7_blacks 43 = .ok (.ior, 1) := by decide +kernel
theorem dX7_blacks_44 : decode cX7_blacks 44 = .ok (.istore_n 2, 1) := by decide +kernel
theorem dX7_blacks_45 : decode cX7_blacks 45 = .ok (.iinc 3 1, 3) := by decide +kernel
theorem dX7_blacks_48 : decode cX7_blacks 48 = .ok (.goto (-39), 3) := by decide +kernel
theorem dX7_blacks_51 : decode cX7_blacks 51 = .ok (.iconst (-1), 1) := by decide +kernel
theorem dX7_blacks_52 : decode cX7_blacks 52 = .ok (.istore_n 3, 1) := by decide +kernel
theorem dX7_blacks_53 : decode cX7_blacks 53 = .ok (.iload_n 2, 1) := by decide +kernel
theorem dX7_blacks_54 : decode cX7_blacks 54 = .ok (.iload_n 3, 1) := by decide +kernel
theorem dX7_blacks_55 : decode cX7_blacks 55 = .ok (.if_icmp .eq 54, 3) := by decide +kernel
theorem dX7_blacks_58 : decode cX7_blacks 58 = .ok (.iload_n 2, 1) := by decide +kernel
theorem dX7_blacks_59 : decode cX7_blacks 59 = .ok (.istore_n 3, 1) := by decide +kernel
theorem dX7_blacks_60 : decode cX7_blacks 60 = .ok (.iconst 0, 1) := by decide +kernel
theorem dX7_blacks_61 : decode cX7_blacks 61 = .ok (.istore 4, 2) := by decide +kernel
theorem dX7_blacks_63 : decode cX7_blacks 63 = .ok (.iload 4, 2) := by decide +kernel
theorem dX7_blacks_65 : decode cX7_blacks 65 = .ok (.aload_n 0, 1) := by decide +kernel
theorem dX7_blacks_66 : decode cX7_blacks 66 = .ok (.getfield 94, 3) := by decide +kernel
theorem dX7_blacks_69 : decode cX7_blacks 69 = .ok (.if_icmp .ge 37, 3) := by decide +kernel
theorem dX7_blacks_72 : decode cX7_blacks 72 = .ok (.aload_n 0, 1) := by decide +kernel
theorem dX7_blacks_73 : decode cX7_blacks 73 = .ok (.getfield 20, 3) := by decide +kernel
theorem dX7_blacks_76 : decode cX7_blacks 76 = .ok (.iload 4, 2) := by decide +kernel
theorem dX7_blacks_78 : decode cX7_blacks 78 = .ok (.iaload, 1) := by decide +kernel
theorem dX7_blacks_79 : decode cX7_blacks 79 = .ok (.iconst 3, 1) := by decide +kernel
theorem dX7_blacks_80 : decode cX7_blacks 80 = .ok (.if_icmp .ne 20, 3) := by decide +kernel
theorem dX7_blacks_83 : decode cX7_blacks 83 = .ok (.aload_n 0, 1) := by decide +kernel
theorem dX7_blacks_84 : decode cX7_blacks 84 = .ok (.iload 4, 2) := by decide +kernel
theorem dX7_blacks_86 : decode cX7_blacks 86 = .ok (.iload_n 3, 1) := by decide +kernel
theorem dX7_blacks_87 : decode cX7_blacks 87 = .ok (.invokevirtual 262, 3) := by decide +kernel
theorem dX7_blacks_90 : decode cX7_blacks 90 = .ok (.ifCond .eq 10, 3) := by decide +kernel
theorem dX7_blacks_93 : decode cX7_blacks 93 = .ok (.iload_n 2, 1) := by decide +kernel
theorem dX7_blacks_94 : decode cX7_blacks 94 = .ok (.iconst 1, 1) := by decide +kernel
theorem dX7_blacks_95 : decode cX7_blacks 95 = .ok (.iload 4, 2) := by decide +kernel
theorem dX7_blacks_97 : decode cX7_blacks 97 = .ok (.ishl, 1) := by decide +kernel
theorem dX7_blacks_98 : decode cX7_blacks 98 = .ok (.ior, 1) := by decide +kernel
theorem dX7_blacks_99 : decode cX7_blacks 99 = .ok (.istore_n 2, 1) := by decide +kernel
theorem dX7_blacks_100 : decode cX7_blacks 100 = .ok (.iinc 4 1, 3) := by decide +kernel
theorem dX7_blacks_103 : decode cX7_blacks 103 = .ok (.goto (-40), 3) := by decide +kernel
theorem dX7_blacks_106 : decode cX7_blacks 106 = .ok (.goto (-53), 3) := by decide +kernel
theorem dX7_blacks_109 : decode cX7_blacks 109 = .ok (.iload_n 2, 1) := by decide +kernel
theorem dX7_blacks_110 : decode cX7_blacks 110 = .ok (.ireturn, 1) := by decide +kernel
theorem dX7_gives_0 : decode cX7_gives 0 = .ok (.aload_n 0, 1) := by decide +kernel
theorem dX7_gives_1 : decode cX7_gives 1 = .ok (.getfield 50, 3) := by decide +kernel
theorem dX7_gives_4 : decode cX7_gives 4 = .ok (.iload_n 1, 1) := by decide +kernel
theorem dX7_gives_5 : decode cX7_gives 5 = .ok (.iaload, 1) := by decide +kernel
theorem dX7_gives_6 : decode cX7_gives 6 = .ok (.iload_n 2, 1) := by decide +kernel
theorem dX7_gives_7 : decode cX7_gives 7 = .ok (.iand, 1) := by decide +kernel
theorem dX7_gives_8 : decode cX7_gives 8 = .ok (.ifCond .ne 12, 3) := by decide +kernel
theorem dX7_gives_11 : decode cX7_gives 11 = .ok (.aload_n 0, 1) := by decide +kernel
theorem dX7_gives_12 : decode cX7_gives 12 = .ok (.getfield 47, 3) := by decide +kernel
theorem dX7_gives_15 : decode cX7_gives 15 = .ok (.iload_n 1, 1) := by decide +kernel
theorem dX7_gives_16 : decode cX7_gives 16 = .ok (.iaload, 1) := by decide +kernel
theorem dX7_gives_17 : decode cX7_gives 17 = .ok (.goto 4, 3) := by decide +kernel
theorem dX7_gives_20 : decode cX7_gives 20 = .ok (.iconst 0, 1) := by decide +kernel
theorem dX7_gives_21 : decode cX7_gives 21 = .ok (.ireturn, 1) := by decide +kernel
theorem dX7_allMilk_0 : decode cX7_allMilk 0 = .ok (.aload_n 0, 1) := by decide +kernel
theorem dX7_allMilk_1 : decode cX7_allMilk 1 = .ok (.invokevirtual 121, 3) := by decide +kernel
theorem dX7_allMilk_4 : decode cX7_allMilk 4 = .ok (.istore_n 1, 1) := by decide +kernel
theorem dX7_allMilk_5 : decode cX7_allMilk 5 = .ok (.iconst 0, 1) := by decide +kernel
theorem dX7_allMilk_6 : decode cX7_allMilk 6 = .ok (.istore_n 2, 1) := by decide +kernel
theorem dX7_allMilk_7 : decode cX7_allMilk 7 = .ok (.iconst 0, 1) := by decide +kernel
theorem dX7_allMilk_8 : decode cX7_allMilk 8 = .ok (.istore_n 3, 1) := by decide +kernel
theorem dX7_allMilk_9 : decode cX7_allMilk 9 = .ok (.iload_n 3, 1) := by decide +kernel
theorem dX7_allMilk_10 : decode cX7_allMilk 10 = .ok (.aload_n 0, 1) := by decide +kernel
theorem dX7_allMilk_11 : decode cX7_allMilk 11 = .ok (.getfield 105, 3) := by decide +kernel
theorem dX7_allMilk_14 : decode cX7_allMilk 14 = .ok (.if_icmp .ge 18, 3) := by decide +kernel
theorem dX7_allMilk_17 : decode cX7_allMilk 17 = .ok (.iload_n 2, 1) := by decide +kernel
theorem dX7_allMilk_18 : decode cX7_allMilk 18 = .ok (.aload_n 0, 1) := by decide +kernel
theorem dX7_allMilk_19 : decode cX7_allMilk 19 = .ok (.iload_n 3, 1) := by decide +kernel
theorem dX7_allMilk_20 : decode cX7_allMilk 20 = .ok (.iload_n 1, 1) := by decide +kernel
theorem dX7_allMilk_21 : decode cX7_allMilk 21 = .ok (.invokevirtual 163, 3) := by decide +kernel
theorem dX7_allMilk_24 : decode cX7_allMilk 24 = .ok (.iadd, 1) := by decide +kernel
theorem dX7_allMilk_25 : decode cX7_allMilk 25 = .ok (.istore_n 2, 1) := by decide +kernel
theorem dX7_allMilk_26 : decode cX7_allMilk 26 = .ok (.iinc 3 1, 3) := by decide +kernel
theorem dX7_allMilk_29 : decode cX7_allMilk 29 = .ok (.goto (-20), 3) := by decide +kernel
theorem dX7_allMilk_32 : decode cX7_allMilk 32 = .ok (.iload_n 2, 1) := by decide +kernel
theorem dX7_allMilk_33 : decode cX7_allMilk 33 = .ok (.ireturn, 1) := by decide +kernel
theorem dX7_isYears_0 : decode cX7_isYears 0 = .ok (.iload_n 0, 1) := by decide +kernel
theorem dX7_isYears_1 : decode cX7_isYears 1 = .ok (.iconst 0, 1) := by decide +kernel
theorem dX7_isYears_2 : decode cX7_isYears 2 = .ok (.sipush 999, 3) := by decide +kernel
theorem dX7_isYears_5 : decode cX7_isYears 5 = .ok (.invokestatic 97, 3) := by decide +kernel
theorem dX7_isYears_8 : decode cX7_isYears 8 = .ok (.ireturn, 1) := by decide +kernel
