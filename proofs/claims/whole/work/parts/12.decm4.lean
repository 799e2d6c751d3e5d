theorem dMo_square_20 : decode bMo_square 20 = .ok (.getfield 29, 3) := by decide +kernel
theorem dMo_square_23 : decode bMo_square 23 = .ok (.iload_n 1, 1) := by decide +kernel
theorem dMo_square_24 : decode bMo_square 24 = .ok (.iaload, 1) := by decide +kernel
theorem dMo_square_25 : decode bMo_square 25 = .ok (.iload_n 3, 1) := by decide +kernel
theorem dMo_square_26 : decode bMo_square 26 = .ok (.isub, 1) := by decide +kernel
theorem dMo_square_27 : decode bMo_square 27 = .ok (.i2l, 1) := by decide +kernel
theorem dMo_square_28 : decode bMo_square 28 = .ok (.aload_n 0, 1) := by decide +kernel
theorem dMo_square_29 : decode bMo_square 29 = .ok (.getfield 29, 3) := by decide +kernel
theorem dMo_square_32 : decode bMo_square 32 = .ok (.iload_n 1, 1) := by decide +kernel
theorem dMo_square_33 : decode bMo_square 33 = .ok (.iaload, 1) := by decide +kernel
theorem dMo_square_34 : decode bMo_square 34 = .ok (.iload_n 3, 1) := by decide +kernel
theorem dMo_square_35 : decode bMo_square 35 = .ok (.isub, 1) := by decide +kernel
theorem dMo_square_36 : decode bMo_square 36 = .ok (.i2l, 1) := by decide +kernel
theorem dMo_square_37 : decode bMo_square 37 = .ok (.lmul, 1) := by decide +kernel
theorem dMo_square_38 : decode bMo_square 38 = .ok (.ladd, 1) := by decide +kernel
theorem dMo_square_39 : decode bMo_square 39 = .ok (.lreturn, 1) := by decide +kernel
theorem dMo_nearHaul_0 : decode bMo_nearHaul 0 = .ok (.iconst (-1), 1) := by decide +kernel
theorem dMo_nearHaul_1 : decode bMo_nearHaul 1 = .ok (.istore 4, 2) := by decide +kernel
theorem dMo_nearHaul_3 : decode bMo_nearHaul 3 = .ok (.aload_n 0, 1) := by decide +kernel
theorem dMo_nearHaul_4 : decode bMo_nearHaul 4 = .ok (.getfield 107, 3) := by decide +kernel
theorem dMo_nearHaul_7 : decode bMo_nearHaul 7 = .ok (.iconst 1, 1) := by decide +kernel
theorem dMo_nearHaul_8 : decode bMo_nearHaul 8 = .ok (.isub, 1) := by decide +kernel
theorem dMo_nearHaul_9 : decode bMo_nearHaul 9 = .ok (.istore 5, 2) := by decide +kernel
theorem dMo_nearHaul_11 : decode bMo_nearHaul 11 = .ok (.iload 5, 2) := by decide +kernel
theorem dMo_nearHaul_13 : decode bMo_nearHaul 13 = .ok (.ifCond .lt (61), 3) := by decide +kernel
theorem dMo_nearHaul_16 : decode bMo_nearHaul 16 = .ok (.iload 5, 2) := by decide +kernel
theorem dMo_nearHaul_18 : decode bMo_nearHaul 18 = .ok (.iload_n 3, 1) := by decide +kernel
theorem dMo_nearHaul_19 : decode bMo_nearHaul 19 = .ok (.if_icmp .eq (45), 3) := by decide +kernel
theorem dMo_nearHaul_22 : decode bMo_nearHaul 22 = .ok (.aload_n 0, 1) := by decide +kernel
theorem dMo_nearHaul_23 : decode bMo_nearHaul 23 = .ok (.iload 5, 2) := by decide +kernel
theorem dMo_nearHaul_25 : decode bMo_nearHaul 25 = .ok (.invokevirtual 110, 3) := by decide +kernel
theorem dMo_nearHaul_28 : decode bMo_nearHaul 28 = .ok (.lconst 0, 1) := by decide +kernel
theorem dMo_nearHaul_29 : decode bMo_nearHaul 29 = .ok (.lcmp, 1) := by decide +kernel
theorem dMo_nearHaul_30 : decode bMo_nearHaul 30 = .ok (.ifCond .le (34), 3) := by decide +kernel
theorem dMo_nearHaul_33 : decode bMo_nearHaul 33 = .ok (.iload 4, 2) := by decide +kernel
theorem dMo_nearHaul_35 : decode bMo_nearHaul 35 = .ok (.iconst (-1), 1) := by decide +kernel
theorem dMo_nearHaul_36 : decode bMo_nearHaul 36 = .ok (.if_icmp .eq (23), 3) := by decide +kernel
theorem dMo_nearHaul_39 : decode bMo_nearHaul 39 = .ok (.aload_n 0, 1) := by decide +kernel
theorem dMo_nearHaul_40 : decode bMo_nearHaul 40 = .ok (.iload 5, 2) := by decide +kernel
theorem dMo_nearHaul_42 : decode bMo_nearHaul 42 = .ok (.iload_n 1, 1) := by decide +kernel
theorem dMo_nearHaul_43 : decode bMo_nearHaul 43 = .ok (.iload_n 2, 1) := by decide +kernel
theorem dMo_nearHaul_44 : decode bMo_nearHaul 44 = .ok (.invokevirtual 114, 3) := by decide +kernel
theorem dMo_nearHaul_47 : decode bMo_nearHaul 47 = .ok (.aload_n 0, 1) := by decide +kernel
theorem dMo_nearHaul_48 : decode bMo_nearHaul 48 = .ok (.iload 4, 2) := by decide +kernel
theorem dMo_nearHaul_50 : decode bMo_nearHaul 50 = .ok (.iload_n 1, 1) := by decide +kernel
theorem dMo_nearHaul_51 : decode bMo_nearHaul 51 = .ok (.iload_n 2, 1) := by decide +kernel
theorem dMo_nearHaul_52 : decode bMo_nearHaul 52 = .ok (.invokevirtual 114, 3) := by decide +kernel
theorem dMo_nearHaul_55 : decode bMo_nearHaul 55 = .ok (.lcmp, 1) := by decide +kernel
theorem dMo_nearHaul_56 : decode bMo_nearHaul 56 = .ok (.ifCond .gt (8), 3) := by decide +kernel
theorem dMo_nearHaul_59 : decode bMo_nearHaul 59 = .ok (.iload 5, 2) := by decide +kernel
theorem dMo_nearHaul_61 : decode bMo_nearHaul 61 = .ok (.goto (5), 3) := by decide +kernel
theorem dMo_nearHaul_64 : decode bMo_nearHaul 64 = .ok (.iload 4, 2) := by decide +kernel
theorem dMo_nearHaul_66 : decode bMo_nearHaul 66 = .ok (.istore 4, 2) := by decide +kernel
theorem dMo_nearHaul_68 : decode bMo_nearHaul 68 = .ok (.iinc 5 (-1), 3) := by decide +kernel
theorem dMo_nearHaul_71 : decode bMo_nearHaul 71 = .ok (.goto (-60), 3) := by decide +kernel
theorem dMo_nearHaul_74 : decode bMo_nearHaul 74 = .ok (.iload 4, 2) := by decide +kernel
theorem dMo_nearHaul_76 : decode bMo_nearHaul 76 = .ok (.ireturn, 1) := by decide +kernel
theorem dMo_share_0 : decode bMo_share 0 = .ok (.aload_n 0, 1) := by decide +kernel
theorem dMo_share_1 : decode bMo_share 1 = .ok (.aload_n 0, 1) := by decide +kernel
theorem dMo_share_2 : decode bMo_share 2 = .ok (.iload_n 3, 1) := by decide +kernel
theorem dMo_share_3 : decode bMo_share 3 = .ok (.invokevirtual 63, 3) := by decide +kernel
theorem dMo_share_6 : decode bMo_share 6 = .ok (.ifCond .eq (13), 3) := by decide +kernel
theorem dMo_share_9 : decode bMo_share 9 = .ok (.iload 4, 2) := by decide +kernel
theorem dMo_share_11 : decode bMo_share 11 = .ok (.iconst 0, 1) := by decide +kernel
theorem dMo_share_12 : decode bMo_share 12 = .ok (.iconst 1, 1) := by decide +kernel
theorem dMo_share_13 : decode bMo_share 13 = .ok (.invokestatic 56, 3) := by decide +kernel
theorem dMo_share_16 : decode bMo_share 16 = .ok (.ifCond .ne (7), 3) := by decide +kernel
theorem dMo_share_19 : decode bMo_share 19 = .ok (.iconst 1, 1) := by decide +kernel
theorem dMo_share_20 : decode bMo_share 20 = .ok (.goto (30), 3) := by decide +kernel
theorem dMo_share_23 : decode bMo_share 23 = .ok (.iload_n 1, 1) := by decide +kernel
theorem dMo_share_24 : decode bMo_share 24 = .ok (.bipush (-100), 2) := by decide +kernel
theorem dMo_share_26 : decode bMo_share 26 = .ok (.bipush (100), 2) := by decide +kernel
theorem dMo_share_28 : decode bMo_share 28 = .ok (.invokestatic 56, 3) := by decide +kernel
theorem dMo_share_31 : decode bMo_share 31 = .ok (.ifCond .eq (14), 3) := by decide +kernel
theorem dMo_share_34 : decode bMo_share 34 = .ok (.iload_n 2, 1) := by decide +kernel
theorem dMo_share_35 : decode bMo_share 35 = .ok (.bipush (-100), 2) := by decide +kernel
theorem dMo_share_37 : decode bMo_share 37 = .ok (.bipush (100), 2) := by decide +kernel
theorem dMo_share_39 : decode bMo_share 39 = .ok (.invokestatic 56, 3) := by decide +kernel
theorem dMo_share_42 : decode bMo_share 42 = .ok (.ifCond .ne (7), 3) := by decide +kernel
theorem dMo_share_45 : decode bMo_share 45 = .ok (.iconst 2, 1) := by decide +kernel
theorem dMo_share_46 : decode bMo_share 46 = .ok (.goto (4), 3) := by decide +kernel
theorem dMo_share_49 : decode bMo_share 49 = .ok (.iconst 0, 1) := by decide +kernel
theorem dMo_share_50 : decode bMo_share 50 = .ok (.putfield 53, 3) := by decide +kernel
theorem dMo_share_53 : decode bMo_share 53 = .ok (.aload_n 0, 1) := by decide +kernel
theorem dMo_share_54 : decode bMo_share 54 = .ok (.getfield 53, 3) := by decide +kernel
theorem dMo_share_57 : decode bMo_share 57 = .ok (.ifCond .le (5), 3) := by decide +kernel
theorem dMo_share_60 : decode bMo_share 60 = .ok (.lconst 0, 1) := by decide +kernel
theorem dMo_share_61 : decode bMo_share 61 = .ok (.lreturn, 1) := by decide +kernel
theorem dMo_share_62 : decode bMo_share 62 = .ok (.aload_n 0, 1) := by decide +kernel
theorem dMo_share_63 : decode bMo_share 63 = .ok (.iload_n 1, 1) := by decide +kernel
theorem dMo_share_64 : decode bMo_share 64 = .ok (.iload_n 2, 1) := by decide +kernel
theorem dMo_share_65 : decode bMo_share 65 = .ok (.iconst (-1), 1) := by decide +kernel
theorem dMo_share_66 : decode bMo_share 66 = .ok (.invokevirtual 118, 3) := by decide +kernel
theorem dMo_share_69 : decode bMo_share 69 = .ok (.istore 5, 2) := by decide +kernel
theorem dMo_share_71 : decode bMo_share 71 = .ok (.iload 5, 2) := by decide +kernel
theorem dMo_share_73 : decode bMo_share 73 = .ok (.iconst (-1), 1) := by decide +kernel
theorem dMo_share_74 : decode bMo_share 74 = .ok (.if_icmp .ne (7), 3) := by decide +kernel
theorem dMo_share_77 : decode bMo_share 77 = .ok (.iconst (-1), 1) := by decide +kernel
theorem dMo_share_78 : decode bMo_share 78 = .ok (.goto (11), 3) := by decide +kernel
theorem dMo_share_81 : decode bMo_share 81 = .ok (.aload_n 0, 1) := by decide +kernel
theorem dMo_share_82 : decode bMo_share 82 = .ok (.iload_n 1, 1) := by decide +kernel
theorem dMo_share_83 : decode bMo_share 83 = .ok (.iload_n 2, 1) := by decide +kernel
theorem dMo_share_84 : decode bMo_share 84 = .ok (.iload 5, 2) := by decide +kernel
theorem dMo_share_86 : decode bMo_share 86 = .ok (.invokevirtual 118, 3) := by decide +kernel
theorem dMo_share_89 : decode bMo_share 89 = .ok (.istore 6, 2) := by decide +kernel
theorem dMo_share_91 : decode bMo_share 91 = .ok (.iload 5, 2) := by decide +kernel
theorem dMo_share_93 : decode bMo_share 93 = .ok (.iconst (-1), 1) := by decide +kernel
theorem dMo_share_94 : decode bMo_share 94 = .ok (.if_icmp .ne (7), 3) := by decide +kernel
theorem dMo_share_97 : decode bMo_share 97 = .ok (.iload 4, 2) := by decide +kernel
theorem dMo_share_99 : decode bMo_share 99 = .ok (.i2l, 1) := by decide +kernel
theorem dMo_share_100 : decode bMo_share 100 = .ok (.lreturn, 1) := by decide +kernel
theorem dMo_share_101 : decode bMo_share 101 = .ok (.iload 6, 2) := by decide +kernel
theorem dMo_share_103 : decode bMo_share 103 = .ok (.iconst (-1), 1) := by decide +kernel
theorem dMo_share_104 : decode bMo_share 104 = .ok (.if_icmp .ne (28), 3) := by decide +kernel
theorem dMo_share_107 : decode bMo_share 107 = .ok (.aload_n 0, 1) := by decide +kernel
theorem dMo_share_108 : decode bMo_share 108 = .ok (.getfield 32, 3) := by decide +kernel
theorem dMo_share_111 : decode bMo_share 111 = .ok (.bipush (6), 2) := by decide +kernel
theorem dMo_share_113 : decode bMo_share 113 = .ok (.iload 5, 2) := by decide +kernel
theorem dMo_share_115 : decode bMo_share 115 = .ok (.imul, 1) := by decide +kernel
theorem dMo_share_116 : decode bMo_share 116 = .ok (.iload_n 3, 1) := by decide +kernel
theorem dMo_share_117 : decode bMo_share 117 = .ok (.iadd, 1) := by decide +kernel
theorem dMo_share_118 : decode bMo_share 118 = .ok (.iaload, 1) := by decide +kernel
theorem dMo_share_119 : decode bMo_share 119 = .ok (.i2l, 1) := by decide +kernel
theorem dMo_share_120 : decode bMo_share 120 = .ok (.aload_n 0, 1) := by decide +kernel
theorem dMo_share_121 : decode bMo_share 121 = .ok (.iload 5, 2) := by decide +kernel
theorem dMo_share_123 : decode bMo_share 123 = .ok (.invokevirtual 110, 3) := by decide +kernel
theorem dMo_share_126 : decode bMo_share 126 = .ok (.iload 4, 2) := by decide +kernel
theorem dMo_share_128 : decode bMo_share 128 = .ok (.invokestatic 89, 3) := by decide +kernel
theorem dMo_share_131 : decode bMo_share 131 = .ok (.lreturn, 1) := by decide +kernel
theorem dMo_share_132 : decode bMo_share 132 = .ok (.aload_n 0, 1) := by decide +kernel
theorem dMo_share_133 : decode bMo_share 133 = .ok (.iload 5, 2) := by decide +kernel
theorem dMo_share_135 : decode bMo_share 135 = .ok (.iload_n 1, 1) := by decide +kernel
theorem dMo_share_136 : decode bMo_share 136 = .ok (.iload_n 2, 1) := by decide +kernel
theorem dMo_share_137 : decode bMo_share 137 = .ok (.invokevirtual 114, 3) := by decide +kernel
theorem dMo_share_140 : decode bMo_share 140 = .ok (.lconst 1, 1) := by decide +kernel
theorem dMo_share_141 : decode bMo_share 141 = .ok (.ladd, 1) := by decide +kernel
theorem dMo_share_142 : decode bMo_share 142 = .ok (.lstore 7, 2) := by decide +kernel
theorem dMo_share_144 : decode bMo_share 144 = .ok (.aload_n 0, 1) := by decide +kernel
theorem dMo_share_145 : decode bMo_share 145 = .ok (.iload 6, 2) := by decide +kernel
theorem dMo_share_147 : decode bMo_share 147 = .ok (.iload_n 1, 1) := by decide +kernel
theorem dMo_share_148 : decode bMo_share 148 = .ok (.iload_n 2, 1) := by decide +kernel
theorem dMo_share_149 : decode bMo_share 149 = .ok (.invokevirtual 114, 3) := by decide +kernel
theorem dMo_share_152 : decode bMo_share 152 = .ok (.lconst 1, 1) := by decide +kernel
theorem dMo_share_153 : decode bMo_share 153 = .ok (.ladd, 1) := by decide +kernel
theorem dMo_share_154 : decode bMo_share 154 = .ok (.lstore 9, 2) := by decide +kernel
theorem dMo_share_156 : decode bMo_share 156 = .ok (.aload_n 0, 1) := by decide +kernel
theorem dMo_share_157 : decode bMo_share 157 = .ok (.getfield 32, 3) := by decide +kernel
theorem dMo_share_160 : decode bMo_share 160 = .ok (.bipush (6), 2) := by decide +kernel
theorem dMo_share_162 : decode bMo_share 162 = .ok (.iload 5, 2) := by decide +kernel
theorem dMo_share_164 : decode bMo_share 164 = .ok (.imul, 1) := by decide +kernel
theorem dMo_share_165 : decode bMo_share 165 = .ok (.iload_n 3, 1) := by decide +kernel
theorem dMo_share_166 : decode bMo_share 166 = .ok (.iadd, 1) := by decide +kernel
theorem dMo_share_167 : decode bMo_share 167 = .ok (.iaload, 1) := by decide +kernel
theorem dMo_share_168 : decode bMo_share 168 = .ok (.i2l, 1) := by decide +kernel
theorem dMo_share_169 : decode bMo_share 169 = .ok (.lload 9, 2) := by decide +kernel
theorem dMo_share_171 : decode bMo_share 171 = .ok (.lmul, 1) := by decide +kernel
theorem dMo_share_172 : decode bMo_share 172 = .ok (.aload_n 0, 1) := by decide +kernel
theorem dMo_share_173 : decode bMo_share 173 = .ok (.iload 6, 2) := by decide +kernel
theorem dMo_share_175 : decode bMo_share 175 = .ok (.invokevirtual 110, 3) := by decide +kernel
theorem dMo_share_178 : decode bMo_share 178 = .ok (.lmul, 1) := by decide +kernel
theorem dMo_share_179 : decode bMo_share 179 = .ok (.aload_n 0, 1) := by decide +kernel
theorem dMo_share_180 : decode bMo_share 180 = .ok (.getfield 32, 3) := by decide +kernel
theorem dMo_share_183 : decode bMo_share 183 = .ok (.bipush (6), 2) := by decide +kernel
theorem dMo_share_185 : decode bMo_share 185 = .ok (.iload 6, 2) := by decide +kernel
theorem dMo_share_187 : decode bMo_share 187 = .ok (.imul, 1) := by decide +kernel
theorem dMo_share_188 : decode bMo_share 188 = .ok (.iload_n 3, 1) := by decide +kernel
theorem dMo_share_189 : decode bMo_share 189 = .ok (.iadd, 1) := by decide +kernel
theorem dMo_share_190 : decode bMo_share 190 = .ok (.iaload, 1) := by decide +kernel
theorem dMo_share_191 : decode bMo_share 191 = .ok (.i2l, 1) := by decide +kernel
theorem dMo_share_192 : decode bMo_share 192 = .ok (.lload 7, 2) := by decide +kernel
theorem dMo_share_194 : decode bMo_share 194 = .ok (.lmul, 1) := by decide +kernel
theorem dMo_share_195 : decode bMo_share 195 = .ok (.aload_n 0, 1) := by decide +kernel
theorem dMo_share_196 : decode bMo_share 196 = .ok (.iload 5, 2) := by decide +kernel
theorem dMo_share_198 : decode bMo_share 198 = .ok (.invokevirtual 110, 3) := by decide +kernel
theorem dMo_share_201 : decode bMo_share 201 = .ok (.lmul, 1) := by decide +kernel
theorem dMo_share_202 : decode bMo_share 202 = .ok (.ladd, 1) := by decide +kernel
theorem dMo_share_203 : decode bMo_share 203 = .ok (.lstore 11, 2) := by decide +kernel
theorem dMo_share_205 : decode bMo_share 205 = .ok (.lload 11, 2) := by decide +kernel
theorem dMo_share_207 : decode bMo_share 207 = .ok (.aload_n 0, 1) := by decide +kernel
theorem dMo_share_208 : decode bMo_share 208 = .ok (.iload 5, 2) := by decide +kernel
theorem dMo_share_210 : decode bMo_share 210 = .ok (.invokevirtual 110, 3) := by decide +kernel
theorem dMo_share_213 : decode bMo_share 213 = .ok (.aload_n 0, 1) := by decide +kernel
theorem dMo_share_214 : decode bMo_share 214 = .ok (.iload 6, 2) := by decide +kernel
theorem dMo_share_216 : decode bMo_share 216 = .ok (.invokevirtual 110, 3) := by decide +kernel
theorem dMo_share_219 : decode bMo_share 219 = .ok (.lmul, 1) := by decide +kernel
theorem dMo_share_220 : decode bMo_share 220 = .ok (.lload 7, 2) := by decide +kernel
theorem dMo_share_222 : decode bMo_share 222 = .ok (.lload 9, 2) := by decide +kernel
theorem dMo_share_224 : decode bMo_share 224 = .ok (.ladd, 1) := by decide +kernel
theorem dMo_share_225 : decode bMo_share 225 = .ok (.lmul, 1) := by decide +kernel
theorem dMo_share_226 : decode bMo_share 226 = .ok (.iload 4, 2) := by decide +kernel
theorem dMo_share_228 : decode bMo_share 228 = .ok (.invokestatic 89, 3) := by decide +kernel
theorem dMo_share_231 : decode bMo_share 231 = .ok (.lreturn, 1) := by decide +kernel
theorem dMo_law_0 : decode bMo_law 0 = .ok (.aload_n 0, 1) := by decide +kernel
theorem dMo_law_1 : decode bMo_law 1 = .ok (.iload_n 1, 1) := by decide +kernel
theorem dMo_law_2 : decode bMo_law 2 = .ok (.invokevirtual 63, 3) := by decide +kernel
theorem dMo_law_5 : decode bMo_law 5 = .ok (.ifCond .eq (12), 3) := by decide +kernel
theorem dMo_law_8 : decode bMo_law 8 = .ok (.aload_n 0, 1) := by decide +kernel
theorem dMo_law_9 : decode bMo_law 9 = .ok (.getfield 35, 3) := by decide +kernel
theorem dMo_law_12 : decode bMo_law 12 = .ok (.iload_n 1, 1) := by decide +kernel
theorem dMo_law_13 : decode bMo_law 13 = .ok (.iaload, 1) := by decide +kernel
theorem dMo_law_14 : decode bMo_law 14 = .ok (.goto (4), 3) := by decide +kernel
theorem dMo_law_17 : decode bMo_law 17 = .ok (.iconst 0, 1) := by decide +kernel
theorem dMo_law_18 : decode bMo_law 18 = .ok (.istore 4, 2) := by decide +kernel
theorem dMo_law_20 : decode bMo_law 20 = .ok (.iload_n 2, 1) := by decide +kernel
theorem dMo_law_21 : decode bMo_law 21 = .ok (.iconst 1, 1) := by decide +kernel
theorem dMo_law_22 : decode bMo_law 22 = .ok (.sipush (1000), 3) := by decide +kernel
theorem dMo_law_25 : decode bMo_law 25 = .ok (.invokestatic 56, 3) := by decide +kernel
theorem dMo_law_28 : decode bMo_law 28 = .ok (.ifCond .eq (49), 3) := by decide +kernel
theorem dMo_law_31 : decode bMo_law 31 = .ok (.iload_n 3, 1) := by decide +kernel
theorem dMo_law_32 : decode bMo_law 32 = .ok (.iconst 0, 1) := by decide +kernel
theorem dMo_law_33 : decode bMo_law 33 = .ok (.sipush (2000), 3) := by decide +kernel
theorem dMo_law_36 : decode bMo_law 36 = .ok (.invokestatic 56, 3) := by decide +kernel
theorem dMo_law_39 : decode bMo_law 39 = .ok (.ifCond .eq (38), 3) := by decide +kernel
theorem dMo_law_42 : decode bMo_law 42 = .ok (.aload_n 0, 1) := by decide +kernel
theorem dMo_law_43 : decode bMo_law 43 = .ok (.iload_n 1, 1) := by decide +kernel
theorem dMo_law_44 : decode bMo_law 44 = .ok (.invokevirtual 63, 3) := by decide +kernel
theorem dMo_law_47 : decode bMo_law 47 = .ok (.ifCond .eq (30), 3) := by decide +kernel
theorem dMo_law_50 : decode bMo_law 50 = .ok (.iload 4, 2) := by decide +kernel
theorem dMo_law_52 : decode bMo_law 52 = .ok (.ifCond .eq (21), 3) := by decide +kernel
theorem dMo_law_55 : decode bMo_law 55 = .ok (.iload_n 2, 1) := by decide +kernel
theorem dMo_law_56 : decode bMo_law 56 = .ok (.aload_n 0, 1) := by decide +kernel
theorem dMo_law_57 : decode bMo_law 57 = .ok (.getfield 38, 3) := by decide +kernel
theorem dMo_law_60 : decode bMo_law 60 = .ok (.bipush (6), 2) := by decide +kernel
theorem dMo_law_62 : decode bMo_law 62 = .ok (.iload_n 1, 1) := by decide +kernel
theorem dMo_law_63 : decode bMo_law 63 = .ok (.imul, 1) := by decide +kernel
theorem dMo_law_64 : decode bMo_law 64 = .ok (.iload 4, 2) := by decide +kernel
theorem dMo_law_66 : decode bMo_law 66 = .ok (.iadd, 1) := by decide +kernel
theorem dMo_law_67 : decode bMo_law 67 = .ok (.iconst 1, 1) := by decide +kernel
theorem dMo_law_68 : decode bMo_law 68 = .ok (.isub, 1) := by decide +kernel
theorem dMo_law_69 : decode bMo_law 69 = .ok (.iaload, 1) := by decide +kernel
theorem dMo_law_70 : decode bMo_law 70 = .ok (.if_icmp .le (7), 3) := by decide +kernel
theorem dMo_law_73 : decode bMo_law 73 = .ok (.iconst 1, 1) := by decide +kernel
theorem dMo_law_74 : decode bMo_law 74 = .ok (.goto (4), 3) := by decide +kernel
theorem dMo_law_77 : decode bMo_law 77 = .ok (.iconst 0, 1) := by decide +kernel
theorem dMo_law_78 : decode bMo_law 78 = .ok (.istore 5, 2) := by decide +kernel
theorem dMo_law_80 : decode bMo_law 80 = .ok (.aload_n 0, 1) := by decide +kernel
theorem dMo_law_81 : decode bMo_law 81 = .ok (.aload_n 0, 1) := by decide +kernel
theorem dMo_law_82 : decode bMo_law 82 = .ok (.iload_n 1, 1) := by decide +kernel
theorem dMo_law_83 : decode bMo_law 83 = .ok (.invokevirtual 63, 3) := by decide +kernel
theorem dMo_law_86 : decode bMo_law 86 = .ok (.ifCond .ne (7), 3) := by decide +kernel
theorem dMo_law_89 : decode bMo_law 89 = .ok (.iconst 1, 1) := by decide +kernel
theorem dMo_law_90 : decode bMo_law 90 = .ok (.goto (24), 3) := by decide +kernel
theorem dMo_law_93 : decode bMo_law 93 = .ok (.iload 5, 2) := by decide +kernel
theorem dMo_law_95 : decode bMo_law 95 = .ok (.ifCond .ne (7), 3) := by decide +kernel
theorem dMo_law_98 : decode bMo_law 98 = .ok (.iconst 2, 1) := by decide +kernel
theorem dMo_law_99 : decode bMo_law 99 = .ok (.goto (15), 3) := by decide +kernel
theorem dMo_law_102 : decode bMo_law 102 = .ok (.iload 4, 2) := by decide +kernel
theorem dMo_law_104 : decode bMo_law 104 = .ok (.bipush (6), 2) := by decide +kernel
theorem dMo_law_106 : decode bMo_law 106 = .ok (.if_icmp .ne (7), 3) := by decide +kernel
theorem dMo_law_109 : decode bMo_law 109 = .ok (.iconst 3, 1) := by decide +kernel
theorem dMo_law_110 : decode bMo_law 110 = .ok (.goto (4), 3) := by decide +kernel
theorem dMo_law_113 : decode bMo_law 113 = .ok (.iconst 0, 1) := by decide +kernel
theorem dMo_law_114 : decode bMo_law 114 = .ok (.putfield 53, 3) := by decide +kernel
theorem dMo_law_117 : decode bMo_law 117 = .ok (.aload_n 0, 1) := by decide +kernel
theorem dMo_law_118 : decode bMo_law 118 = .ok (.getfield 53, 3) := by decide +kernel
theorem dMo_law_121 : decode bMo_law 121 = .ok (.ifCond .le (5), 3) := by decide +kernel
theorem dMo_law_124 : decode bMo_law 124 = .ok (.iconst 0, 1) := by decide +kernel
theorem dMo_law_125 : decode bMo_law 125 = .ok (.ireturn, 1) := by decide +kernel
theorem dMo_law_126 : decode bMo_law 126 = .ok (.aload_n 0, 1) := by decide +kernel
theorem dMo_law_127 : decode bMo_law 127 = .ok (.getfield 38, 3) := by decide +kernel
theorem dMo_law_130 : decode bMo_law 130 = .ok (.bipush (6), 2) := by decide +kernel
theorem dMo_law_132 : decode bMo_law 132 = .ok (.iload_n 1, 1) := by decide +kernel
theorem dMo_law_133 : decode bMo_law 133 = .ok (.imul, 1) := by decide +kernel
theorem dMo_law_134 : decode bMo_law 134 = .ok (.iload 4, 2) := by decide +kernel
theorem dMo_law_136 : decode bMo_law 136 = .ok (.iadd, 1) := by decide +kernel
theorem dMo_law_137 : decode bMo_law 137 = .ok (.iload_n 2, 1) := by decide +kernel
theorem dMo_law_138 : decode bMo_law 138 = .ok (.iastore, 1) := by decide +kernel
theorem dMo_law_139 : decode bMo_law 139 = .ok (.aload_n 0, 1) := by decide +kernel
theorem dMo_law_140 : decode bMo_law 140 = .ok (.getfield 41, 3) := by decide +kernel
theorem dMo_law_143 : decode bMo_law 143 = .ok (.bipush (6), 2) := by decide +kernel
theorem dMo_law_145 : decode bMo_law 145 = .ok (.iload_n 1, 1) := by decide +kernel
theorem dMo_law_146 : decode bMo_law 146 = .ok (.imul, 1) := by decide +kernel
theorem dMo_law_147 : decode bMo_law 147 = .ok (.iload 4, 2) := by decide +kernel
theorem dMo_law_149 : decode bMo_law 149 = .ok (.iadd, 1) := by decide +kernel
theorem dMo_law_150 : decode bMo_law 150 = .ok (.iload_n 3, 1) := by decide +kernel
theorem dMo_law_151 : decode bMo_law 151 = .ok (.iastore, 1) := by decide +kernel
theorem dMo_law_152 : decode bMo_law 152 = .ok (.aload_n 0, 1) := by decide +kernel
theorem dMo_law_153 : decode bMo_law 153 = .ok (.getfield 35, 3) := by decide +kernel
theorem dMo_law_156 : decode bMo_law 156 = .ok (.iload_n 1, 1) := by decide +kernel
theorem dMo_law_157 : decode bMo_law 157 = .ok (.dup2, 1) := by decide +kernel
theorem dMo_law_158 : decode bMo_law 158 = .ok (.iaload, 1) := by decide +kernel
theorem dMo_law_159 : decode bMo_law 159 = .ok (.iconst 1, 1) := by decide +kernel
theorem dMo_law_160 : decode bMo_law 160 = .ok (.iadd, 1) := by decide +kernel
theorem dMo_law_161 : decode bMo_law 161 = .ok (.iastore, 1) := by decide +kernel
theorem dMo_law_162 : decode bMo_law 162 = .ok (.aload_n 0, 1) := by decide +kernel
theorem dMo_law_163 : decode bMo_law 163 = .ok (.getfield 35, 3) := by decide +kernel
theorem dMo_law_166 : decode bMo_law 166 = .ok (.iload_n 1, 1) := by decide +kernel
theorem dMo_law_167 : decode bMo_law 167 = .ok (.iaload, 1) := by decide +kernel
theorem dMo_law_168 : decode bMo_law 168 = .ok (.ireturn, 1) := by decide +kernel
theorem dMo_strengthAt_0 : decode bMo_strengthAt 0 = .ok (.aload_n 0, 1) := by decide +kernel
theorem dMo_strengthAt_1 : decode bMo_strengthAt 1 = .ok (.getfield 35, 3) := by decide +kernel
theorem dMo_strengthAt_4 : decode bMo_strengthAt 4 = .ok (.iload_n 1, 1) := by decide +kernel
theorem dMo_strengthAt_5 : decode bMo_strengthAt 5 = .ok (.iaload, 1) := by decide +kernel
theorem dMo_strengthAt_6 : decode bMo_strengthAt 6 = .ok (.istore_n 3, 1) := by decide +kernel
theorem dMo_strengthAt_7 : decode bMo_strengthAt 7 = .ok (.bipush (6), 2) := by decide +kernel
theorem dMo_strengthAt_9 : decode bMo_strengthAt 9 = .ok (.iload_n 1, 1) := by decide +kernel
theorem dMo_strengthAt_10 : decode bMo_strengthAt 10 = .ok (.imul, 1) := by decide +kernel
theorem dMo_strengthAt_11 : decode bMo_strengthAt 11 = .ok (.istore 4, 2) := by decide +kernel
theorem dMo_strengthAt_13 : decode bMo_strengthAt 13 = .ok (.iload_n 3, 1) := by decide +kernel
theorem dMo_strengthAt_14 : decode bMo_strengthAt 14 = .ok (.ifCond .eq (29), 3) := by decide +kernel
theorem dMo_strengthAt_17 : decode bMo_strengthAt 17 = .ok (.iload_n 2, 1) := by decide +kernel
theorem dMo_strengthAt_18 : decode bMo_strengthAt 18 = .ok (.aload_n 0, 1) := by decide +kernel
theorem dMo_strengthAt_19 : decode bMo_strengthAt 19 = .ok (.getfield 38, 3) := by decide +kernel
theorem dMo_strengthAt_22 : decode bMo_strengthAt 22 = .ok (.iload 4, 2) := by decide +kernel
theorem dMo_strengthAt_24 : decode bMo_strengthAt 24 = .ok (.iaload, 1) := by decide +kernel
theorem dMo_strengthAt_25 : decode bMo_strengthAt 25 = .ok (.if_icmp .lt (18), 3) := by decide +kernel
theorem dMo_strengthAt_28 : decode bMo_strengthAt 28 = .ok (.iload_n 2, 1) := by decide +kernel
theorem dMo_strengthAt_29 : decode bMo_strengthAt 29 = .ok (.aload_n 0, 1) := by decide +kernel
theorem dMo_strengthAt_30 : decode bMo_strengthAt 30 = .ok (.getfield 38, 3) := by decide +kernel
theorem dMo_strengthAt_33 : decode bMo_strengthAt 33 = .ok (.iload 4, 2) := by decide +kernel
theorem dMo_strengthAt_35 : decode bMo_strengthAt 35 = .ok (.iload_n 3, 1) := by decide +kernel
theorem dMo_strengthAt_36 : decode bMo_strengthAt 36 = .ok (.iadd, 1) := by decide +kernel
theorem dMo_strengthAt_37 : decode bMo_strengthAt 37 = .ok (.iconst 1, 1) := by decide +kernel
theorem dMo_strengthAt_38 : decode bMo_strengthAt 38 = .ok (.isub, 1) := by decide +kernel
theorem dMo_strengthAt_39 : decode bMo_strengthAt 39 = .ok (.iaload, 1) := by decide +kernel
theorem dMo_strengthAt_40 : decode bMo_strengthAt 40 = .ok (.if_icmp .le (5), 3) := by decide +kernel
theorem dMo_strengthAt_43 : decode bMo_strengthAt 43 = .ok (.iconst (-1), 1) := by decide +kernel
theorem dMo_strengthAt_44 : decode bMo_strengthAt 44 = .ok (.ireturn, 1) := by decide +kernel
theorem dMo_strengthAt_45 : decode bMo_strengthAt 45 = .ok (.iload_n 2, 1) := by decide +kernel
theorem dMo_strengthAt_46 : decode bMo_strengthAt 46 = .ok (.aload_n 0, 1) := by decide +kernel
theorem dMo_strengthAt_47 : decode bMo_strengthAt 47 = .ok (.getfield 38, 3) := by decide +kernel
theorem dMo_strengthAt_50 : decode bMo_strengthAt 50 = .ok (.iload 4, 2) := by decide +kernel
theorem dMo_strengthAt_52 : decode bMo_strengthAt 52 = .ok (.iaload, 1) := by decide +kernel
theorem dMo_strengthAt_53 : decode bMo_strengthAt 53 = .ok (.if_icmp .le (9), 3) := by decide +kernel
theorem dMo_strengthAt_56 : decode bMo_strengthAt 56 = .ok (.iinc 4 (1), 3) := by decide +kernel
theorem dMo_strengthAt_59 : decode bMo_strengthAt 59 = .ok (.goto (-14), 3) := by decide +kernel
theorem dMo_strengthAt_62 : decode bMo_strengthAt 62 = .ok (.iload_n 2, 1) := by decide +kernel
theorem dMo_strengthAt_63 : decode bMo_strengthAt 63 = .ok (.aload_n 0, 1) := by decide +kernel
theorem dMo_strengthAt_64 : decode bMo_strengthAt 64 = .ok (.getfield 38, 3) := by decide +kernel
theorem dMo_strengthAt_67 : decode bMo_strengthAt 67 = .ok (.iload 4, 2) := by decide +kernel
theorem dMo_strengthAt_69 : decode bMo_strengthAt 69 = .ok (.iaload, 1) := by decide +kernel
theorem dMo_strengthAt_70 : decode bMo_strengthAt 70 = .ok (.if_icmp .ne (11), 3) := by decide +kernel
theorem dMo_strengthAt_73 : decode bMo_strengthAt 73 = .ok (.aload_n 0, 1) := by decide +kernel
theorem dMo_strengthAt_74 : decode bMo_strengthAt 74 = .ok (.getfield 41, 3) := by decide +kernel
theorem dMo_strengthAt_77 : decode bMo_strengthAt 77 = .ok (.iload 4, 2) := by decide +kernel
theorem dMo_strengthAt_79 : decode bMo_strengthAt 79 = .ok (.iaload, 1) := by decide +kernel
theorem dMo_strengthAt_80 : decode bMo_strengthAt 80 = .ok (.ireturn, 1) := by decide +kernel
theorem dMo_strengthAt_81 : decode bMo_strengthAt 81 = .ok (.aload_n 0, 1) := by decide +kernel
theorem dMo_strengthAt_82 : decode bMo_strengthAt 82 = .ok (.getfield 41, 3) := by decide +kernel
theorem dMo_strengthAt_85 : decode bMo_strengthAt 85 = .ok (.iload 4, 2) := by decide +kernel
theorem dMo_strengthAt_87 : decode bMo_strengthAt 87 = .ok (.iaload, 1) := by decide +kernel
theorem dMo_strengthAt_88 : decode bMo_strengthAt 88 = .ok (.aload_n 0, 1) := by decide +kernel
theorem dMo_strengthAt_89 : decode bMo_strengthAt 89 = .ok (.getfield 41, 3) := by decide +kernel
theorem dMo_strengthAt_92 : decode bMo_strengthAt 92 = .ok (.iload 4, 2) := by decide +kernel
theorem dMo_strengthAt_94 : decode bMo_strengthAt 94 = .ok (.iconst 1, 1) := by decide +kernel
theorem dMo_strengthAt_95 : decode bMo_strengthAt 95 = .ok (.isub, 1) := by decide +kernel
theorem dMo_strengthAt_96 : decode bMo_strengthAt 96 = .ok (.iaload, 1) := by decide +kernel
theorem dMo_strengthAt_97 : decode bMo_strengthAt 97 = .ok (.isub, 1) := by decide +kernel
theorem dMo_strengthAt_98 : decode bMo_strengthAt 98 = .ok (.iload_n 2, 1) := by decide +kernel
theorem dMo_strengthAt_99 : decode bMo_strengthAt 99 = .ok (.aload_n 0, 1) := by decide +kernel
theorem dMo_strengthAt_100 : decode bMo_strengthAt 100 = .ok (.getfield 38, 3) := by decide +kernel
theorem dMo_strengthAt_103 : decode bMo_strengthAt 103 = .ok (.iload 4, 2) := by decide +kernel
theorem dMo_strengthAt_105 : decode bMo_strengthAt 105 = .ok (.iconst 1, 1) := by decide +kernel
theorem dMo_strengthAt_106 : decode bMo_strengthAt 106 = .ok (.isub, 1) := by decide +kernel
theorem dMo_strengthAt_107 : decode bMo_strengthAt 107 = .ok (.iaload, 1) := by decide +kernel
theorem dMo_strengthAt_108 : decode bMo_strengthAt 108 = .ok (.isub, 1) := by decide +kernel
theorem dMo_strengthAt_109 : decode bMo_strengthAt 109 = .ok (.imul, 1) := by decide +kernel
theorem dMo_strengthAt_110 : decode bMo_strengthAt 110 = .ok (.istore 5, 2) := by decide +kernel
theorem dMo_strengthAt_112 : decode bMo_strengthAt 112 = .ok (.aload_n 0, 1) := by decide +kernel
theorem dMo_strengthAt_113 : decode bMo_strengthAt 113 = .ok (.getfield 38, 3) := by decide +kernel
theorem dMo_strengthAt_116 : decode bMo_strengthAt 116 = .ok (.iload 4, 2) := by decide +kernel
theorem dMo_strengthAt_118 : decode bMo_strengthAt 118 = .ok (.iaload, 1) := by decide +kernel
theorem dMo_strengthAt_119 : decode bMo_strengthAt 119 = .ok (.aload_n 0, 1) := by decide +kernel
theorem dMo_strengthAt_120 : decode bMo_strengthAt 120 = .ok (.getfield 38, 3) := by decide +kernel
theorem dMo_strengthAt_123 : decode bMo_strengthAt 123 = .ok (.iload 4, 2) := by decide +kernel
theorem dMo_strengthAt_125 : decode bMo_strengthAt 125 = .ok (.iconst 1, 1) := by decide +kernel
theorem dMo_strengthAt_126 : decode bMo_strengthAt 126 = .ok (.isub, 1) := by decide +kernel
theorem dMo_strengthAt_127 : decode bMo_strengthAt 127 = .ok (.iaload, 1) := by decide +kernel
theorem dMo_strengthAt_128 : decode bMo_strengthAt 128 = .ok (.isub, 1) := by decide +kernel
theorem dMo_strengthAt_129 : decode bMo_strengthAt 129 = .ok (.istore 6, 2) := by decide +kernel
theorem dMo_strengthAt_131 : decode bMo_strengthAt 131 = .ok (.iload 5, 2) := by decide +kernel
theorem dMo_strengthAt_133 : decode bMo_strengthAt 133 = .ok (.iload 6, 2) := by decide +kernel
theorem dMo_strengthAt_135 : decode bMo_strengthAt 135 = .ok (.idiv, 1) := by decide +kernel
theorem dMo_strengthAt_136 : decode bMo_strengthAt 136 = .ok (.istore 7, 2) := by decide +kernel
theorem dMo_strengthAt_138 : decode bMo_strengthAt 138 = .ok (.aload_n 0, 1) := by decide +kernel
theorem dMo_strengthAt_139 : decode bMo_strengthAt 139 = .ok (.getfield 41, 3) := by decide +kernel
theorem dMo_strengthAt_142 : decode bMo_strengthAt 142 = .ok (.iload 4, 2) := by decide +kernel
theorem dMo_strengthAt_144 : decode bMo_strengthAt 144 = .ok (.iconst 1, 1) := by decide +kernel
theorem dMo_strengthAt_145 : decode bMo_strengthAt 145 = .ok (.isub, 1) := by decide +kernel
theorem dMo_strengthAt_146 : decode bMo_strengthAt 146 = .ok (.iaload, 1) := by decide +kernel
theorem dMo_strengthAt_147 : decode bMo_strengthAt 147 = .ok (.iload 5, 2) := by decide +kernel
theorem dMo_strengthAt_149 : decode bMo_strengthAt 149 = .ok (.ifCond .ge (20), 3) := by decide +kernel
theorem dMo_strengthAt_152 : decode bMo_strengthAt 152 = .ok (.iload 7, 2) := by decide +kernel
theorem dMo_strengthAt_154 : decode bMo_strengthAt 154 = .ok (.iload 6, 2) := by decide +kernel
theorem dMo_strengthAt_156 : decode bMo_strengthAt 156 = .ok (.imul, 1) := by decide +kernel
theorem dMo_strengthAt_157 : decode bMo_strengthAt 157 = .ok (.iload 5, 2) := by decide +kernel
theorem dMo_strengthAt_159 : decode bMo_strengthAt 159 = .ok (.if_icmp .eq (10), 3) := by decide +kernel
theorem dMo_strengthAt_162 : decode bMo_strengthAt 162 = .ok (.iload 7, 2) := by decide +kernel
theorem dMo_strengthAt_164 : decode bMo_strengthAt 164 = .ok (.iconst 1, 1) := by decide +kernel
theorem dMo_strengthAt_165 : decode bMo_strengthAt 165 = .ok (.isub, 1) := by decide +kernel
theorem dMo_strengthAt_166 : decode bMo_strengthAt 166 = .ok (.goto (5), 3) := by decide +kernel
theorem dMo_strengthAt_169 : decode bMo_strengthAt 169 = .ok (.iload 7, 2) := by decide +kernel
theorem dMo_strengthAt_171 : decode bMo_strengthAt 171 = .ok (.iadd, 1) := by decide +kernel
theorem dMo_strengthAt_172 : decode bMo_strengthAt 172 = .ok (.ireturn, 1) := by decide +kernel
theorem dMo_strength_0 : decode bMo_strength 0 = .ok (.aload_n 0, 1) := by decide +kernel
theorem dMo_strength_1 : decode bMo_strength 1 = .ok (.aload_n 0, 1) := by decide +kernel
theorem dMo_strength_2 : decode bMo_strength 2 = .ok (.iload_n 1, 1) := by decide +kernel
theorem dMo_strength_3 : decode bMo_strength 3 = .ok (.invokevirtual 63, 3) := by decide +kernel
theorem dMo_strength_6 : decode bMo_strength 6 = .ok (.ifCond .ne (7), 3) := by decide +kernel
theorem dMo_strength_9 : decode bMo_strength 9 = .ok (.iconst 1, 1) := by decide +kernel
theorem dMo_strength_10 : decode bMo_strength 10 = .ok (.goto (4), 3) := by decide +kernel
theorem dMo_strength_13 : decode bMo_strength 13 = .ok (.iconst 0, 1) := by decide +kernel
theorem dMo_strength_14 : decode bMo_strength 14 = .ok (.putfield 53, 3) := by decide +kernel
theorem dMo_strength_17 : decode bMo_strength 17 = .ok (.aload_n 0, 1) := by decide +kernel
theorem dMo_strength_18 : decode bMo_strength 18 = .ok (.getfield 53, 3) := by decide +kernel
theorem dMo_strength_21 : decode bMo_strength 21 = .ok (.ifCond .le (7), 3) := by decide +kernel
theorem dMo_strength_24 : decode bMo_strength 24 = .ok (.iconst 0, 1) := by decide +kernel
theorem dMo_strength_25 : decode bMo_strength 25 = .ok (.goto (9), 3) := by decide +kernel
theorem dMo_strength_28 : decode bMo_strength 28 = .ok (.aload_n 0, 1) := by decide +kernel
theorem dMo_strength_29 : decode bMo_strength 29 = .ok (.iload_n 1, 1) := by decide +kernel
theorem dMo_strength_30 : decode bMo_strength 30 = .ok (.iload_n 2, 1) := by decide +kernel
theorem dMo_strength_31 : decode bMo_strength 31 = .ok (.invokevirtual 121, 3) := by decide +kernel
theorem dMo_strength_34 : decode bMo_strength 34 = .ok (.ireturn, 1) := by decide +kernel
theorem dMo_length_0 : decode bMo_length 0 = .ok (.aload_n 0, 1) := by decide +kernel
theorem dMo_length_1 : decode bMo_length 1 = .ok (.aload_n 0, 1) := by decide +kernel
theorem dMo_length_2 : decode bMo_length 2 = .ok (.iload_n 1, 1) := by decide +kernel
theorem dMo_length_3 : decode bMo_length 3 = .ok (.invokevirtual 63, 3) := by decide +kernel
theorem dMo_length_6 : decode bMo_length 6 = .ok (.ifCond .ne (7), 3) := by decide +kernel
theorem dMo_length_9 : decode bMo_length 9 = .ok (.iconst 1, 1) := by decide +kernel
theorem dMo_length_10 : decode bMo_length 10 = .ok (.goto (4), 3) := by decide +kernel
theorem dMo_length_13 : decode bMo_length 13 = .ok (.iconst 0, 1) := by decide +kernel
theorem dMo_length_14 : decode bMo_length 14 = .ok (.putfield 53, 3) := by decide +kernel
theorem dMo_length_17 : decode bMo_length 17 = .ok (.aload_n 0, 1) := by decide +kernel
theorem dMo_length_18 : decode bMo_length 18 = .ok (.getfield 53, 3) := by decide +kernel
theorem dMo_length_21 : decode bMo_length 21 = .ok (.ifCond .le (5), 3) := by decide +kernel
theorem dMo_length_24 : decode bMo_length 24 = .ok (.iconst 0, 1) := by decide +kernel
theorem dMo_length_25 : decode bMo_length 25 = .ok (.ireturn, 1) := by decide +kernel
theorem dMo_length_26 : decode bMo_length 26 = .ok (.iconst 1, 1) := by decide +kernel
theorem dMo_length_27 : decode bMo_length 27 = .ok (.istore_n 3, 1) := by decide +kernel
theorem dMo_length_28 : decode bMo_length 28 = .ok (.iload_n 3, 1) := by decide +kernel
theorem dMo_length_29 : decode bMo_length 29 = .ok (.sipush (1000), 3) := by decide +kernel
theorem dMo_length_32 : decode bMo_length 32 = .ok (.if_icmp .gt (31), 3) := by decide +kernel
theorem dMo_length_35 : decode bMo_length 35 = .ok (.aload_n 0, 1) := by decide +kernel
theorem dMo_length_36 : decode bMo_length 36 = .ok (.iload_n 1, 1) := by decide +kernel
theorem dMo_length_37 : decode bMo_length 37 = .ok (.iload_n 3, 1) := by decide +kernel
theorem dMo_length_38 : decode bMo_length 38 = .ok (.invokevirtual 121, 3) := by decide +kernel
theorem dMo_length_41 : decode bMo_length 41 = .ok (.istore 4, 2) := by decide +kernel
theorem dMo_length_43 : decode bMo_length 43 = .ok (.iload 4, 2) := by decide +kernel
theorem dMo_length_45 : decode bMo_length 45 = .ok (.iconst (-1), 1) := by decide +kernel
theorem dMo_length_46 : decode bMo_length 46 = .ok (.if_icmp .eq (11), 3) := by decide +kernel
theorem dMo_length_49 : decode bMo_length 49 = .ok (.iload 4, 2) := by decide +kernel
theorem dMo_length_51 : decode bMo_length 51 = .ok (.iload_n 2, 1) := by decide +kernel
theorem dMo_length_52 : decode bMo_length 52 = .ok (.if_icmp .lt (5), 3) := by decide +kernel
theorem dMo_length_55 : decode bMo_length 55 = .ok (.iload_n 3, 1) := by decide +kernel
theorem dMo_length_56 : decode bMo_length 56 = .ok (.ireturn, 1) := by decide +kernel
theorem dMo_length_57 : decode bMo_length 57 = .ok (.iinc 3 (1), 3) := by decide +kernel
theorem dMo_length_60 : decode bMo_length 60 = .ok (.goto (-32), 3) := by decide +kernel
theorem dMo_length_63 : decode bMo_length 63 = .ok (.iconst (-1), 1) := by decide +kernel
theorem dMo_length_64 : decode bMo_length 64 = .ok (.ireturn, 1) := by decide +kernel
theorem dMo_count_0 : decode bMo_count 0 = .ok (.aload_n 0, 1) := by decide +kernel
