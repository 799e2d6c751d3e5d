theorem dMo_alike_41 : decode bMo_alike 41 = .ok (.istore 4, 2) := by decide +kernel
theorem dMo_alike_43 : decode bMo_alike 43 = .ok (.iinc 5 (1), 3) := by decide +kernel
theorem dMo_alike_46 : decode bMo_alike 46 = .ok (.goto (-40), 3) := by decide +kernel
theorem dMo_alike_49 : decode bMo_alike 49 = .ok (.iload 4, 2) := by decide +kernel
theorem dMo_alike_51 : decode bMo_alike 51 = .ok (.iload_n 3, 1) := by decide +kernel
theorem dMo_alike_52 : decode bMo_alike 52 = .ok (.if_icmp .lt (7), 3) := by decide +kernel
theorem dMo_alike_55 : decode bMo_alike 55 = .ok (.iconst 1, 1) := by decide +kernel
theorem dMo_alike_56 : decode bMo_alike 56 = .ok (.goto (4), 3) := by decide +kernel
theorem dMo_alike_59 : decode bMo_alike 59 = .ok (.iconst 0, 1) := by decide +kernel
theorem dMo_alike_60 : decode bMo_alike 60 = .ok (.ireturn, 1) := by decide +kernel
theorem dMo_groups_0 : decode bMo_groups 0 = .ok (.aload_n 0, 1) := by decide +kernel
theorem dMo_groups_1 : decode bMo_groups 1 = .ok (.iload_n 1, 1) := by decide +kernel
theorem dMo_groups_2 : decode bMo_groups 2 = .ok (.iconst 0, 1) := by decide +kernel
theorem dMo_groups_3 : decode bMo_groups 3 = .ok (.aload_n 0, 1) := by decide +kernel
theorem dMo_groups_4 : decode bMo_groups 4 = .ok (.getfield 50, 3) := by decide +kernel
theorem dMo_groups_7 : decode bMo_groups 7 = .ok (.invokestatic 56, 3) := by decide +kernel
theorem dMo_groups_10 : decode bMo_groups 10 = .ok (.ifCond .ne (7), 3) := by decide +kernel
theorem dMo_groups_13 : decode bMo_groups 13 = .ok (.iconst 1, 1) := by decide +kernel
theorem dMo_groups_14 : decode bMo_groups 14 = .ok (.goto (4), 3) := by decide +kernel
theorem dMo_groups_17 : decode bMo_groups 17 = .ok (.iconst 0, 1) := by decide +kernel
theorem dMo_groups_18 : decode bMo_groups 18 = .ok (.putfield 53, 3) := by decide +kernel
theorem dMo_groups_21 : decode bMo_groups 21 = .ok (.aload_n 0, 1) := by decide +kernel
theorem dMo_groups_22 : decode bMo_groups 22 = .ok (.getfield 53, 3) := by decide +kernel
theorem dMo_groups_25 : decode bMo_groups 25 = .ok (.ifCond .le (5), 3) := by decide +kernel
theorem dMo_groups_28 : decode bMo_groups 28 = .ok (.iconst 0, 1) := by decide +kernel
theorem dMo_groups_29 : decode bMo_groups 29 = .ok (.ireturn, 1) := by decide +kernel
theorem dMo_groups_30 : decode bMo_groups 30 = .ok (.iconst 0, 1) := by decide +kernel
theorem dMo_groups_31 : decode bMo_groups 31 = .ok (.istore_n 2, 1) := by decide +kernel
theorem dMo_groups_32 : decode bMo_groups 32 = .ok (.iload_n 2, 1) := by decide +kernel
theorem dMo_groups_33 : decode bMo_groups 33 = .ok (.aload_n 0, 1) := by decide +kernel
theorem dMo_groups_34 : decode bMo_groups 34 = .ok (.getfield 60, 3) := by decide +kernel
theorem dMo_groups_37 : decode bMo_groups 37 = .ok (.if_icmp .ge (16), 3) := by decide +kernel
theorem dMo_groups_40 : decode bMo_groups 40 = .ok (.aload_n 0, 1) := by decide +kernel
theorem dMo_groups_41 : decode bMo_groups 41 = .ok (.getfield 44, 3) := by decide +kernel
theorem dMo_groups_44 : decode bMo_groups 44 = .ok (.iload_n 2, 1) := by decide +kernel
theorem dMo_groups_45 : decode bMo_groups 45 = .ok (.iload_n 2, 1) := by decide +kernel
theorem dMo_groups_46 : decode bMo_groups 46 = .ok (.iastore, 1) := by decide +kernel
theorem dMo_groups_47 : decode bMo_groups 47 = .ok (.iinc 2 (1), 3) := by decide +kernel
theorem dMo_groups_50 : decode bMo_groups 50 = .ok (.goto (-18), 3) := by decide +kernel
theorem dMo_groups_53 : decode bMo_groups 53 = .ok (.iconst 0, 1) := by decide +kernel
theorem dMo_groups_54 : decode bMo_groups 54 = .ok (.istore_n 2, 1) := by decide +kernel
theorem dMo_groups_55 : decode bMo_groups 55 = .ok (.iload_n 2, 1) := by decide +kernel
theorem dMo_groups_56 : decode bMo_groups 56 = .ok (.aload_n 0, 1) := by decide +kernel
theorem dMo_groups_57 : decode bMo_groups 57 = .ok (.getfield 60, 3) := by decide +kernel
theorem dMo_groups_60 : decode bMo_groups 60 = .ok (.aload_n 0, 1) := by decide +kernel
theorem dMo_groups_61 : decode bMo_groups 61 = .ok (.getfield 60, 3) := by decide +kernel
theorem dMo_groups_64 : decode bMo_groups 64 = .ok (.imul, 1) := by decide +kernel
theorem dMo_groups_65 : decode bMo_groups 65 = .ok (.if_icmp .ge (116), 3) := by decide +kernel
theorem dMo_groups_68 : decode bMo_groups 68 = .ok (.iload_n 2, 1) := by decide +kernel
theorem dMo_groups_69 : decode bMo_groups 69 = .ok (.aload_n 0, 1) := by decide +kernel
theorem dMo_groups_70 : decode bMo_groups 70 = .ok (.getfield 60, 3) := by decide +kernel
theorem dMo_groups_73 : decode bMo_groups 73 = .ok (.idiv, 1) := by decide +kernel
theorem dMo_groups_74 : decode bMo_groups 74 = .ok (.istore_n 3, 1) := by decide +kernel
theorem dMo_groups_75 : decode bMo_groups 75 = .ok (.iload_n 2, 1) := by decide +kernel
theorem dMo_groups_76 : decode bMo_groups 76 = .ok (.aload_n 0, 1) := by decide +kernel
theorem dMo_groups_77 : decode bMo_groups 77 = .ok (.getfield 60, 3) := by decide +kernel
theorem dMo_groups_80 : decode bMo_groups 80 = .ok (.irem, 1) := by decide +kernel
theorem dMo_groups_81 : decode bMo_groups 81 = .ok (.istore 4, 2) := by decide +kernel
theorem dMo_groups_83 : decode bMo_groups 83 = .ok (.aload_n 0, 1) := by decide +kernel
theorem dMo_groups_84 : decode bMo_groups 84 = .ok (.getfield 44, 3) := by decide +kernel
theorem dMo_groups_87 : decode bMo_groups 87 = .ok (.iload_n 3, 1) := by decide +kernel
theorem dMo_groups_88 : decode bMo_groups 88 = .ok (.iaload, 1) := by decide +kernel
theorem dMo_groups_89 : decode bMo_groups 89 = .ok (.istore 5, 2) := by decide +kernel
theorem dMo_groups_91 : decode bMo_groups 91 = .ok (.iconst 0, 1) := by decide +kernel
theorem dMo_groups_92 : decode bMo_groups 92 = .ok (.istore 6, 2) := by decide +kernel
theorem dMo_groups_94 : decode bMo_groups 94 = .ok (.iload 6, 2) := by decide +kernel
theorem dMo_groups_96 : decode bMo_groups 96 = .ok (.aload_n 0, 1) := by decide +kernel
theorem dMo_groups_97 : decode bMo_groups 97 = .ok (.getfield 60, 3) := by decide +kernel
theorem dMo_groups_100 : decode bMo_groups 100 = .ok (.if_icmp .ge (75), 3) := by decide +kernel
theorem dMo_groups_103 : decode bMo_groups 103 = .ok (.iload 5, 2) := by decide +kernel
theorem dMo_groups_105 : decode bMo_groups 105 = .ok (.aload_n 0, 1) := by decide +kernel
theorem dMo_groups_106 : decode bMo_groups 106 = .ok (.getfield 44, 3) := by decide +kernel
theorem dMo_groups_109 : decode bMo_groups 109 = .ok (.iload 4, 2) := by decide +kernel
theorem dMo_groups_111 : decode bMo_groups 111 = .ok (.iaload, 1) := by decide +kernel
theorem dMo_groups_112 : decode bMo_groups 112 = .ok (.if_icmp .eq (63), 3) := by decide +kernel
theorem dMo_groups_115 : decode bMo_groups 115 = .ok (.aload_n 0, 1) := by decide +kernel
theorem dMo_groups_116 : decode bMo_groups 116 = .ok (.iload_n 3, 1) := by decide +kernel
theorem dMo_groups_117 : decode bMo_groups 117 = .ok (.iload 4, 2) := by decide +kernel
theorem dMo_groups_119 : decode bMo_groups 119 = .ok (.iload_n 1, 1) := by decide +kernel
theorem dMo_groups_120 : decode bMo_groups 120 = .ok (.invokevirtual 97, 3) := by decide +kernel
theorem dMo_groups_123 : decode bMo_groups 123 = .ok (.ifCond .eq (52), 3) := by decide +kernel
theorem dMo_groups_126 : decode bMo_groups 126 = .ok (.aload_n 0, 1) := by decide +kernel
theorem dMo_groups_127 : decode bMo_groups 127 = .ok (.getfield 44, 3) := by decide +kernel
theorem dMo_groups_130 : decode bMo_groups 130 = .ok (.iload 6, 2) := by decide +kernel
theorem dMo_groups_132 : decode bMo_groups 132 = .ok (.iload 6, 2) := by decide +kernel
theorem dMo_groups_134 : decode bMo_groups 134 = .ok (.iload 4, 2) := by decide +kernel
theorem dMo_groups_136 : decode bMo_groups 136 = .ok (.if_icmp .eq (25), 3) := by decide +kernel
theorem dMo_groups_139 : decode bMo_groups 139 = .ok (.aload_n 0, 1) := by decide +kernel
theorem dMo_groups_140 : decode bMo_groups 140 = .ok (.getfield 44, 3) := by decide +kernel
theorem dMo_groups_143 : decode bMo_groups 143 = .ok (.iload 6, 2) := by decide +kernel
theorem dMo_groups_145 : decode bMo_groups 145 = .ok (.iaload, 1) := by decide +kernel
theorem dMo_groups_146 : decode bMo_groups 146 = .ok (.iload 5, 2) := by decide +kernel
theorem dMo_groups_148 : decode bMo_groups 148 = .ok (.if_icmp .ne (13), 3) := by decide +kernel
theorem dMo_groups_151 : decode bMo_groups 151 = .ok (.aload_n 0, 1) := by decide +kernel
theorem dMo_groups_152 : decode bMo_groups 152 = .ok (.getfield 44, 3) := by decide +kernel
theorem dMo_groups_155 : decode bMo_groups 155 = .ok (.iload 4, 2) := by decide +kernel
theorem dMo_groups_157 : decode bMo_groups 157 = .ok (.iaload, 1) := by decide +kernel
theorem dMo_groups_158 : decode bMo_groups 158 = .ok (.goto (10), 3) := by decide +kernel
theorem dMo_groups_161 : decode bMo_groups 161 = .ok (.aload_n 0, 1) := by decide +kernel
theorem dMo_groups_162 : decode bMo_groups 162 = .ok (.getfield 44, 3) := by decide +kernel
theorem dMo_groups_165 : decode bMo_groups 165 = .ok (.iload 6, 2) := by decide +kernel
theorem dMo_groups_167 : decode bMo_groups 167 = .ok (.iaload, 1) := by decide +kernel
theorem dMo_groups_168 : decode bMo_groups 168 = .ok (.iastore, 1) := by decide +kernel
theorem dMo_groups_169 : decode bMo_groups 169 = .ok (.iinc 6 (1), 3) := by decide +kernel
theorem dMo_groups_172 : decode bMo_groups 172 = .ok (.goto (-78), 3) := by decide +kernel
theorem dMo_groups_175 : decode bMo_groups 175 = .ok (.iinc 2 (1), 3) := by decide +kernel
theorem dMo_groups_178 : decode bMo_groups 178 = .ok (.goto (-123), 3) := by decide +kernel
theorem dMo_groups_181 : decode bMo_groups 181 = .ok (.iconst 0, 1) := by decide +kernel
theorem dMo_groups_182 : decode bMo_groups 182 = .ok (.istore_n 2, 1) := by decide +kernel
theorem dMo_groups_183 : decode bMo_groups 183 = .ok (.iconst 0, 1) := by decide +kernel
theorem dMo_groups_184 : decode bMo_groups 184 = .ok (.istore_n 3, 1) := by decide +kernel
theorem dMo_groups_185 : decode bMo_groups 185 = .ok (.iload_n 3, 1) := by decide +kernel
theorem dMo_groups_186 : decode bMo_groups 186 = .ok (.aload_n 0, 1) := by decide +kernel
theorem dMo_groups_187 : decode bMo_groups 187 = .ok (.getfield 60, 3) := by decide +kernel
theorem dMo_groups_190 : decode bMo_groups 190 = .ok (.if_icmp .ge (68), 3) := by decide +kernel
theorem dMo_groups_193 : decode bMo_groups 193 = .ok (.iconst 1, 1) := by decide +kernel
theorem dMo_groups_194 : decode bMo_groups 194 = .ok (.istore 4, 2) := by decide +kernel
theorem dMo_groups_196 : decode bMo_groups 196 = .ok (.iconst 0, 1) := by decide +kernel
theorem dMo_groups_197 : decode bMo_groups 197 = .ok (.istore 5, 2) := by decide +kernel
theorem dMo_groups_199 : decode bMo_groups 199 = .ok (.iload 5, 2) := by decide +kernel
theorem dMo_groups_201 : decode bMo_groups 201 = .ok (.iload_n 3, 1) := by decide +kernel
theorem dMo_groups_202 : decode bMo_groups 202 = .ok (.if_icmp .ge (37), 3) := by decide +kernel
theorem dMo_groups_205 : decode bMo_groups 205 = .ok (.iload 4, 2) := by decide +kernel
theorem dMo_groups_207 : decode bMo_groups 207 = .ok (.ifCond .eq (23), 3) := by decide +kernel
theorem dMo_groups_210 : decode bMo_groups 210 = .ok (.aload_n 0, 1) := by decide +kernel
theorem dMo_groups_211 : decode bMo_groups 211 = .ok (.getfield 44, 3) := by decide +kernel
theorem dMo_groups_214 : decode bMo_groups 214 = .ok (.iload 5, 2) := by decide +kernel
theorem dMo_groups_216 : decode bMo_groups 216 = .ok (.iaload, 1) := by decide +kernel
theorem dMo_groups_217 : decode bMo_groups 217 = .ok (.aload_n 0, 1) := by decide +kernel
theorem dMo_groups_218 : decode bMo_groups 218 = .ok (.getfield 44, 3) := by decide +kernel
theorem dMo_groups_221 : decode bMo_groups 221 = .ok (.iload_n 3, 1) := by decide +kernel
theorem dMo_groups_222 : decode bMo_groups 222 = .ok (.iaload, 1) := by decide +kernel
theorem dMo_groups_223 : decode bMo_groups 223 = .ok (.if_icmp .eq (7), 3) := by decide +kernel
theorem dMo_groups_226 : decode bMo_groups 226 = .ok (.iconst 1, 1) := by decide +kernel
theorem dMo_groups_227 : decode bMo_groups 227 = .ok (.goto (4), 3) := by decide +kernel
theorem dMo_groups_230 : decode bMo_groups 230 = .ok (.iconst 0, 1) := by decide +kernel
theorem dMo_groups_231 : decode bMo_groups 231 = .ok (.istore 4, 2) := by decide +kernel
theorem dMo_groups_233 : decode bMo_groups 233 = .ok (.iinc 5 (1), 3) := by decide +kernel
theorem dMo_groups_236 : decode bMo_groups 236 = .ok (.goto (-37), 3) := by decide +kernel
theorem dMo_groups_239 : decode bMo_groups 239 = .ok (.iload 4, 2) := by decide +kernel
theorem dMo_groups_241 : decode bMo_groups 241 = .ok (.ifCond .eq (9), 3) := by decide +kernel
theorem dMo_groups_244 : decode bMo_groups 244 = .ok (.iload_n 2, 1) := by decide +kernel
theorem dMo_groups_245 : decode bMo_groups 245 = .ok (.iconst 1, 1) := by decide +kernel
theorem dMo_groups_246 : decode bMo_groups 246 = .ok (.iadd, 1) := by decide +kernel
theorem dMo_groups_247 : decode bMo_groups 247 = .ok (.goto (4), 3) := by decide +kernel
theorem dMo_groups_250 : decode bMo_groups 250 = .ok (.iload_n 2, 1) := by decide +kernel
theorem dMo_groups_251 : decode bMo_groups 251 = .ok (.istore_n 2, 1) := by decide +kernel
theorem dMo_groups_252 : decode bMo_groups 252 = .ok (.iinc 3 (1), 3) := by decide +kernel
theorem dMo_groups_255 : decode bMo_groups 255 = .ok (.goto (-70), 3) := by decide +kernel
theorem dMo_groups_258 : decode bMo_groups 258 = .ok (.iload_n 2, 1) := by decide +kernel
theorem dMo_groups_259 : decode bMo_groups 259 = .ok (.ireturn, 1) := by decide +kernel
theorem dMo_apart_0 : decode bMo_apart 0 = .ok (.iconst 0, 1) := by decide +kernel
theorem dMo_apart_1 : decode bMo_apart 1 = .ok (.istore_n 3, 1) := by decide +kernel
theorem dMo_apart_2 : decode bMo_apart 2 = .ok (.iconst 0, 1) := by decide +kernel
theorem dMo_apart_3 : decode bMo_apart 3 = .ok (.istore 4, 2) := by decide +kernel
theorem dMo_apart_5 : decode bMo_apart 5 = .ok (.iload 4, 2) := by decide +kernel
theorem dMo_apart_7 : decode bMo_apart 7 = .ok (.aload_n 0, 1) := by decide +kernel
theorem dMo_apart_8 : decode bMo_apart 8 = .ok (.getfield 50, 3) := by decide +kernel
theorem dMo_apart_11 : decode bMo_apart 11 = .ok (.if_icmp .ge (44), 3) := by decide +kernel
theorem dMo_apart_14 : decode bMo_apart 14 = .ok (.aload_n 0, 1) := by decide +kernel
theorem dMo_apart_15 : decode bMo_apart 15 = .ok (.getfield 16, 3) := by decide +kernel
theorem dMo_apart_18 : decode bMo_apart 18 = .ok (.bipush (11), 2) := by decide +kernel
theorem dMo_apart_20 : decode bMo_apart 20 = .ok (.iload_n 1, 1) := by decide +kernel
theorem dMo_apart_21 : decode bMo_apart 21 = .ok (.imul, 1) := by decide +kernel
theorem dMo_apart_22 : decode bMo_apart 22 = .ok (.iload 4, 2) := by decide +kernel
theorem dMo_apart_24 : decode bMo_apart 24 = .ok (.iadd, 1) := by decide +kernel
theorem dMo_apart_25 : decode bMo_apart 25 = .ok (.iaload, 1) := by decide +kernel
theorem dMo_apart_26 : decode bMo_apart 26 = .ok (.aload_n 0, 1) := by decide +kernel
theorem dMo_apart_27 : decode bMo_apart 27 = .ok (.getfield 16, 3) := by decide +kernel
theorem dMo_apart_30 : decode bMo_apart 30 = .ok (.bipush (11), 2) := by decide +kernel
theorem dMo_apart_32 : decode bMo_apart 32 = .ok (.iload_n 2, 1) := by decide +kernel
theorem dMo_apart_33 : decode bMo_apart 33 = .ok (.imul, 1) := by decide +kernel
theorem dMo_apart_34 : decode bMo_apart 34 = .ok (.iload 4, 2) := by decide +kernel
theorem dMo_apart_36 : decode bMo_apart 36 = .ok (.iadd, 1) := by decide +kernel
theorem dMo_apart_37 : decode bMo_apart 37 = .ok (.iaload, 1) := by decide +kernel
theorem dMo_apart_38 : decode bMo_apart 38 = .ok (.isub, 1) := by decide +kernel
theorem dMo_apart_39 : decode bMo_apart 39 = .ok (.istore 5, 2) := by decide +kernel
theorem dMo_apart_41 : decode bMo_apart 41 = .ok (.iload_n 3, 1) := by decide +kernel
theorem dMo_apart_42 : decode bMo_apart 42 = .ok (.iload 5, 2) := by decide +kernel
theorem dMo_apart_44 : decode bMo_apart 44 = .ok (.iload 5, 2) := by decide +kernel
theorem dMo_apart_46 : decode bMo_apart 46 = .ok (.imul, 1) := by decide +kernel
theorem dMo_apart_47 : decode bMo_apart 47 = .ok (.iadd, 1) := by decide +kernel
theorem dMo_apart_48 : decode bMo_apart 48 = .ok (.istore_n 3, 1) := by decide +kernel
theorem dMo_apart_49 : decode bMo_apart 49 = .ok (.iinc 4 (1), 3) := by decide +kernel
theorem dMo_apart_52 : decode bMo_apart 52 = .ok (.goto (-47), 3) := by decide +kernel
theorem dMo_apart_55 : decode bMo_apart 55 = .ok (.iload_n 3, 1) := by decide +kernel
theorem dMo_apart_56 : decode bMo_apart 56 = .ok (.ireturn, 1) := by decide +kernel
theorem dMo_isNear_0 : decode bMo_isNear 0 = .ok (.iload_n 1, 1) := by decide +kernel
theorem dMo_isNear_1 : decode bMo_isNear 1 = .ok (.iload_n 2, 1) := by decide +kernel
theorem dMo_isNear_2 : decode bMo_isNear 2 = .ok (.if_icmp .eq (17), 3) := by decide +kernel
theorem dMo_isNear_5 : decode bMo_isNear 5 = .ok (.aload_n 0, 1) := by decide +kernel
theorem dMo_isNear_6 : decode bMo_isNear 6 = .ok (.getfield 13, 3) := by decide +kernel
theorem dMo_isNear_9 : decode bMo_isNear 9 = .ok (.iload_n 1, 1) := by decide +kernel
theorem dMo_isNear_10 : decode bMo_isNear 10 = .ok (.iaload, 1) := by decide +kernel
theorem dMo_isNear_11 : decode bMo_isNear 11 = .ok (.iconst (-1), 1) := by decide +kernel
theorem dMo_isNear_12 : decode bMo_isNear 12 = .ok (.if_icmp .eq (7), 3) := by decide +kernel
theorem dMo_isNear_15 : decode bMo_isNear 15 = .ok (.iconst 1, 1) := by decide +kernel
theorem dMo_isNear_16 : decode bMo_isNear 16 = .ok (.goto (4), 3) := by decide +kernel
theorem dMo_isNear_19 : decode bMo_isNear 19 = .ok (.iconst 0, 1) := by decide +kernel
theorem dMo_isNear_20 : decode bMo_isNear 20 = .ok (.ireturn, 1) := by decide +kernel
theorem dMo_nearest_0 : decode bMo_nearest 0 = .ok (.aload_n 0, 1) := by decide +kernel
theorem dMo_nearest_1 : decode bMo_nearest 1 = .ok (.aload_n 0, 1) := by decide +kernel
theorem dMo_nearest_2 : decode bMo_nearest 2 = .ok (.iload_n 1, 1) := by decide +kernel
theorem dMo_nearest_3 : decode bMo_nearest 3 = .ok (.invokevirtual 67, 3) := by decide +kernel
theorem dMo_nearest_6 : decode bMo_nearest 6 = .ok (.ifCond .ne (7), 3) := by decide +kernel
theorem dMo_nearest_9 : decode bMo_nearest 9 = .ok (.iconst 1, 1) := by decide +kernel
theorem dMo_nearest_10 : decode bMo_nearest 10 = .ok (.goto (12), 3) := by decide +kernel
theorem dMo_nearest_13 : decode bMo_nearest 13 = .ok (.iload_n 2, 1) := by decide +kernel
theorem dMo_nearest_14 : decode bMo_nearest 14 = .ok (.ifCond .ge (7), 3) := by decide +kernel
theorem dMo_nearest_17 : decode bMo_nearest 17 = .ok (.iconst 2, 1) := by decide +kernel
theorem dMo_nearest_18 : decode bMo_nearest 18 = .ok (.goto (4), 3) := by decide +kernel
theorem dMo_nearest_21 : decode bMo_nearest 21 = .ok (.iconst 0, 1) := by decide +kernel
theorem dMo_nearest_22 : decode bMo_nearest 22 = .ok (.putfield 53, 3) := by decide +kernel
theorem dMo_nearest_25 : decode bMo_nearest 25 = .ok (.iconst 0, 1) := by decide +kernel
theorem dMo_nearest_26 : decode bMo_nearest 26 = .ok (.istore_n 3, 1) := by decide +kernel
theorem dMo_nearest_27 : decode bMo_nearest 27 = .ok (.iload_n 3, 1) := by decide +kernel
theorem dMo_nearest_28 : decode bMo_nearest 28 = .ok (.aload_n 0, 1) := by decide +kernel
theorem dMo_nearest_29 : decode bMo_nearest 29 = .ok (.getfield 60, 3) := by decide +kernel
theorem dMo_nearest_32 : decode bMo_nearest 32 = .ok (.if_icmp .ge (125), 3) := by decide +kernel
theorem dMo_nearest_35 : decode bMo_nearest 35 = .ok (.aload_n 0, 1) := by decide +kernel
theorem dMo_nearest_36 : decode bMo_nearest 36 = .ok (.getfield 53, 3) := by decide +kernel
theorem dMo_nearest_39 : decode bMo_nearest 39 = .ok (.ifCond .ne (118), 3) := by decide +kernel
theorem dMo_nearest_42 : decode bMo_nearest 42 = .ok (.iconst 0, 1) := by decide +kernel
theorem dMo_nearest_43 : decode bMo_nearest 43 = .ok (.istore 4, 2) := by decide +kernel
theorem dMo_nearest_45 : decode bMo_nearest 45 = .ok (.iconst 0, 1) := by decide +kernel
theorem dMo_nearest_46 : decode bMo_nearest 46 = .ok (.istore 5, 2) := by decide +kernel
theorem dMo_nearest_48 : decode bMo_nearest 48 = .ok (.iload 5, 2) := by decide +kernel
theorem dMo_nearest_50 : decode bMo_nearest 50 = .ok (.aload_n 0, 1) := by decide +kernel
theorem dMo_nearest_51 : decode bMo_nearest 51 = .ok (.getfield 60, 3) := by decide +kernel
theorem dMo_nearest_54 : decode bMo_nearest 54 = .ok (.if_icmp .ge (80), 3) := by decide +kernel
theorem dMo_nearest_57 : decode bMo_nearest 57 = .ok (.aload_n 0, 1) := by decide +kernel
theorem dMo_nearest_58 : decode bMo_nearest 58 = .ok (.iload 5, 2) := by decide +kernel
theorem dMo_nearest_60 : decode bMo_nearest 60 = .ok (.iload_n 1, 1) := by decide +kernel
theorem dMo_nearest_61 : decode bMo_nearest 61 = .ok (.invokevirtual 100, 3) := by decide +kernel
theorem dMo_nearest_64 : decode bMo_nearest 64 = .ok (.aload_n 0, 1) := by decide +kernel
theorem dMo_nearest_65 : decode bMo_nearest 65 = .ok (.iload_n 3, 1) := by decide +kernel
theorem dMo_nearest_66 : decode bMo_nearest 66 = .ok (.iload_n 1, 1) := by decide +kernel
theorem dMo_nearest_67 : decode bMo_nearest 67 = .ok (.invokevirtual 100, 3) := by decide +kernel
theorem dMo_nearest_70 : decode bMo_nearest 70 = .ok (.if_icmp .lt (25), 3) := by decide +kernel
theorem dMo_nearest_73 : decode bMo_nearest 73 = .ok (.aload_n 0, 1) := by decide +kernel
theorem dMo_nearest_74 : decode bMo_nearest 74 = .ok (.iload 5, 2) := by decide +kernel
theorem dMo_nearest_76 : decode bMo_nearest 76 = .ok (.iload_n 1, 1) := by decide +kernel
theorem dMo_nearest_77 : decode bMo_nearest 77 = .ok (.invokevirtual 100, 3) := by decide +kernel
theorem dMo_nearest_80 : decode bMo_nearest 80 = .ok (.aload_n 0, 1) := by decide +kernel
theorem dMo_nearest_81 : decode bMo_nearest 81 = .ok (.iload_n 3, 1) := by decide +kernel
theorem dMo_nearest_82 : decode bMo_nearest 82 = .ok (.iload_n 1, 1) := by decide +kernel
theorem dMo_nearest_83 : decode bMo_nearest 83 = .ok (.invokevirtual 100, 3) := by decide +kernel
theorem dMo_nearest_86 : decode bMo_nearest 86 = .ok (.if_icmp .ne (13), 3) := by decide +kernel
theorem dMo_nearest_89 : decode bMo_nearest 89 = .ok (.iload 5, 2) := by decide +kernel
theorem dMo_nearest_91 : decode bMo_nearest 91 = .ok (.iload_n 3, 1) := by decide +kernel
theorem dMo_nearest_92 : decode bMo_nearest 92 = .ok (.if_icmp .ge (7), 3) := by decide +kernel
theorem dMo_nearest_95 : decode bMo_nearest 95 = .ok (.iconst 1, 1) := by decide +kernel
theorem dMo_nearest_96 : decode bMo_nearest 96 = .ok (.goto (4), 3) := by decide +kernel
theorem dMo_nearest_99 : decode bMo_nearest 99 = .ok (.iconst 0, 1) := by decide +kernel
theorem dMo_nearest_100 : decode bMo_nearest 100 = .ok (.istore 6, 2) := by decide +kernel
theorem dMo_nearest_102 : decode bMo_nearest 102 = .ok (.iload 6, 2) := by decide +kernel
theorem dMo_nearest_104 : decode bMo_nearest 104 = .ok (.ifCond .eq (20), 3) := by decide +kernel
theorem dMo_nearest_107 : decode bMo_nearest 107 = .ok (.aload_n 0, 1) := by decide +kernel
theorem dMo_nearest_108 : decode bMo_nearest 108 = .ok (.iload 5, 2) := by decide +kernel
theorem dMo_nearest_110 : decode bMo_nearest 110 = .ok (.iload_n 1, 1) := by decide +kernel
theorem dMo_nearest_111 : decode bMo_nearest 111 = .ok (.invokevirtual 103, 3) := by decide +kernel
theorem dMo_nearest_114 : decode bMo_nearest 114 = .ok (.ifCond .eq (10), 3) := by decide +kernel
theorem dMo_nearest_117 : decode bMo_nearest 117 = .ok (.iload 4, 2) := by decide +kernel
theorem dMo_nearest_119 : decode bMo_nearest 119 = .ok (.iconst 1, 1) := by decide +kernel
theorem dMo_nearest_120 : decode bMo_nearest 120 = .ok (.iadd, 1) := by decide +kernel
theorem dMo_nearest_121 : decode bMo_nearest 121 = .ok (.goto (5), 3) := by decide +kernel
theorem dMo_nearest_124 : decode bMo_nearest 124 = .ok (.iload 4, 2) := by decide +kernel
theorem dMo_nearest_126 : decode bMo_nearest 126 = .ok (.istore 4, 2) := by decide +kernel
theorem dMo_nearest_128 : decode bMo_nearest 128 = .ok (.iinc 5 (1), 3) := by decide +kernel
theorem dMo_nearest_131 : decode bMo_nearest 131 = .ok (.goto (-83), 3) := by decide +kernel
theorem dMo_nearest_134 : decode bMo_nearest 134 = .ok (.aload_n 0, 1) := by decide +kernel
theorem dMo_nearest_135 : decode bMo_nearest 135 = .ok (.iload_n 3, 1) := by decide +kernel
theorem dMo_nearest_136 : decode bMo_nearest 136 = .ok (.iload_n 1, 1) := by decide +kernel
theorem dMo_nearest_137 : decode bMo_nearest 137 = .ok (.invokevirtual 103, 3) := by decide +kernel
theorem dMo_nearest_140 : decode bMo_nearest 140 = .ok (.ifCond .eq (11), 3) := by decide +kernel
theorem dMo_nearest_143 : decode bMo_nearest 143 = .ok (.iload 4, 2) := by decide +kernel
theorem dMo_nearest_145 : decode bMo_nearest 145 = .ok (.iload_n 2, 1) := by decide +kernel
theorem dMo_nearest_146 : decode bMo_nearest 146 = .ok (.if_icmp .ne (5), 3) := by decide +kernel
theorem dMo_nearest_149 : decode bMo_nearest 149 = .ok (.iload_n 3, 1) := by decide +kernel
theorem dMo_nearest_150 : decode bMo_nearest 150 = .ok (.ireturn, 1) := by decide +kernel
theorem dMo_nearest_151 : decode bMo_nearest 151 = .ok (.iinc 3 (1), 3) := by decide +kernel
theorem dMo_nearest_154 : decode bMo_nearest 154 = .ok (.goto (-127), 3) := by decide +kernel
theorem dMo_nearest_157 : decode bMo_nearest 157 = .ok (.aload_n 0, 1) := by decide +kernel
theorem dMo_nearest_158 : decode bMo_nearest 158 = .ok (.getfield 53, 3) := by decide +kernel
theorem dMo_nearest_161 : decode bMo_nearest 161 = .ok (.ifCond .le (7), 3) := by decide +kernel
theorem dMo_nearest_164 : decode bMo_nearest 164 = .ok (.iconst 0, 1) := by decide +kernel
theorem dMo_nearest_165 : decode bMo_nearest 165 = .ok (.goto (4), 3) := by decide +kernel
theorem dMo_nearest_168 : decode bMo_nearest 168 = .ok (.iconst (-1), 1) := by decide +kernel
theorem dMo_nearest_169 : decode bMo_nearest 169 = .ok (.ireturn, 1) := by decide +kernel
theorem dMo_distance_0 : decode bMo_distance 0 = .ok (.aload_n 0, 1) := by decide +kernel
theorem dMo_distance_1 : decode bMo_distance 1 = .ok (.aload_n 0, 1) := by decide +kernel
theorem dMo_distance_2 : decode bMo_distance 2 = .ok (.iload_n 1, 1) := by decide +kernel
theorem dMo_distance_3 : decode bMo_distance 3 = .ok (.invokevirtual 67, 3) := by decide +kernel
theorem dMo_distance_6 : decode bMo_distance 6 = .ok (.ifCond .eq (11), 3) := by decide +kernel
theorem dMo_distance_9 : decode bMo_distance 9 = .ok (.aload_n 0, 1) := by decide +kernel
theorem dMo_distance_10 : decode bMo_distance 10 = .ok (.iload_n 2, 1) := by decide +kernel
theorem dMo_distance_11 : decode bMo_distance 11 = .ok (.invokevirtual 67, 3) := by decide +kernel
theorem dMo_distance_14 : decode bMo_distance 14 = .ok (.ifCond .ne (7), 3) := by decide +kernel
theorem dMo_distance_17 : decode bMo_distance 17 = .ok (.iconst 1, 1) := by decide +kernel
theorem dMo_distance_18 : decode bMo_distance 18 = .ok (.goto (4), 3) := by decide +kernel
theorem dMo_distance_21 : decode bMo_distance 21 = .ok (.iconst 0, 1) := by decide +kernel
theorem dMo_distance_22 : decode bMo_distance 22 = .ok (.putfield 53, 3) := by decide +kernel
theorem dMo_distance_25 : decode bMo_distance 25 = .ok (.aload_n 0, 1) := by decide +kernel
theorem dMo_distance_26 : decode bMo_distance 26 = .ok (.getfield 53, 3) := by decide +kernel
theorem dMo_distance_29 : decode bMo_distance 29 = .ok (.ifCond .le (7), 3) := by decide +kernel
theorem dMo_distance_32 : decode bMo_distance 32 = .ok (.iconst 0, 1) := by decide +kernel
theorem dMo_distance_33 : decode bMo_distance 33 = .ok (.goto (9), 3) := by decide +kernel
theorem dMo_distance_36 : decode bMo_distance 36 = .ok (.aload_n 0, 1) := by decide +kernel
theorem dMo_distance_37 : decode bMo_distance 37 = .ok (.iload_n 1, 1) := by decide +kernel
theorem dMo_distance_38 : decode bMo_distance 38 = .ok (.iload_n 2, 1) := by decide +kernel
theorem dMo_distance_39 : decode bMo_distance 39 = .ok (.invokevirtual 100, 3) := by decide +kernel
theorem dMo_distance_42 : decode bMo_distance 42 = .ok (.ireturn, 1) := by decide +kernel
theorem dMo_haul_0 : decode bMo_haul 0 = .ok (.aload_n 0, 1) := by decide +kernel
theorem dMo_haul_1 : decode bMo_haul 1 = .ok (.iload_n 1, 1) := by decide +kernel
theorem dMo_haul_2 : decode bMo_haul 2 = .ok (.bipush (-100), 2) := by decide +kernel
theorem dMo_haul_4 : decode bMo_haul 4 = .ok (.bipush (100), 2) := by decide +kernel
theorem dMo_haul_6 : decode bMo_haul 6 = .ok (.invokestatic 56, 3) := by decide +kernel
theorem dMo_haul_9 : decode bMo_haul 9 = .ok (.ifCond .eq (14), 3) := by decide +kernel
theorem dMo_haul_12 : decode bMo_haul 12 = .ok (.iload_n 2, 1) := by decide +kernel
theorem dMo_haul_13 : decode bMo_haul 13 = .ok (.bipush (-100), 2) := by decide +kernel
theorem dMo_haul_15 : decode bMo_haul 15 = .ok (.bipush (100), 2) := by decide +kernel
theorem dMo_haul_17 : decode bMo_haul 17 = .ok (.invokestatic 56, 3) := by decide +kernel
theorem dMo_haul_20 : decode bMo_haul 20 = .ok (.ifCond .ne (7), 3) := by decide +kernel
theorem dMo_haul_23 : decode bMo_haul 23 = .ok (.iconst 1, 1) := by decide +kernel
theorem dMo_haul_24 : decode bMo_haul 24 = .ok (.goto (17), 3) := by decide +kernel
theorem dMo_haul_27 : decode bMo_haul 27 = .ok (.aload_n 0, 1) := by decide +kernel
theorem dMo_haul_28 : decode bMo_haul 28 = .ok (.getfield 107, 3) := by decide +kernel
theorem dMo_haul_31 : decode bMo_haul 31 = .ok (.bipush (12), 2) := by decide +kernel
theorem dMo_haul_33 : decode bMo_haul 33 = .ok (.if_icmp .ne (7), 3) := by decide +kernel
theorem dMo_haul_36 : decode bMo_haul 36 = .ok (.iconst 2, 1) := by decide +kernel
theorem dMo_haul_37 : decode bMo_haul 37 = .ok (.goto (4), 3) := by decide +kernel
theorem dMo_haul_40 : decode bMo_haul 40 = .ok (.iconst 0, 1) := by decide +kernel
theorem dMo_haul_41 : decode bMo_haul 41 = .ok (.putfield 53, 3) := by decide +kernel
theorem dMo_haul_44 : decode bMo_haul 44 = .ok (.aload_n 0, 1) := by decide +kernel
theorem dMo_haul_45 : decode bMo_haul 45 = .ok (.getfield 53, 3) := by decide +kernel
theorem dMo_haul_48 : decode bMo_haul 48 = .ok (.ifCond .le (5), 3) := by decide +kernel
theorem dMo_haul_51 : decode bMo_haul 51 = .ok (.iconst 0, 1) := by decide +kernel
theorem dMo_haul_52 : decode bMo_haul 52 = .ok (.ireturn, 1) := by decide +kernel
theorem dMo_haul_53 : decode bMo_haul 53 = .ok (.aload_n 0, 1) := by decide +kernel
theorem dMo_haul_54 : decode bMo_haul 54 = .ok (.getfield 26, 3) := by decide +kernel
theorem dMo_haul_57 : decode bMo_haul 57 = .ok (.aload_n 0, 1) := by decide +kernel
theorem dMo_haul_58 : decode bMo_haul 58 = .ok (.getfield 107, 3) := by decide +kernel
theorem dMo_haul_61 : decode bMo_haul 61 = .ok (.iload_n 1, 1) := by decide +kernel
theorem dMo_haul_62 : decode bMo_haul 62 = .ok (.iastore, 1) := by decide +kernel
theorem dMo_haul_63 : decode bMo_haul 63 = .ok (.aload_n 0, 1) := by decide +kernel
theorem dMo_haul_64 : decode bMo_haul 64 = .ok (.getfield 29, 3) := by decide +kernel
theorem dMo_haul_67 : decode bMo_haul 67 = .ok (.aload_n 0, 1) := by decide +kernel
theorem dMo_haul_68 : decode bMo_haul 68 = .ok (.getfield 107, 3) := by decide +kernel
theorem dMo_haul_71 : decode bMo_haul 71 = .ok (.iload_n 2, 1) := by decide +kernel
theorem dMo_haul_72 : decode bMo_haul 72 = .ok (.iastore, 1) := by decide +kernel
theorem dMo_haul_73 : decode bMo_haul 73 = .ok (.aload_n 0, 1) := by decide +kernel
theorem dMo_haul_74 : decode bMo_haul 74 = .ok (.dup, 1) := by decide +kernel
theorem dMo_haul_75 : decode bMo_haul 75 = .ok (.getfield 107, 3) := by decide +kernel
theorem dMo_haul_78 : decode bMo_haul 78 = .ok (.iconst 1, 1) := by decide +kernel
theorem dMo_haul_79 : decode bMo_haul 79 = .ok (.iadd, 1) := by decide +kernel
theorem dMo_haul_80 : decode bMo_haul 80 = .ok (.putfield 107, 3) := by decide +kernel
theorem dMo_haul_83 : decode bMo_haul 83 = .ok (.aload_n 0, 1) := by decide +kernel
theorem dMo_haul_84 : decode bMo_haul 84 = .ok (.getfield 107, 3) := by decide +kernel
theorem dMo_haul_87 : decode bMo_haul 87 = .ok (.iconst 1, 1) := by decide +kernel
theorem dMo_haul_88 : decode bMo_haul 88 = .ok (.isub, 1) := by decide +kernel
theorem dMo_haul_89 : decode bMo_haul 89 = .ok (.ireturn, 1) := by decide +kernel
theorem dMo_grams_0 : decode bMo_grams 0 = .ok (.aload_n 0, 1) := by decide +kernel
theorem dMo_grams_1 : decode bMo_grams 1 = .ok (.iload_n 1, 1) := by decide +kernel
theorem dMo_grams_2 : decode bMo_grams 2 = .ok (.iconst 0, 1) := by decide +kernel
theorem dMo_grams_3 : decode bMo_grams 3 = .ok (.aload_n 0, 1) := by decide +kernel
theorem dMo_grams_4 : decode bMo_grams 4 = .ok (.getfield 107, 3) := by decide +kernel
theorem dMo_grams_7 : decode bMo_grams 7 = .ok (.iconst 1, 1) := by decide +kernel
theorem dMo_grams_8 : decode bMo_grams 8 = .ok (.isub, 1) := by decide +kernel
theorem dMo_grams_9 : decode bMo_grams 9 = .ok (.invokestatic 56, 3) := by decide +kernel
theorem dMo_grams_12 : decode bMo_grams 12 = .ok (.ifCond .eq (11), 3) := by decide +kernel
theorem dMo_grams_15 : decode bMo_grams 15 = .ok (.aload_n 0, 1) := by decide +kernel
theorem dMo_grams_16 : decode bMo_grams 16 = .ok (.iload_n 2, 1) := by decide +kernel
theorem dMo_grams_17 : decode bMo_grams 17 = .ok (.invokevirtual 63, 3) := by decide +kernel
theorem dMo_grams_20 : decode bMo_grams 20 = .ok (.ifCond .ne (7), 3) := by decide +kernel
theorem dMo_grams_23 : decode bMo_grams 23 = .ok (.iconst 1, 1) := by decide +kernel
theorem dMo_grams_24 : decode bMo_grams 24 = .ok (.goto (19), 3) := by decide +kernel
theorem dMo_grams_27 : decode bMo_grams 27 = .ok (.iload_n 3, 1) := by decide +kernel
theorem dMo_grams_28 : decode bMo_grams 28 = .ok (.iconst 0, 1) := by decide +kernel
theorem dMo_grams_29 : decode bMo_grams 29 = .ok (.sipush (1000), 3) := by decide +kernel
theorem dMo_grams_32 : decode bMo_grams 32 = .ok (.invokestatic 56, 3) := by decide +kernel
theorem dMo_grams_35 : decode bMo_grams 35 = .ok (.ifCond .ne (7), 3) := by decide +kernel
theorem dMo_grams_38 : decode bMo_grams 38 = .ok (.iconst 2, 1) := by decide +kernel
theorem dMo_grams_39 : decode bMo_grams 39 = .ok (.goto (4), 3) := by decide +kernel
theorem dMo_grams_42 : decode bMo_grams 42 = .ok (.iconst 0, 1) := by decide +kernel
theorem dMo_grams_43 : decode bMo_grams 43 = .ok (.putfield 53, 3) := by decide +kernel
theorem dMo_grams_46 : decode bMo_grams 46 = .ok (.aload_n 0, 1) := by decide +kernel
theorem dMo_grams_47 : decode bMo_grams 47 = .ok (.getfield 53, 3) := by decide +kernel
theorem dMo_grams_50 : decode bMo_grams 50 = .ok (.ifCond .le (5), 3) := by decide +kernel
theorem dMo_grams_53 : decode bMo_grams 53 = .ok (.iconst 0, 1) := by decide +kernel
theorem dMo_grams_54 : decode bMo_grams 54 = .ok (.ireturn, 1) := by decide +kernel
theorem dMo_grams_55 : decode bMo_grams 55 = .ok (.aload_n 0, 1) := by decide +kernel
theorem dMo_grams_56 : decode bMo_grams 56 = .ok (.getfield 32, 3) := by decide +kernel
theorem dMo_grams_59 : decode bMo_grams 59 = .ok (.bipush (6), 2) := by decide +kernel
theorem dMo_grams_61 : decode bMo_grams 61 = .ok (.iload_n 1, 1) := by decide +kernel
theorem dMo_grams_62 : decode bMo_grams 62 = .ok (.imul, 1) := by decide +kernel
theorem dMo_grams_63 : decode bMo_grams 63 = .ok (.iload_n 2, 1) := by decide +kernel
theorem dMo_grams_64 : decode bMo_grams 64 = .ok (.iadd, 1) := by decide +kernel
theorem dMo_grams_65 : decode bMo_grams 65 = .ok (.iaload, 1) := by decide +kernel
theorem dMo_grams_66 : decode bMo_grams 66 = .ok (.istore 4, 2) := by decide +kernel
theorem dMo_grams_68 : decode bMo_grams 68 = .ok (.aload_n 0, 1) := by decide +kernel
theorem dMo_grams_69 : decode bMo_grams 69 = .ok (.getfield 32, 3) := by decide +kernel
theorem dMo_grams_72 : decode bMo_grams 72 = .ok (.bipush (6), 2) := by decide +kernel
theorem dMo_grams_74 : decode bMo_grams 74 = .ok (.iload_n 1, 1) := by decide +kernel
theorem dMo_grams_75 : decode bMo_grams 75 = .ok (.imul, 1) := by decide +kernel
theorem dMo_grams_76 : decode bMo_grams 76 = .ok (.iload_n 2, 1) := by decide +kernel
theorem dMo_grams_77 : decode bMo_grams 77 = .ok (.iadd, 1) := by decide +kernel
theorem dMo_grams_78 : decode bMo_grams 78 = .ok (.iload_n 3, 1) := by decide +kernel
theorem dMo_grams_79 : decode bMo_grams 79 = .ok (.iastore, 1) := by decide +kernel
theorem dMo_grams_80 : decode bMo_grams 80 = .ok (.iload 4, 2) := by decide +kernel
theorem dMo_grams_82 : decode bMo_grams 82 = .ok (.ireturn, 1) := by decide +kernel
theorem dMo_all_0 : decode bMo_all 0 = .ok (.lconst 0, 1) := by decide +kernel
theorem dMo_all_1 : decode bMo_all 1 = .ok (.lstore_n 2, 1) := by decide +kernel
theorem dMo_all_2 : decode bMo_all 2 = .ok (.iconst 0, 1) := by decide +kernel
theorem dMo_all_3 : decode bMo_all 3 = .ok (.istore 4, 2) := by decide +kernel
theorem dMo_all_5 : decode bMo_all 5 = .ok (.iload 4, 2) := by decide +kernel
theorem dMo_all_7 : decode bMo_all 7 = .ok (.aload_n 0, 1) := by decide +kernel
theorem dMo_all_8 : decode bMo_all 8 = .ok (.getfield 47, 3) := by decide +kernel
theorem dMo_all_11 : decode bMo_all 11 = .ok (.if_icmp .ge (25), 3) := by decide +kernel
theorem dMo_all_14 : decode bMo_all 14 = .ok (.lload_n 2, 1) := by decide +kernel
theorem dMo_all_15 : decode bMo_all 15 = .ok (.aload_n 0, 1) := by decide +kernel
theorem dMo_all_16 : decode bMo_all 16 = .ok (.getfield 32, 3) := by decide +kernel
theorem dMo_all_19 : decode bMo_all 19 = .ok (.bipush (6), 2) := by decide +kernel
theorem dMo_all_21 : decode bMo_all 21 = .ok (.iload_n 1, 1) := by decide +kernel
theorem dMo_all_22 : decode bMo_all 22 = .ok (.imul, 1) := by decide +kernel
theorem dMo_all_23 : decode bMo_all 23 = .ok (.iload 4, 2) := by decide +kernel
theorem dMo_all_25 : decode bMo_all 25 = .ok (.iadd, 1) := by decide +kernel
theorem dMo_all_26 : decode bMo_all 26 = .ok (.iaload, 1) := by decide +kernel
theorem dMo_all_27 : decode bMo_all 27 = .ok (.i2l, 1) := by decide +kernel
theorem dMo_all_28 : decode bMo_all 28 = .ok (.ladd, 1) := by decide +kernel
theorem dMo_all_29 : decode bMo_all 29 = .ok (.lstore_n 2, 1) := by decide +kernel
theorem dMo_all_30 : decode bMo_all 30 = .ok (.iinc 4 (1), 3) := by decide +kernel
theorem dMo_all_33 : decode bMo_all 33 = .ok (.goto (-28), 3) := by decide +kernel
theorem dMo_all_36 : decode bMo_all 36 = .ok (.lload_n 2, 1) := by decide +kernel
theorem dMo_all_37 : decode bMo_all 37 = .ok (.lreturn, 1) := by decide +kernel
theorem dMo_square_0 : decode bMo_square 0 = .ok (.aload_n 0, 1) := by decide +kernel
theorem dMo_square_1 : decode bMo_square 1 = .ok (.getfield 26, 3) := by decide +kernel
theorem dMo_square_4 : decode bMo_square 4 = .ok (.iload_n 1, 1) := by decide +kernel
theorem dMo_square_5 : decode bMo_square 5 = .ok (.iaload, 1) := by decide +kernel
theorem dMo_square_6 : decode bMo_square 6 = .ok (.iload_n 2, 1) := by decide +kernel
theorem dMo_square_7 : decode bMo_square 7 = .ok (.isub, 1) := by decide +kernel
theorem dMo_square_8 : decode bMo_square 8 = .ok (.i2l, 1) := by decide +kernel
theorem dMo_square_9 : decode bMo_square 9 = .ok (.aload_n 0, 1) := by decide +kernel
theorem dMo_square_10 : decode bMo_square 10 = .ok (.getfield 26, 3) := by decide +kernel
theorem dMo_square_13 : decode bMo_square 13 = .ok (.iload_n 1, 1) := by decide +kernel
theorem dMo_square_14 : decode bMo_square 14 = .ok (.iaload, 1) := by decide +kernel
theorem dMo_square_15 : decode bMo_square 15 = .ok (.iload_n 2, 1) := by decide +kernel
theorem dMo_square_16 : decode bMo_square 16 = .ok (.isub, 1) := by decide +kernel
theorem dMo_square_17 : decode bMo_square 17 = .ok (.i2l, 1) := by decide +kernel
theorem dMo_square_18 : decode bMo_square 18 = .ok (.lmul, 1) := by decide +kernel
theorem dMo_square_19 : decode bMo_square 19 = .ok (.aload_n 0, 1) := by decide +kernel
