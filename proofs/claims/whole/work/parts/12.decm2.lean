theorem dMo_tell_2 : decode bMo_tell 2 = .ok (.iload_n 1, 1) := by decide +kernel
theorem dMo_tell_3 : decode bMo_tell 3 = .ok (.invokevirtual 67, 3) := by decide +kernel
theorem dMo_tell_6 : decode bMo_tell 6 = .ok (.ifCond .ne (7), 3) := by decide +kernel
theorem dMo_tell_9 : decode bMo_tell 9 = .ok (.iconst 1, 1) := by decide +kernel
theorem dMo_tell_10 : decode bMo_tell 10 = .ok (.goto (4), 3) := by decide +kernel
theorem dMo_tell_13 : decode bMo_tell 13 = .ok (.iconst 0, 1) := by decide +kernel
theorem dMo_tell_14 : decode bMo_tell 14 = .ok (.putfield 53, 3) := by decide +kernel
theorem dMo_tell_17 : decode bMo_tell 17 = .ok (.aload_n 0, 1) := by decide +kernel
theorem dMo_tell_18 : decode bMo_tell 18 = .ok (.getfield 53, 3) := by decide +kernel
theorem dMo_tell_21 : decode bMo_tell 21 = .ok (.ifCond .le (7), 3) := by decide +kernel
theorem dMo_tell_24 : decode bMo_tell 24 = .ok (.iconst 0, 1) := by decide +kernel
theorem dMo_tell_25 : decode bMo_tell 25 = .ok (.goto (13), 3) := by decide +kernel
theorem dMo_tell_28 : decode bMo_tell 28 = .ok (.aload_n 0, 1) := by decide +kernel
theorem dMo_tell_29 : decode bMo_tell 29 = .ok (.iload_n 1, 1) := by decide +kernel
theorem dMo_tell_30 : decode bMo_tell 30 = .ok (.iconst 0, 1) := by decide +kernel
theorem dMo_tell_31 : decode bMo_tell 31 = .ok (.aload_n 0, 1) := by decide +kernel
theorem dMo_tell_32 : decode bMo_tell 32 = .ok (.getfield 50, 3) := by decide +kernel
theorem dMo_tell_35 : decode bMo_tell 35 = .ok (.invokevirtual 81, 3) := by decide +kernel
theorem dMo_tell_38 : decode bMo_tell 38 = .ok (.ireturn, 1) := by decide +kernel
theorem dMo_bound_0 : decode bMo_bound 0 = .ok (.aload_n 0, 1) := by decide +kernel
theorem dMo_bound_1 : decode bMo_bound 1 = .ok (.iload_n 1, 1) := by decide +kernel
theorem dMo_bound_2 : decode bMo_bound 2 = .ok (.iconst 0, 1) := by decide +kernel
theorem dMo_bound_3 : decode bMo_bound 3 = .ok (.sipush (1000), 3) := by decide +kernel
theorem dMo_bound_6 : decode bMo_bound 6 = .ok (.invokestatic 56, 3) := by decide +kernel
theorem dMo_bound_9 : decode bMo_bound 9 = .ok (.ifCond .ne (7), 3) := by decide +kernel
theorem dMo_bound_12 : decode bMo_bound 12 = .ok (.iconst 1, 1) := by decide +kernel
theorem dMo_bound_13 : decode bMo_bound 13 = .ok (.goto (4), 3) := by decide +kernel
theorem dMo_bound_16 : decode bMo_bound 16 = .ok (.iconst 0, 1) := by decide +kernel
theorem dMo_bound_17 : decode bMo_bound 17 = .ok (.putfield 53, 3) := by decide +kernel
theorem dMo_bound_20 : decode bMo_bound 20 = .ok (.aload_n 0, 1) := by decide +kernel
theorem dMo_bound_21 : decode bMo_bound 21 = .ok (.getfield 53, 3) := by decide +kernel
theorem dMo_bound_24 : decode bMo_bound 24 = .ok (.ifCond .le (5), 3) := by decide +kernel
theorem dMo_bound_27 : decode bMo_bound 27 = .ok (.iconst 0, 1) := by decide +kernel
theorem dMo_bound_28 : decode bMo_bound 28 = .ok (.ireturn, 1) := by decide +kernel
theorem dMo_bound_29 : decode bMo_bound 29 = .ok (.aload_n 0, 1) := by decide +kernel
theorem dMo_bound_30 : decode bMo_bound 30 = .ok (.getfield 22, 3) := by decide +kernel
theorem dMo_bound_33 : decode bMo_bound 33 = .ok (.istore_n 2, 1) := by decide +kernel
theorem dMo_bound_34 : decode bMo_bound 34 = .ok (.aload_n 0, 1) := by decide +kernel
theorem dMo_bound_35 : decode bMo_bound 35 = .ok (.iload_n 1, 1) := by decide +kernel
theorem dMo_bound_36 : decode bMo_bound 36 = .ok (.putfield 22, 3) := by decide +kernel
theorem dMo_bound_39 : decode bMo_bound 39 = .ok (.iload_n 2, 1) := by decide +kernel
theorem dMo_bound_40 : decode bMo_bound 40 = .ok (.ireturn, 1) := by decide +kernel
theorem dMo_prefer_0 : decode bMo_prefer 0 = .ok (.aload_n 0, 1) := by decide +kernel
theorem dMo_prefer_1 : decode bMo_prefer 1 = .ok (.aload_n 0, 1) := by decide +kernel
theorem dMo_prefer_2 : decode bMo_prefer 2 = .ok (.iload_n 1, 1) := by decide +kernel
theorem dMo_prefer_3 : decode bMo_prefer 3 = .ok (.invokevirtual 63, 3) := by decide +kernel
theorem dMo_prefer_6 : decode bMo_prefer 6 = .ok (.ifCond .ne (7), 3) := by decide +kernel
theorem dMo_prefer_9 : decode bMo_prefer 9 = .ok (.iconst 1, 1) := by decide +kernel
theorem dMo_prefer_10 : decode bMo_prefer 10 = .ok (.goto (4), 3) := by decide +kernel
theorem dMo_prefer_13 : decode bMo_prefer 13 = .ok (.iconst 0, 1) := by decide +kernel
theorem dMo_prefer_14 : decode bMo_prefer 14 = .ok (.putfield 53, 3) := by decide +kernel
theorem dMo_prefer_17 : decode bMo_prefer 17 = .ok (.aload_n 0, 1) := by decide +kernel
theorem dMo_prefer_18 : decode bMo_prefer 18 = .ok (.getfield 53, 3) := by decide +kernel
theorem dMo_prefer_21 : decode bMo_prefer 21 = .ok (.ifCond .le (5), 3) := by decide +kernel
theorem dMo_prefer_24 : decode bMo_prefer 24 = .ok (.iconst 0, 1) := by decide +kernel
theorem dMo_prefer_25 : decode bMo_prefer 25 = .ok (.ireturn, 1) := by decide +kernel
theorem dMo_prefer_26 : decode bMo_prefer 26 = .ok (.iconst 0, 1) := by decide +kernel
theorem dMo_prefer_27 : decode bMo_prefer 27 = .ok (.istore_n 2, 1) := by decide +kernel
theorem dMo_prefer_28 : decode bMo_prefer 28 = .ok (.aload_n 0, 1) := by decide +kernel
theorem dMo_prefer_29 : decode bMo_prefer 29 = .ok (.getfield 19, 3) := by decide +kernel
theorem dMo_prefer_32 : decode bMo_prefer 32 = .ok (.iload_n 2, 1) := by decide +kernel
theorem dMo_prefer_33 : decode bMo_prefer 33 = .ok (.iaload, 1) := by decide +kernel
theorem dMo_prefer_34 : decode bMo_prefer 34 = .ok (.iload_n 1, 1) := by decide +kernel
theorem dMo_prefer_35 : decode bMo_prefer 35 = .ok (.if_icmp .eq (9), 3) := by decide +kernel
theorem dMo_prefer_38 : decode bMo_prefer 38 = .ok (.iinc 2 (1), 3) := by decide +kernel
theorem dMo_prefer_41 : decode bMo_prefer 41 = .ok (.goto (-13), 3) := by decide +kernel
theorem dMo_prefer_44 : decode bMo_prefer 44 = .ok (.iload_n 2, 1) := by decide +kernel
theorem dMo_prefer_45 : decode bMo_prefer 45 = .ok (.istore_n 3, 1) := by decide +kernel
theorem dMo_prefer_46 : decode bMo_prefer 46 = .ok (.iload_n 3, 1) := by decide +kernel
theorem dMo_prefer_47 : decode bMo_prefer 47 = .ok (.ifCond .le (23), 3) := by decide +kernel
theorem dMo_prefer_50 : decode bMo_prefer 50 = .ok (.aload_n 0, 1) := by decide +kernel
theorem dMo_prefer_51 : decode bMo_prefer 51 = .ok (.getfield 19, 3) := by decide +kernel
theorem dMo_prefer_54 : decode bMo_prefer 54 = .ok (.iload_n 3, 1) := by decide +kernel
theorem dMo_prefer_55 : decode bMo_prefer 55 = .ok (.aload_n 0, 1) := by decide +kernel
theorem dMo_prefer_56 : decode bMo_prefer 56 = .ok (.getfield 19, 3) := by decide +kernel
theorem dMo_prefer_59 : decode bMo_prefer 59 = .ok (.iload_n 3, 1) := by decide +kernel
theorem dMo_prefer_60 : decode bMo_prefer 60 = .ok (.iconst 1, 1) := by decide +kernel
theorem dMo_prefer_61 : decode bMo_prefer 61 = .ok (.isub, 1) := by decide +kernel
theorem dMo_prefer_62 : decode bMo_prefer 62 = .ok (.iaload, 1) := by decide +kernel
theorem dMo_prefer_63 : decode bMo_prefer 63 = .ok (.iastore, 1) := by decide +kernel
theorem dMo_prefer_64 : decode bMo_prefer 64 = .ok (.iinc 3 (-1), 3) := by decide +kernel
theorem dMo_prefer_67 : decode bMo_prefer 67 = .ok (.goto (-21), 3) := by decide +kernel
theorem dMo_prefer_70 : decode bMo_prefer 70 = .ok (.aload_n 0, 1) := by decide +kernel
theorem dMo_prefer_71 : decode bMo_prefer 71 = .ok (.getfield 19, 3) := by decide +kernel
theorem dMo_prefer_74 : decode bMo_prefer 74 = .ok (.iconst 0, 1) := by decide +kernel
theorem dMo_prefer_75 : decode bMo_prefer 75 = .ok (.iload_n 1, 1) := by decide +kernel
theorem dMo_prefer_76 : decode bMo_prefer 76 = .ok (.iastore, 1) := by decide +kernel
theorem dMo_prefer_77 : decode bMo_prefer 77 = .ok (.iload_n 2, 1) := by decide +kernel
theorem dMo_prefer_78 : decode bMo_prefer 78 = .ok (.ireturn, 1) := by decide +kernel
theorem dMo_divisor_0 : decode bMo_divisor 0 = .ok (.lload_n 0, 1) := by decide +kernel
theorem dMo_divisor_1 : decode bMo_divisor 1 = .ok (.lstore 4, 2) := by decide +kernel
theorem dMo_divisor_3 : decode bMo_divisor 3 = .ok (.lload_n 2, 1) := by decide +kernel
theorem dMo_divisor_4 : decode bMo_divisor 4 = .ok (.lstore 6, 2) := by decide +kernel
theorem dMo_divisor_6 : decode bMo_divisor 6 = .ok (.lload 4, 2) := by decide +kernel
theorem dMo_divisor_8 : decode bMo_divisor 8 = .ok (.lconst 0, 1) := by decide +kernel
theorem dMo_divisor_9 : decode bMo_divisor 9 = .ok (.lcmp, 1) := by decide +kernel
theorem dMo_divisor_10 : decode bMo_divisor 10 = .ok (.ifCond .eq (21), 3) := by decide +kernel
theorem dMo_divisor_13 : decode bMo_divisor 13 = .ok (.lload 6, 2) := by decide +kernel
theorem dMo_divisor_15 : decode bMo_divisor 15 = .ok (.lload 4, 2) := by decide +kernel
theorem dMo_divisor_17 : decode bMo_divisor 17 = .ok (.lrem, 1) := by decide +kernel
theorem dMo_divisor_18 : decode bMo_divisor 18 = .ok (.lstore 8, 2) := by decide +kernel
theorem dMo_divisor_20 : decode bMo_divisor 20 = .ok (.lload 4, 2) := by decide +kernel
theorem dMo_divisor_22 : decode bMo_divisor 22 = .ok (.lstore 6, 2) := by decide +kernel
theorem dMo_divisor_24 : decode bMo_divisor 24 = .ok (.lload 8, 2) := by decide +kernel
theorem dMo_divisor_26 : decode bMo_divisor 26 = .ok (.lstore 4, 2) := by decide +kernel
theorem dMo_divisor_28 : decode bMo_divisor 28 = .ok (.goto (-22), 3) := by decide +kernel
theorem dMo_divisor_31 : decode bMo_divisor 31 = .ok (.lload 6, 2) := by decide +kernel
theorem dMo_divisor_33 : decode bMo_divisor 33 = .ok (.lreturn, 1) := by decide +kernel
theorem dMo_part_0 : decode bMo_part 0 = .ok (.lload_n 2, 1) := by decide +kernel
theorem dMo_part_1 : decode bMo_part 1 = .ok (.lconst 0, 1) := by decide +kernel
theorem dMo_part_2 : decode bMo_part 2 = .ok (.lcmp, 1) := by decide +kernel
theorem dMo_part_3 : decode bMo_part 3 = .ok (.ifCond .ne (7), 3) := by decide +kernel
theorem dMo_part_6 : decode bMo_part 6 = .ok (.iload 4, 2) := by decide +kernel
theorem dMo_part_8 : decode bMo_part 8 = .ok (.i2l, 1) := by decide +kernel
theorem dMo_part_9 : decode bMo_part 9 = .ok (.lreturn, 1) := by decide +kernel
theorem dMo_part_10 : decode bMo_part 10 = .ok (.lload_n 0, 1) := by decide +kernel
theorem dMo_part_11 : decode bMo_part 11 = .ok (.lload_n 2, 1) := by decide +kernel
theorem dMo_part_12 : decode bMo_part 12 = .ok (.invokestatic 85, 3) := by decide +kernel
theorem dMo_part_15 : decode bMo_part 15 = .ok (.lstore 5, 2) := by decide +kernel
theorem dMo_part_17 : decode bMo_part 17 = .ok (.iload 4, 2) := by decide +kernel
theorem dMo_part_19 : decode bMo_part 19 = .ok (.ifCond .ne (10), 3) := by decide +kernel
theorem dMo_part_22 : decode bMo_part 22 = .ok (.lload_n 0, 1) := by decide +kernel
theorem dMo_part_23 : decode bMo_part 23 = .ok (.lload 5, 2) := by decide +kernel
theorem dMo_part_25 : decode bMo_part 25 = .ok (.ldiv, 1) := by decide +kernel
theorem dMo_part_26 : decode bMo_part 26 = .ok (.goto (7), 3) := by decide +kernel
theorem dMo_part_29 : decode bMo_part 29 = .ok (.lload_n 2, 1) := by decide +kernel
theorem dMo_part_30 : decode bMo_part 30 = .ok (.lload 5, 2) := by decide +kernel
theorem dMo_part_32 : decode bMo_part 32 = .ok (.ldiv, 1) := by decide +kernel
theorem dMo_part_33 : decode bMo_part 33 = .ok (.lreturn, 1) := by decide +kernel
theorem dMo_wrong_0 : decode bMo_wrong 0 = .ok (.aload_n 0, 1) := by decide +kernel
theorem dMo_wrong_1 : decode bMo_wrong 1 = .ok (.aload_n 0, 1) := by decide +kernel
theorem dMo_wrong_2 : decode bMo_wrong 2 = .ok (.iload_n 1, 1) := by decide +kernel
theorem dMo_wrong_3 : decode bMo_wrong 3 = .ok (.invokevirtual 63, 3) := by decide +kernel
theorem dMo_wrong_6 : decode bMo_wrong 6 = .ok (.ifCond .eq (25), 3) := by decide +kernel
theorem dMo_wrong_9 : decode bMo_wrong 9 = .ok (.iload_n 2, 1) := by decide +kernel
theorem dMo_wrong_10 : decode bMo_wrong 10 = .ok (.iconst (-1), 1) := by decide +kernel
theorem dMo_wrong_11 : decode bMo_wrong 11 = .ok (.if_icmp .eq (11), 3) := by decide +kernel
theorem dMo_wrong_14 : decode bMo_wrong 14 = .ok (.aload_n 0, 1) := by decide +kernel
theorem dMo_wrong_15 : decode bMo_wrong 15 = .ok (.iload_n 2, 1) := by decide +kernel
theorem dMo_wrong_16 : decode bMo_wrong 16 = .ok (.invokevirtual 63, 3) := by decide +kernel
theorem dMo_wrong_19 : decode bMo_wrong 19 = .ok (.ifCond .eq (12), 3) := by decide +kernel
theorem dMo_wrong_22 : decode bMo_wrong 22 = .ok (.iload_n 3, 1) := by decide +kernel
theorem dMo_wrong_23 : decode bMo_wrong 23 = .ok (.iconst 0, 1) := by decide +kernel
theorem dMo_wrong_24 : decode bMo_wrong 24 = .ok (.iconst 1, 1) := by decide +kernel
theorem dMo_wrong_25 : decode bMo_wrong 25 = .ok (.invokestatic 56, 3) := by decide +kernel
theorem dMo_wrong_28 : decode bMo_wrong 28 = .ok (.ifCond .ne (7), 3) := by decide +kernel
theorem dMo_wrong_31 : decode bMo_wrong 31 = .ok (.iconst 1, 1) := by decide +kernel
theorem dMo_wrong_32 : decode bMo_wrong 32 = .ok (.goto (4), 3) := by decide +kernel
theorem dMo_wrong_35 : decode bMo_wrong 35 = .ok (.iconst 0, 1) := by decide +kernel
theorem dMo_wrong_36 : decode bMo_wrong 36 = .ok (.putfield 53, 3) := by decide +kernel
theorem dMo_wrong_39 : decode bMo_wrong 39 = .ok (.aload_n 0, 1) := by decide +kernel
theorem dMo_wrong_40 : decode bMo_wrong 40 = .ok (.getfield 53, 3) := by decide +kernel
theorem dMo_wrong_43 : decode bMo_wrong 43 = .ok (.ifCond .le (5), 3) := by decide +kernel
theorem dMo_wrong_46 : decode bMo_wrong 46 = .ok (.iconst 0, 1) := by decide +kernel
theorem dMo_wrong_47 : decode bMo_wrong 47 = .ok (.ireturn, 1) := by decide +kernel
theorem dMo_wrong_48 : decode bMo_wrong 48 = .ok (.iconst 0, 1) := by decide +kernel
theorem dMo_wrong_49 : decode bMo_wrong 49 = .ok (.istore 4, 2) := by decide +kernel
theorem dMo_wrong_51 : decode bMo_wrong 51 = .ok (.iconst 0, 1) := by decide +kernel
theorem dMo_wrong_52 : decode bMo_wrong 52 = .ok (.istore 5, 2) := by decide +kernel
theorem dMo_wrong_54 : decode bMo_wrong 54 = .ok (.iconst 0, 1) := by decide +kernel
theorem dMo_wrong_55 : decode bMo_wrong 55 = .ok (.istore 6, 2) := by decide +kernel
theorem dMo_wrong_57 : decode bMo_wrong 57 = .ok (.iload 6, 2) := by decide +kernel
theorem dMo_wrong_59 : decode bMo_wrong 59 = .ok (.aload_n 0, 1) := by decide +kernel
theorem dMo_wrong_60 : decode bMo_wrong 60 = .ok (.getfield 60, 3) := by decide +kernel
theorem dMo_wrong_63 : decode bMo_wrong 63 = .ok (.if_icmp .ge (68), 3) := by decide +kernel
theorem dMo_wrong_66 : decode bMo_wrong 66 = .ok (.aload_n 0, 1) := by decide +kernel
theorem dMo_wrong_67 : decode bMo_wrong 67 = .ok (.getfield 13, 3) := by decide +kernel
theorem dMo_wrong_70 : decode bMo_wrong 70 = .ok (.iload 6, 2) := by decide +kernel
theorem dMo_wrong_72 : decode bMo_wrong 72 = .ok (.iaload, 1) := by decide +kernel
theorem dMo_wrong_73 : decode bMo_wrong 73 = .ok (.iload_n 1, 1) := by decide +kernel
theorem dMo_wrong_74 : decode bMo_wrong 74 = .ok (.if_icmp .ne (10), 3) := by decide +kernel
theorem dMo_wrong_77 : decode bMo_wrong 77 = .ok (.iload 5, 2) := by decide +kernel
theorem dMo_wrong_79 : decode bMo_wrong 79 = .ok (.iconst 1, 1) := by decide +kernel
theorem dMo_wrong_80 : decode bMo_wrong 80 = .ok (.iadd, 1) := by decide +kernel
theorem dMo_wrong_81 : decode bMo_wrong 81 = .ok (.goto (5), 3) := by decide +kernel
theorem dMo_wrong_84 : decode bMo_wrong 84 = .ok (.iload 5, 2) := by decide +kernel
theorem dMo_wrong_86 : decode bMo_wrong 86 = .ok (.istore 5, 2) := by decide +kernel
theorem dMo_wrong_88 : decode bMo_wrong 88 = .ok (.aload_n 0, 1) := by decide +kernel
theorem dMo_wrong_89 : decode bMo_wrong 89 = .ok (.getfield 13, 3) := by decide +kernel
theorem dMo_wrong_92 : decode bMo_wrong 92 = .ok (.iload 6, 2) := by decide +kernel
theorem dMo_wrong_94 : decode bMo_wrong 94 = .ok (.iaload, 1) := by decide +kernel
theorem dMo_wrong_95 : decode bMo_wrong 95 = .ok (.iload_n 1, 1) := by decide +kernel
theorem dMo_wrong_96 : decode bMo_wrong 96 = .ok (.if_icmp .ne (25), 3) := by decide +kernel
theorem dMo_wrong_99 : decode bMo_wrong 99 = .ok (.aload_n 0, 1) := by decide +kernel
theorem dMo_wrong_100 : decode bMo_wrong 100 = .ok (.iload 6, 2) := by decide +kernel
theorem dMo_wrong_102 : decode bMo_wrong 102 = .ok (.iconst 0, 1) := by decide +kernel
theorem dMo_wrong_103 : decode bMo_wrong 103 = .ok (.aload_n 0, 1) := by decide +kernel
theorem dMo_wrong_104 : decode bMo_wrong 104 = .ok (.getfield 50, 3) := by decide +kernel
theorem dMo_wrong_107 : decode bMo_wrong 107 = .ok (.invokevirtual 81, 3) := by decide +kernel
theorem dMo_wrong_110 : decode bMo_wrong 110 = .ok (.iload_n 2, 1) := by decide +kernel
theorem dMo_wrong_111 : decode bMo_wrong 111 = .ok (.if_icmp .ne (10), 3) := by decide +kernel
theorem dMo_wrong_114 : decode bMo_wrong 114 = .ok (.iload 4, 2) := by decide +kernel
theorem dMo_wrong_116 : decode bMo_wrong 116 = .ok (.iconst 1, 1) := by decide +kernel
theorem dMo_wrong_117 : decode bMo_wrong 117 = .ok (.iadd, 1) := by decide +kernel
theorem dMo_wrong_118 : decode bMo_wrong 118 = .ok (.goto (5), 3) := by decide +kernel
theorem dMo_wrong_121 : decode bMo_wrong 121 = .ok (.iload 4, 2) := by decide +kernel
theorem dMo_wrong_123 : decode bMo_wrong 123 = .ok (.istore 4, 2) := by decide +kernel
theorem dMo_wrong_125 : decode bMo_wrong 125 = .ok (.iinc 6 (1), 3) := by decide +kernel
theorem dMo_wrong_128 : decode bMo_wrong 128 = .ok (.goto (-71), 3) := by decide +kernel
theorem dMo_wrong_131 : decode bMo_wrong 131 = .ok (.iload 4, 2) := by decide +kernel
theorem dMo_wrong_133 : decode bMo_wrong 133 = .ok (.i2l, 1) := by decide +kernel
theorem dMo_wrong_134 : decode bMo_wrong 134 = .ok (.iload 5, 2) := by decide +kernel
theorem dMo_wrong_136 : decode bMo_wrong 136 = .ok (.i2l, 1) := by decide +kernel
theorem dMo_wrong_137 : decode bMo_wrong 137 = .ok (.iload_n 3, 1) := by decide +kernel
theorem dMo_wrong_138 : decode bMo_wrong 138 = .ok (.invokestatic 89, 3) := by decide +kernel
theorem dMo_wrong_141 : decode bMo_wrong 141 = .ok (.l2i, 1) := by decide +kernel
theorem dMo_wrong_142 : decode bMo_wrong 142 = .ok (.ireturn, 1) := by decide +kernel
theorem dMo_rightOf_0 : decode bMo_rightOf 0 = .ok (.iconst 0, 1) := by decide +kernel
theorem dMo_rightOf_1 : decode bMo_rightOf 1 = .ok (.istore_n 2, 1) := by decide +kernel
theorem dMo_rightOf_2 : decode bMo_rightOf 2 = .ok (.iconst 0, 1) := by decide +kernel
theorem dMo_rightOf_3 : decode bMo_rightOf 3 = .ok (.istore_n 3, 1) := by decide +kernel
theorem dMo_rightOf_4 : decode bMo_rightOf 4 = .ok (.iload_n 3, 1) := by decide +kernel
theorem dMo_rightOf_5 : decode bMo_rightOf 5 = .ok (.aload_n 0, 1) := by decide +kernel
theorem dMo_rightOf_6 : decode bMo_rightOf 6 = .ok (.getfield 60, 3) := by decide +kernel
theorem dMo_rightOf_9 : decode bMo_rightOf 9 = .ok (.if_icmp .ge (45), 3) := by decide +kernel
theorem dMo_rightOf_12 : decode bMo_rightOf 12 = .ok (.aload_n 0, 1) := by decide +kernel
theorem dMo_rightOf_13 : decode bMo_rightOf 13 = .ok (.getfield 13, 3) := by decide +kernel
theorem dMo_rightOf_16 : decode bMo_rightOf 16 = .ok (.iload_n 3, 1) := by decide +kernel
theorem dMo_rightOf_17 : decode bMo_rightOf 17 = .ok (.iaload, 1) := by decide +kernel
theorem dMo_rightOf_18 : decode bMo_rightOf 18 = .ok (.iconst (-1), 1) := by decide +kernel
theorem dMo_rightOf_19 : decode bMo_rightOf 19 = .ok (.if_icmp .eq (27), 3) := by decide +kernel
theorem dMo_rightOf_22 : decode bMo_rightOf 22 = .ok (.aload_n 0, 1) := by decide +kernel
theorem dMo_rightOf_23 : decode bMo_rightOf 23 = .ok (.iload_n 3, 1) := by decide +kernel
theorem dMo_rightOf_24 : decode bMo_rightOf 24 = .ok (.iload_n 1, 1) := by decide +kernel
theorem dMo_rightOf_25 : decode bMo_rightOf 25 = .ok (.iload_n 1, 1) := by decide +kernel
theorem dMo_rightOf_26 : decode bMo_rightOf 26 = .ok (.iconst 1, 1) := by decide +kernel
theorem dMo_rightOf_27 : decode bMo_rightOf 27 = .ok (.iadd, 1) := by decide +kernel
theorem dMo_rightOf_28 : decode bMo_rightOf 28 = .ok (.invokevirtual 81, 3) := by decide +kernel
theorem dMo_rightOf_31 : decode bMo_rightOf 31 = .ok (.aload_n 0, 1) := by decide +kernel
theorem dMo_rightOf_32 : decode bMo_rightOf 32 = .ok (.getfield 13, 3) := by decide +kernel
theorem dMo_rightOf_35 : decode bMo_rightOf 35 = .ok (.iload_n 3, 1) := by decide +kernel
theorem dMo_rightOf_36 : decode bMo_rightOf 36 = .ok (.iaload, 1) := by decide +kernel
theorem dMo_rightOf_37 : decode bMo_rightOf 37 = .ok (.if_icmp .ne (9), 3) := by decide +kernel
theorem dMo_rightOf_40 : decode bMo_rightOf 40 = .ok (.iload_n 2, 1) := by decide +kernel
theorem dMo_rightOf_41 : decode bMo_rightOf 41 = .ok (.iconst 1, 1) := by decide +kernel
theorem dMo_rightOf_42 : decode bMo_rightOf 42 = .ok (.iadd, 1) := by decide +kernel
theorem dMo_rightOf_43 : decode bMo_rightOf 43 = .ok (.goto (4), 3) := by decide +kernel
theorem dMo_rightOf_46 : decode bMo_rightOf 46 = .ok (.iload_n 2, 1) := by decide +kernel
theorem dMo_rightOf_47 : decode bMo_rightOf 47 = .ok (.istore_n 2, 1) := by decide +kernel
theorem dMo_rightOf_48 : decode bMo_rightOf 48 = .ok (.iinc 3 (1), 3) := by decide +kernel
theorem dMo_rightOf_51 : decode bMo_rightOf 51 = .ok (.goto (-47), 3) := by decide +kernel
theorem dMo_rightOf_54 : decode bMo_rightOf 54 = .ok (.iload_n 2, 1) := by decide +kernel
theorem dMo_rightOf_55 : decode bMo_rightOf 55 = .ok (.ireturn, 1) := by decide +kernel
theorem dMo_right_0 : decode bMo_right 0 = .ok (.aload_n 0, 1) := by decide +kernel
theorem dMo_right_1 : decode bMo_right 1 = .ok (.aload_n 0, 1) := by decide +kernel
theorem dMo_right_2 : decode bMo_right 2 = .ok (.iload_n 1, 1) := by decide +kernel
theorem dMo_right_3 : decode bMo_right 3 = .ok (.invokevirtual 70, 3) := by decide +kernel
theorem dMo_right_6 : decode bMo_right 6 = .ok (.ifCond .ne (7), 3) := by decide +kernel
theorem dMo_right_9 : decode bMo_right 9 = .ok (.iconst 1, 1) := by decide +kernel
theorem dMo_right_10 : decode bMo_right 10 = .ok (.goto (4), 3) := by decide +kernel
theorem dMo_right_13 : decode bMo_right 13 = .ok (.iconst 0, 1) := by decide +kernel
theorem dMo_right_14 : decode bMo_right 14 = .ok (.putfield 53, 3) := by decide +kernel
theorem dMo_right_17 : decode bMo_right 17 = .ok (.aload_n 0, 1) := by decide +kernel
theorem dMo_right_18 : decode bMo_right 18 = .ok (.getfield 53, 3) := by decide +kernel
theorem dMo_right_21 : decode bMo_right 21 = .ok (.ifCond .le (7), 3) := by decide +kernel
theorem dMo_right_24 : decode bMo_right 24 = .ok (.iconst 0, 1) := by decide +kernel
theorem dMo_right_25 : decode bMo_right 25 = .ok (.goto (8), 3) := by decide +kernel
theorem dMo_right_28 : decode bMo_right 28 = .ok (.aload_n 0, 1) := by decide +kernel
theorem dMo_right_29 : decode bMo_right 29 = .ok (.iload_n 1, 1) := by decide +kernel
theorem dMo_right_30 : decode bMo_right 30 = .ok (.invokevirtual 93, 3) := by decide +kernel
theorem dMo_right_33 : decode bMo_right 33 = .ok (.ireturn, 1) := by decide +kernel
theorem dMo_best_0 : decode bMo_best 0 = .ok (.aload_n 0, 1) := by decide +kernel
theorem dMo_best_1 : decode bMo_best 1 = .ok (.aload_n 0, 1) := by decide +kernel
theorem dMo_best_2 : decode bMo_best 2 = .ok (.iload_n 1, 1) := by decide +kernel
theorem dMo_best_3 : decode bMo_best 3 = .ok (.invokevirtual 70, 3) := by decide +kernel
theorem dMo_best_6 : decode bMo_best 6 = .ok (.ifCond .ne (7), 3) := by decide +kernel
theorem dMo_best_9 : decode bMo_best 9 = .ok (.iconst 1, 1) := by decide +kernel
theorem dMo_best_10 : decode bMo_best 10 = .ok (.goto (4), 3) := by decide +kernel
theorem dMo_best_13 : decode bMo_best 13 = .ok (.iconst 0, 1) := by decide +kernel
theorem dMo_best_14 : decode bMo_best 14 = .ok (.putfield 53, 3) := by decide +kernel
theorem dMo_best_17 : decode bMo_best 17 = .ok (.iconst 0, 1) := by decide +kernel
theorem dMo_best_18 : decode bMo_best 18 = .ok (.istore_n 2, 1) := by decide +kernel
theorem dMo_best_19 : decode bMo_best 19 = .ok (.iload_n 2, 1) := by decide +kernel
theorem dMo_best_20 : decode bMo_best 20 = .ok (.aload_n 0, 1) := by decide +kernel
theorem dMo_best_21 : decode bMo_best 21 = .ok (.getfield 50, 3) := by decide +kernel
theorem dMo_best_24 : decode bMo_best 24 = .ok (.if_icmp .ge (97), 3) := by decide +kernel
theorem dMo_best_27 : decode bMo_best 27 = .ok (.aload_n 0, 1) := by decide +kernel
theorem dMo_best_28 : decode bMo_best 28 = .ok (.getfield 53, 3) := by decide +kernel
theorem dMo_best_31 : decode bMo_best 31 = .ok (.ifCond .ne (90), 3) := by decide +kernel
theorem dMo_best_34 : decode bMo_best 34 = .ok (.iconst 0, 1) := by decide +kernel
theorem dMo_best_35 : decode bMo_best 35 = .ok (.istore_n 3, 1) := by decide +kernel
theorem dMo_best_36 : decode bMo_best 36 = .ok (.iconst 0, 1) := by decide +kernel
theorem dMo_best_37 : decode bMo_best 37 = .ok (.istore 4, 2) := by decide +kernel
theorem dMo_best_39 : decode bMo_best 39 = .ok (.iload 4, 2) := by decide +kernel
theorem dMo_best_41 : decode bMo_best 41 = .ok (.aload_n 0, 1) := by decide +kernel
theorem dMo_best_42 : decode bMo_best 42 = .ok (.getfield 50, 3) := by decide +kernel
theorem dMo_best_45 : decode bMo_best 45 = .ok (.if_icmp .ge (63), 3) := by decide +kernel
theorem dMo_best_48 : decode bMo_best 48 = .ok (.aload_n 0, 1) := by decide +kernel
theorem dMo_best_49 : decode bMo_best 49 = .ok (.iload 4, 2) := by decide +kernel
theorem dMo_best_51 : decode bMo_best 51 = .ok (.invokevirtual 93, 3) := by decide +kernel
theorem dMo_best_54 : decode bMo_best 54 = .ok (.aload_n 0, 1) := by decide +kernel
theorem dMo_best_55 : decode bMo_best 55 = .ok (.iload_n 2, 1) := by decide +kernel
theorem dMo_best_56 : decode bMo_best 56 = .ok (.invokevirtual 93, 3) := by decide +kernel
theorem dMo_best_59 : decode bMo_best 59 = .ok (.if_icmp .gt (23), 3) := by decide +kernel
theorem dMo_best_62 : decode bMo_best 62 = .ok (.aload_n 0, 1) := by decide +kernel
theorem dMo_best_63 : decode bMo_best 63 = .ok (.iload 4, 2) := by decide +kernel
theorem dMo_best_65 : decode bMo_best 65 = .ok (.invokevirtual 93, 3) := by decide +kernel
theorem dMo_best_68 : decode bMo_best 68 = .ok (.aload_n 0, 1) := by decide +kernel
theorem dMo_best_69 : decode bMo_best 69 = .ok (.iload_n 2, 1) := by decide +kernel
theorem dMo_best_70 : decode bMo_best 70 = .ok (.invokevirtual 93, 3) := by decide +kernel
theorem dMo_best_73 : decode bMo_best 73 = .ok (.if_icmp .ne (13), 3) := by decide +kernel
theorem dMo_best_76 : decode bMo_best 76 = .ok (.iload 4, 2) := by decide +kernel
theorem dMo_best_78 : decode bMo_best 78 = .ok (.iload_n 2, 1) := by decide +kernel
theorem dMo_best_79 : decode bMo_best 79 = .ok (.if_icmp .ge (7), 3) := by decide +kernel
theorem dMo_best_82 : decode bMo_best 82 = .ok (.iconst 1, 1) := by decide +kernel
theorem dMo_best_83 : decode bMo_best 83 = .ok (.goto (4), 3) := by decide +kernel
theorem dMo_best_86 : decode bMo_best 86 = .ok (.iconst 0, 1) := by decide +kernel
theorem dMo_best_87 : decode bMo_best 87 = .ok (.istore 5, 2) := by decide +kernel
theorem dMo_best_89 : decode bMo_best 89 = .ok (.iload 5, 2) := by decide +kernel
theorem dMo_best_91 : decode bMo_best 91 = .ok (.ifCond .eq (9), 3) := by decide +kernel
theorem dMo_best_94 : decode bMo_best 94 = .ok (.iload_n 3, 1) := by decide +kernel
theorem dMo_best_95 : decode bMo_best 95 = .ok (.iconst 1, 1) := by decide +kernel
theorem dMo_best_96 : decode bMo_best 96 = .ok (.iadd, 1) := by decide +kernel
theorem dMo_best_97 : decode bMo_best 97 = .ok (.goto (4), 3) := by decide +kernel
theorem dMo_best_100 : decode bMo_best 100 = .ok (.iload_n 3, 1) := by decide +kernel
theorem dMo_best_101 : decode bMo_best 101 = .ok (.istore_n 3, 1) := by decide +kernel
theorem dMo_best_102 : decode bMo_best 102 = .ok (.iinc 4 (1), 3) := by decide +kernel
theorem dMo_best_105 : decode bMo_best 105 = .ok (.goto (-66), 3) := by decide +kernel
theorem dMo_best_108 : decode bMo_best 108 = .ok (.iload_n 3, 1) := by decide +kernel
theorem dMo_best_109 : decode bMo_best 109 = .ok (.iload_n 1, 1) := by decide +kernel
theorem dMo_best_110 : decode bMo_best 110 = .ok (.if_icmp .ne (5), 3) := by decide +kernel
theorem dMo_best_113 : decode bMo_best 113 = .ok (.iload_n 2, 1) := by decide +kernel
theorem dMo_best_114 : decode bMo_best 114 = .ok (.ireturn, 1) := by decide +kernel
theorem dMo_best_115 : decode bMo_best 115 = .ok (.iinc 2 (1), 3) := by decide +kernel
theorem dMo_best_118 : decode bMo_best 118 = .ok (.goto (-99), 3) := by decide +kernel
theorem dMo_best_121 : decode bMo_best 121 = .ok (.iconst 0, 1) := by decide +kernel
theorem dMo_best_122 : decode bMo_best 122 = .ok (.ireturn, 1) := by decide +kernel
theorem dMo_unknown_0 : decode bMo_unknown 0 = .ok (.aload_n 0, 1) := by decide +kernel
theorem dMo_unknown_1 : decode bMo_unknown 1 = .ok (.iconst 0, 1) := by decide +kernel
theorem dMo_unknown_2 : decode bMo_unknown 2 = .ok (.putfield 53, 3) := by decide +kernel
theorem dMo_unknown_5 : decode bMo_unknown 5 = .ok (.iconst 0, 1) := by decide +kernel
theorem dMo_unknown_6 : decode bMo_unknown 6 = .ok (.istore_n 1, 1) := by decide +kernel
theorem dMo_unknown_7 : decode bMo_unknown 7 = .ok (.iconst 0, 1) := by decide +kernel
theorem dMo_unknown_8 : decode bMo_unknown 8 = .ok (.istore_n 2, 1) := by decide +kernel
theorem dMo_unknown_9 : decode bMo_unknown 9 = .ok (.iload_n 2, 1) := by decide +kernel
theorem dMo_unknown_10 : decode bMo_unknown 10 = .ok (.aload_n 0, 1) := by decide +kernel
theorem dMo_unknown_11 : decode bMo_unknown 11 = .ok (.getfield 60, 3) := by decide +kernel
theorem dMo_unknown_14 : decode bMo_unknown 14 = .ok (.if_icmp .ge (31), 3) := by decide +kernel
theorem dMo_unknown_17 : decode bMo_unknown 17 = .ok (.aload_n 0, 1) := by decide +kernel
theorem dMo_unknown_18 : decode bMo_unknown 18 = .ok (.iload_n 2, 1) := by decide +kernel
theorem dMo_unknown_19 : decode bMo_unknown 19 = .ok (.iconst 0, 1) := by decide +kernel
theorem dMo_unknown_20 : decode bMo_unknown 20 = .ok (.aload_n 0, 1) := by decide +kernel
theorem dMo_unknown_21 : decode bMo_unknown 21 = .ok (.getfield 50, 3) := by decide +kernel
theorem dMo_unknown_24 : decode bMo_unknown 24 = .ok (.invokevirtual 81, 3) := by decide +kernel
theorem dMo_unknown_27 : decode bMo_unknown 27 = .ok (.iconst (-1), 1) := by decide +kernel
theorem dMo_unknown_28 : decode bMo_unknown 28 = .ok (.if_icmp .ne (9), 3) := by decide +kernel
theorem dMo_unknown_31 : decode bMo_unknown 31 = .ok (.iload_n 1, 1) := by decide +kernel
theorem dMo_unknown_32 : decode bMo_unknown 32 = .ok (.iconst 1, 1) := by decide +kernel
theorem dMo_unknown_33 : decode bMo_unknown 33 = .ok (.iadd, 1) := by decide +kernel
theorem dMo_unknown_34 : decode bMo_unknown 34 = .ok (.goto (4), 3) := by decide +kernel
theorem dMo_unknown_37 : decode bMo_unknown 37 = .ok (.iload_n 1, 1) := by decide +kernel
theorem dMo_unknown_38 : decode bMo_unknown 38 = .ok (.istore_n 1, 1) := by decide +kernel
theorem dMo_unknown_39 : decode bMo_unknown 39 = .ok (.iinc 2 (1), 3) := by decide +kernel
theorem dMo_unknown_42 : decode bMo_unknown 42 = .ok (.goto (-33), 3) := by decide +kernel
theorem dMo_unknown_45 : decode bMo_unknown 45 = .ok (.iload_n 1, 1) := by decide +kernel
theorem dMo_unknown_46 : decode bMo_unknown 46 = .ok (.ireturn, 1) := by decide +kernel
theorem dMo_mixed_0 : decode bMo_mixed 0 = .ok (.aload_n 0, 1) := by decide +kernel
theorem dMo_mixed_1 : decode bMo_mixed 1 = .ok (.aload_n 0, 1) := by decide +kernel
theorem dMo_mixed_2 : decode bMo_mixed 2 = .ok (.iload_n 1, 1) := by decide +kernel
theorem dMo_mixed_3 : decode bMo_mixed 3 = .ok (.invokevirtual 63, 3) := by decide +kernel
theorem dMo_mixed_6 : decode bMo_mixed 6 = .ok (.ifCond .eq (12), 3) := by decide +kernel
theorem dMo_mixed_9 : decode bMo_mixed 9 = .ok (.iload_n 2, 1) := by decide +kernel
theorem dMo_mixed_10 : decode bMo_mixed 10 = .ok (.iconst 0, 1) := by decide +kernel
theorem dMo_mixed_11 : decode bMo_mixed 11 = .ok (.iconst 1, 1) := by decide +kernel
theorem dMo_mixed_12 : decode bMo_mixed 12 = .ok (.invokestatic 56, 3) := by decide +kernel
theorem dMo_mixed_15 : decode bMo_mixed 15 = .ok (.ifCond .ne (7), 3) := by decide +kernel
theorem dMo_mixed_18 : decode bMo_mixed 18 = .ok (.iconst 1, 1) := by decide +kernel
theorem dMo_mixed_19 : decode bMo_mixed 19 = .ok (.goto (4), 3) := by decide +kernel
theorem dMo_mixed_22 : decode bMo_mixed 22 = .ok (.iconst 0, 1) := by decide +kernel
theorem dMo_mixed_23 : decode bMo_mixed 23 = .ok (.putfield 53, 3) := by decide +kernel
theorem dMo_mixed_26 : decode bMo_mixed 26 = .ok (.aload_n 0, 1) := by decide +kernel
theorem dMo_mixed_27 : decode bMo_mixed 27 = .ok (.getfield 53, 3) := by decide +kernel
theorem dMo_mixed_30 : decode bMo_mixed 30 = .ok (.ifCond .le (5), 3) := by decide +kernel
theorem dMo_mixed_33 : decode bMo_mixed 33 = .ok (.iconst 0, 1) := by decide +kernel
theorem dMo_mixed_34 : decode bMo_mixed 34 = .ok (.ireturn, 1) := by decide +kernel
theorem dMo_mixed_35 : decode bMo_mixed 35 = .ok (.iconst 0, 1) := by decide +kernel
theorem dMo_mixed_36 : decode bMo_mixed 36 = .ok (.istore_n 3, 1) := by decide +kernel
theorem dMo_mixed_37 : decode bMo_mixed 37 = .ok (.iconst 0, 1) := by decide +kernel
theorem dMo_mixed_38 : decode bMo_mixed 38 = .ok (.istore 4, 2) := by decide +kernel
theorem dMo_mixed_40 : decode bMo_mixed 40 = .ok (.iconst 0, 1) := by decide +kernel
theorem dMo_mixed_41 : decode bMo_mixed 41 = .ok (.istore 5, 2) := by decide +kernel
theorem dMo_mixed_43 : decode bMo_mixed 43 = .ok (.iload 5, 2) := by decide +kernel
theorem dMo_mixed_45 : decode bMo_mixed 45 = .ok (.aload_n 0, 1) := by decide +kernel
theorem dMo_mixed_46 : decode bMo_mixed 46 = .ok (.getfield 60, 3) := by decide +kernel
theorem dMo_mixed_49 : decode bMo_mixed 49 = .ok (.if_icmp .ge (68), 3) := by decide +kernel
theorem dMo_mixed_52 : decode bMo_mixed 52 = .ok (.aload_n 0, 1) := by decide +kernel
theorem dMo_mixed_53 : decode bMo_mixed 53 = .ok (.getfield 13, 3) := by decide +kernel
theorem dMo_mixed_56 : decode bMo_mixed 56 = .ok (.iload 5, 2) := by decide +kernel
theorem dMo_mixed_58 : decode bMo_mixed 58 = .ok (.iaload, 1) := by decide +kernel
theorem dMo_mixed_59 : decode bMo_mixed 59 = .ok (.iconst (-1), 1) := by decide +kernel
theorem dMo_mixed_60 : decode bMo_mixed 60 = .ok (.if_icmp .ne (17), 3) := by decide +kernel
theorem dMo_mixed_63 : decode bMo_mixed 63 = .ok (.aload_n 0, 1) := by decide +kernel
theorem dMo_mixed_64 : decode bMo_mixed 64 = .ok (.iload 5, 2) := by decide +kernel
theorem dMo_mixed_66 : decode bMo_mixed 66 = .ok (.iconst 0, 1) := by decide +kernel
theorem dMo_mixed_67 : decode bMo_mixed 67 = .ok (.aload_n 0, 1) := by decide +kernel
theorem dMo_mixed_68 : decode bMo_mixed 68 = .ok (.getfield 50, 3) := by decide +kernel
theorem dMo_mixed_71 : decode bMo_mixed 71 = .ok (.invokevirtual 81, 3) := by decide +kernel
theorem dMo_mixed_74 : decode bMo_mixed 74 = .ok (.goto (4), 3) := by decide +kernel
theorem dMo_mixed_77 : decode bMo_mixed 77 = .ok (.iconst (-1), 1) := by decide +kernel
theorem dMo_mixed_78 : decode bMo_mixed 78 = .ok (.istore 6, 2) := by decide +kernel
theorem dMo_mixed_80 : decode bMo_mixed 80 = .ok (.iload 6, 2) := by decide +kernel
theorem dMo_mixed_82 : decode bMo_mixed 82 = .ok (.iload_n 1, 1) := by decide +kernel
theorem dMo_mixed_83 : decode bMo_mixed 83 = .ok (.if_icmp .ne (9), 3) := by decide +kernel
theorem dMo_mixed_86 : decode bMo_mixed 86 = .ok (.iload_n 3, 1) := by decide +kernel
theorem dMo_mixed_87 : decode bMo_mixed 87 = .ok (.iconst 1, 1) := by decide +kernel
theorem dMo_mixed_88 : decode bMo_mixed 88 = .ok (.iadd, 1) := by decide +kernel
theorem dMo_mixed_89 : decode bMo_mixed 89 = .ok (.goto (4), 3) := by decide +kernel
theorem dMo_mixed_92 : decode bMo_mixed 92 = .ok (.iload_n 3, 1) := by decide +kernel
theorem dMo_mixed_93 : decode bMo_mixed 93 = .ok (.istore_n 3, 1) := by decide +kernel
theorem dMo_mixed_94 : decode bMo_mixed 94 = .ok (.iload 6, 2) := by decide +kernel
theorem dMo_mixed_96 : decode bMo_mixed 96 = .ok (.iconst (-1), 1) := by decide +kernel
theorem dMo_mixed_97 : decode bMo_mixed 97 = .ok (.if_icmp .eq (10), 3) := by decide +kernel
theorem dMo_mixed_100 : decode bMo_mixed 100 = .ok (.iload 4, 2) := by decide +kernel
theorem dMo_mixed_102 : decode bMo_mixed 102 = .ok (.iconst 1, 1) := by decide +kernel
theorem dMo_mixed_103 : decode bMo_mixed 103 = .ok (.iadd, 1) := by decide +kernel
theorem dMo_mixed_104 : decode bMo_mixed 104 = .ok (.goto (5), 3) := by decide +kernel
theorem dMo_mixed_107 : decode bMo_mixed 107 = .ok (.iload 4, 2) := by decide +kernel
theorem dMo_mixed_109 : decode bMo_mixed 109 = .ok (.istore 4, 2) := by decide +kernel
theorem dMo_mixed_111 : decode bMo_mixed 111 = .ok (.iinc 5 (1), 3) := by decide +kernel
theorem dMo_mixed_114 : decode bMo_mixed 114 = .ok (.goto (-71), 3) := by decide +kernel
theorem dMo_mixed_117 : decode bMo_mixed 117 = .ok (.iload_n 3, 1) := by decide +kernel
theorem dMo_mixed_118 : decode bMo_mixed 118 = .ok (.i2l, 1) := by decide +kernel
theorem dMo_mixed_119 : decode bMo_mixed 119 = .ok (.iload 4, 2) := by decide +kernel
theorem dMo_mixed_121 : decode bMo_mixed 121 = .ok (.i2l, 1) := by decide +kernel
theorem dMo_mixed_122 : decode bMo_mixed 122 = .ok (.iload_n 2, 1) := by decide +kernel
theorem dMo_mixed_123 : decode bMo_mixed 123 = .ok (.invokestatic 89, 3) := by decide +kernel
theorem dMo_mixed_126 : decode bMo_mixed 126 = .ok (.l2i, 1) := by decide +kernel
theorem dMo_mixed_127 : decode bMo_mixed 127 = .ok (.ireturn, 1) := by decide +kernel
theorem dMo_alike_0 : decode bMo_alike 0 = .ok (.iconst 0, 1) := by decide +kernel
theorem dMo_alike_1 : decode bMo_alike 1 = .ok (.istore 4, 2) := by decide +kernel
theorem dMo_alike_3 : decode bMo_alike 3 = .ok (.iconst 0, 1) := by decide +kernel
theorem dMo_alike_4 : decode bMo_alike 4 = .ok (.istore 5, 2) := by decide +kernel
theorem dMo_alike_6 : decode bMo_alike 6 = .ok (.iload 5, 2) := by decide +kernel
theorem dMo_alike_8 : decode bMo_alike 8 = .ok (.aload_n 0, 1) := by decide +kernel
theorem dMo_alike_9 : decode bMo_alike 9 = .ok (.getfield 50, 3) := by decide +kernel
theorem dMo_alike_12 : decode bMo_alike 12 = .ok (.if_icmp .ge (37), 3) := by decide +kernel
theorem dMo_alike_15 : decode bMo_alike 15 = .ok (.aload_n 0, 1) := by decide +kernel
theorem dMo_alike_16 : decode bMo_alike 16 = .ok (.iload_n 1, 1) := by decide +kernel
theorem dMo_alike_17 : decode bMo_alike 17 = .ok (.iload 5, 2) := by decide +kernel
theorem dMo_alike_19 : decode bMo_alike 19 = .ok (.invokevirtual 73, 3) := by decide +kernel
theorem dMo_alike_22 : decode bMo_alike 22 = .ok (.aload_n 0, 1) := by decide +kernel
theorem dMo_alike_23 : decode bMo_alike 23 = .ok (.iload_n 2, 1) := by decide +kernel
theorem dMo_alike_24 : decode bMo_alike 24 = .ok (.iload 5, 2) := by decide +kernel
theorem dMo_alike_26 : decode bMo_alike 26 = .ok (.invokevirtual 73, 3) := by decide +kernel
theorem dMo_alike_29 : decode bMo_alike 29 = .ok (.if_icmp .ne (10), 3) := by decide +kernel
theorem dMo_alike_32 : decode bMo_alike 32 = .ok (.iload 4, 2) := by decide +kernel
theorem dMo_alike_34 : decode bMo_alike 34 = .ok (.iconst 1, 1) := by decide +kernel
theorem dMo_alike_35 : decode bMo_alike 35 = .ok (.iadd, 1) := by decide +kernel
theorem dMo_alike_36 : decode bMo_alike 36 = .ok (.goto (5), 3) := by decide +kernel
theorem dMo_alike_39 : decode bMo_alike 39 = .ok (.iload 4, 2) := by decide +kernel
