theorem dMo_init_0 : decode bMo_init 0 = .ok (.aload_n 0, 1) := by decide +kernel
theorem dMo_init_1 : decode bMo_init 1 = .ok (.invokespecial 1, 3) := by decide +kernel
theorem dMo_init_4 : decode bMo_init 4 = .ok (.aload_n 0, 1) := by decide +kernel
theorem dMo_init_5 : decode bMo_init 5 = .ok (.bipush (11), 2) := by decide +kernel
theorem dMo_init_7 : decode bMo_init 7 = .ok (.newarray .int, 2) := by decide +kernel
theorem dMo_init_9 : decode bMo_init 9 = .ok (.putfield 7, 3) := by decide +kernel
theorem dMo_init_12 : decode bMo_init 12 = .ok (.aload_n 0, 1) := by decide +kernel
theorem dMo_init_13 : decode bMo_init 13 = .ok (.bipush (24), 2) := by decide +kernel
theorem dMo_init_15 : decode bMo_init 15 = .ok (.newarray .int, 2) := by decide +kernel
theorem dMo_init_17 : decode bMo_init 17 = .ok (.putfield 13, 3) := by decide +kernel
theorem dMo_init_20 : decode bMo_init 20 = .ok (.aload_n 0, 1) := by decide +kernel
theorem dMo_init_21 : decode bMo_init 21 = .ok (.sipush (264), 3) := by decide +kernel
theorem dMo_init_24 : decode bMo_init 24 = .ok (.newarray .int, 2) := by decide +kernel
theorem dMo_init_26 : decode bMo_init 26 = .ok (.putfield 16, 3) := by decide +kernel
theorem dMo_init_29 : decode bMo_init 29 = .ok (.aload_n 0, 1) := by decide +kernel
theorem dMo_init_30 : decode bMo_init 30 = .ok (.bipush (6), 2) := by decide +kernel
theorem dMo_init_32 : decode bMo_init 32 = .ok (.newarray .int, 2) := by decide +kernel
theorem dMo_init_34 : decode bMo_init 34 = .ok (.putfield 19, 3) := by decide +kernel
theorem dMo_init_37 : decode bMo_init 37 = .ok (.aload_n 0, 1) := by decide +kernel
theorem dMo_init_38 : decode bMo_init 38 = .ok (.iconst 1, 1) := by decide +kernel
theorem dMo_init_39 : decode bMo_init 39 = .ok (.putfield 22, 3) := by decide +kernel
theorem dMo_init_42 : decode bMo_init 42 = .ok (.aload_n 0, 1) := by decide +kernel
theorem dMo_init_43 : decode bMo_init 43 = .ok (.bipush (12), 2) := by decide +kernel
theorem dMo_init_45 : decode bMo_init 45 = .ok (.newarray .int, 2) := by decide +kernel
theorem dMo_init_47 : decode bMo_init 47 = .ok (.putfield 26, 3) := by decide +kernel
theorem dMo_init_50 : decode bMo_init 50 = .ok (.aload_n 0, 1) := by decide +kernel
theorem dMo_init_51 : decode bMo_init 51 = .ok (.bipush (12), 2) := by decide +kernel
theorem dMo_init_53 : decode bMo_init 53 = .ok (.newarray .int, 2) := by decide +kernel
theorem dMo_init_55 : decode bMo_init 55 = .ok (.putfield 29, 3) := by decide +kernel
theorem dMo_init_58 : decode bMo_init 58 = .ok (.aload_n 0, 1) := by decide +kernel
theorem dMo_init_59 : decode bMo_init 59 = .ok (.bipush (72), 2) := by decide +kernel
theorem dMo_init_61 : decode bMo_init 61 = .ok (.newarray .int, 2) := by decide +kernel
theorem dMo_init_63 : decode bMo_init 63 = .ok (.putfield 32, 3) := by decide +kernel
theorem dMo_init_66 : decode bMo_init 66 = .ok (.aload_n 0, 1) := by decide +kernel
theorem dMo_init_67 : decode bMo_init 67 = .ok (.bipush (6), 2) := by decide +kernel
theorem dMo_init_69 : decode bMo_init 69 = .ok (.newarray .int, 2) := by decide +kernel
theorem dMo_init_71 : decode bMo_init 71 = .ok (.putfield 35, 3) := by decide +kernel
theorem dMo_init_74 : decode bMo_init 74 = .ok (.aload_n 0, 1) := by decide +kernel
theorem dMo_init_75 : decode bMo_init 75 = .ok (.bipush (36), 2) := by decide +kernel
theorem dMo_init_77 : decode bMo_init 77 = .ok (.newarray .int, 2) := by decide +kernel
theorem dMo_init_79 : decode bMo_init 79 = .ok (.putfield 38, 3) := by decide +kernel
theorem dMo_init_82 : decode bMo_init 82 = .ok (.aload_n 0, 1) := by decide +kernel
theorem dMo_init_83 : decode bMo_init 83 = .ok (.bipush (36), 2) := by decide +kernel
theorem dMo_init_85 : decode bMo_init 85 = .ok (.newarray .int, 2) := by decide +kernel
theorem dMo_init_87 : decode bMo_init 87 = .ok (.putfield 41, 3) := by decide +kernel
theorem dMo_init_90 : decode bMo_init 90 = .ok (.aload_n 0, 1) := by decide +kernel
theorem dMo_init_91 : decode bMo_init 91 = .ok (.bipush (24), 2) := by decide +kernel
theorem dMo_init_93 : decode bMo_init 93 = .ok (.newarray .int, 2) := by decide +kernel
theorem dMo_init_95 : decode bMo_init 95 = .ok (.putfield 44, 3) := by decide +kernel
theorem dMo_init_98 : decode bMo_init 98 = .ok (.aload_n 0, 1) := by decide +kernel
theorem dMo_init_99 : decode bMo_init 99 = .ok (.iload_n 1, 1) := by decide +kernel
theorem dMo_init_100 : decode bMo_init 100 = .ok (.iconst 1, 1) := by decide +kernel
theorem dMo_init_101 : decode bMo_init 101 = .ok (.if_icmp .ge (7), 3) := by decide +kernel
theorem dMo_init_104 : decode bMo_init 104 = .ok (.iconst 1, 1) := by decide +kernel
theorem dMo_init_105 : decode bMo_init 105 = .ok (.goto (15), 3) := by decide +kernel
theorem dMo_init_108 : decode bMo_init 108 = .ok (.iload_n 1, 1) := by decide +kernel
theorem dMo_init_109 : decode bMo_init 109 = .ok (.bipush (6), 2) := by decide +kernel
theorem dMo_init_111 : decode bMo_init 111 = .ok (.if_icmp .le (8), 3) := by decide +kernel
theorem dMo_init_114 : decode bMo_init 114 = .ok (.bipush (6), 2) := by decide +kernel
theorem dMo_init_116 : decode bMo_init 116 = .ok (.goto (4), 3) := by decide +kernel
theorem dMo_init_119 : decode bMo_init 119 = .ok (.iload_n 1, 1) := by decide +kernel
theorem dMo_init_120 : decode bMo_init 120 = .ok (.putfield 47, 3) := by decide +kernel
theorem dMo_init_123 : decode bMo_init 123 = .ok (.aload_n 0, 1) := by decide +kernel
theorem dMo_init_124 : decode bMo_init 124 = .ok (.iconst 3, 1) := by decide +kernel
theorem dMo_init_125 : decode bMo_init 125 = .ok (.iload_n 2, 1) := by decide +kernel
theorem dMo_init_126 : decode bMo_init 126 = .ok (.iconst 1, 1) := by decide +kernel
theorem dMo_init_127 : decode bMo_init 127 = .ok (.if_icmp .ge (7), 3) := by decide +kernel
theorem dMo_init_130 : decode bMo_init 130 = .ok (.iconst 1, 1) := by decide +kernel
theorem dMo_init_131 : decode bMo_init 131 = .ok (.goto (15), 3) := by decide +kernel
theorem dMo_init_134 : decode bMo_init 134 = .ok (.iload_n 2, 1) := by decide +kernel
theorem dMo_init_135 : decode bMo_init 135 = .ok (.bipush (8), 2) := by decide +kernel
theorem dMo_init_137 : decode bMo_init 137 = .ok (.if_icmp .le (8), 3) := by decide +kernel
theorem dMo_init_140 : decode bMo_init 140 = .ok (.bipush (8), 2) := by decide +kernel
theorem dMo_init_142 : decode bMo_init 142 = .ok (.goto (4), 3) := by decide +kernel
theorem dMo_init_145 : decode bMo_init 145 = .ok (.iload_n 2, 1) := by decide +kernel
theorem dMo_init_146 : decode bMo_init 146 = .ok (.iadd, 1) := by decide +kernel
theorem dMo_init_147 : decode bMo_init 147 = .ok (.putfield 50, 3) := by decide +kernel
theorem dMo_init_150 : decode bMo_init 150 = .ok (.iconst 0, 1) := by decide +kernel
theorem dMo_init_151 : decode bMo_init 151 = .ok (.istore_n 3, 1) := by decide +kernel
theorem dMo_init_152 : decode bMo_init 152 = .ok (.iload_n 3, 1) := by decide +kernel
theorem dMo_init_153 : decode bMo_init 153 = .ok (.bipush (11), 2) := by decide +kernel
theorem dMo_init_155 : decode bMo_init 155 = .ok (.if_icmp .ge (17), 3) := by decide +kernel
theorem dMo_init_158 : decode bMo_init 158 = .ok (.aload_n 0, 1) := by decide +kernel
theorem dMo_init_159 : decode bMo_init 159 = .ok (.getfield 7, 3) := by decide +kernel
theorem dMo_init_162 : decode bMo_init 162 = .ok (.iload_n 3, 1) := by decide +kernel
theorem dMo_init_163 : decode bMo_init 163 = .ok (.bipush (100), 2) := by decide +kernel
theorem dMo_init_165 : decode bMo_init 165 = .ok (.iastore, 1) := by decide +kernel
theorem dMo_init_166 : decode bMo_init 166 = .ok (.iinc 3 (1), 3) := by decide +kernel
theorem dMo_init_169 : decode bMo_init 169 = .ok (.goto (-17), 3) := by decide +kernel
theorem dMo_init_172 : decode bMo_init 172 = .ok (.iconst 0, 1) := by decide +kernel
theorem dMo_init_173 : decode bMo_init 173 = .ok (.istore_n 3, 1) := by decide +kernel
theorem dMo_init_174 : decode bMo_init 174 = .ok (.iload_n 3, 1) := by decide +kernel
theorem dMo_init_175 : decode bMo_init 175 = .ok (.bipush (6), 2) := by decide +kernel
theorem dMo_init_177 : decode bMo_init 177 = .ok (.if_icmp .ge (16), 3) := by decide +kernel
theorem dMo_init_180 : decode bMo_init 180 = .ok (.aload_n 0, 1) := by decide +kernel
theorem dMo_init_181 : decode bMo_init 181 = .ok (.getfield 19, 3) := by decide +kernel
theorem dMo_init_184 : decode bMo_init 184 = .ok (.iload_n 3, 1) := by decide +kernel
theorem dMo_init_185 : decode bMo_init 185 = .ok (.iload_n 3, 1) := by decide +kernel
theorem dMo_init_186 : decode bMo_init 186 = .ok (.iastore, 1) := by decide +kernel
theorem dMo_init_187 : decode bMo_init 187 = .ok (.iinc 3 (1), 3) := by decide +kernel
theorem dMo_init_190 : decode bMo_init 190 = .ok (.goto (-16), 3) := by decide +kernel
theorem dMo_init_193 : decode bMo_init 193 = .ok (.return_, 1) := by decide +kernel
theorem dMo_thrown_0 : decode bMo_thrown 0 = .ok (.aload_n 0, 1) := by decide +kernel
theorem dMo_thrown_1 : decode bMo_thrown 1 = .ok (.getfield 53, 3) := by decide +kernel
theorem dMo_thrown_4 : decode bMo_thrown 4 = .ok (.ireturn, 1) := by decide +kernel
theorem dMo_isIn_0 : decode bMo_isIn 0 = .ok (.iload_n 0, 1) := by decide +kernel
theorem dMo_isIn_1 : decode bMo_isIn 1 = .ok (.iload_n 1, 1) := by decide +kernel
theorem dMo_isIn_2 : decode bMo_isIn 2 = .ok (.if_icmp .lt (12), 3) := by decide +kernel
theorem dMo_isIn_5 : decode bMo_isIn 5 = .ok (.iload_n 0, 1) := by decide +kernel
theorem dMo_isIn_6 : decode bMo_isIn 6 = .ok (.iload_n 2, 1) := by decide +kernel
theorem dMo_isIn_7 : decode bMo_isIn 7 = .ok (.if_icmp .gt (7), 3) := by decide +kernel
theorem dMo_isIn_10 : decode bMo_isIn 10 = .ok (.iconst 1, 1) := by decide +kernel
theorem dMo_isIn_11 : decode bMo_isIn 11 = .ok (.goto (4), 3) := by decide +kernel
theorem dMo_isIn_14 : decode bMo_isIn 14 = .ok (.iconst 0, 1) := by decide +kernel
theorem dMo_isIn_15 : decode bMo_isIn 15 = .ok (.ireturn, 1) := by decide +kernel
theorem dMo_isKind_0 : decode bMo_isKind 0 = .ok (.iload_n 1, 1) := by decide +kernel
theorem dMo_isKind_1 : decode bMo_isKind 1 = .ok (.iconst 0, 1) := by decide +kernel
theorem dMo_isKind_2 : decode bMo_isKind 2 = .ok (.aload_n 0, 1) := by decide +kernel
theorem dMo_isKind_3 : decode bMo_isKind 3 = .ok (.getfield 47, 3) := by decide +kernel
theorem dMo_isKind_6 : decode bMo_isKind 6 = .ok (.iconst 1, 1) := by decide +kernel
theorem dMo_isKind_7 : decode bMo_isKind 7 = .ok (.isub, 1) := by decide +kernel
theorem dMo_isKind_8 : decode bMo_isKind 8 = .ok (.invokestatic 56, 3) := by decide +kernel
theorem dMo_isKind_11 : decode bMo_isKind 11 = .ok (.ireturn, 1) := by decide +kernel
theorem dMo_isExample_0 : decode bMo_isExample 0 = .ok (.iload_n 1, 1) := by decide +kernel
theorem dMo_isExample_1 : decode bMo_isExample 1 = .ok (.iconst 0, 1) := by decide +kernel
theorem dMo_isExample_2 : decode bMo_isExample 2 = .ok (.aload_n 0, 1) := by decide +kernel
theorem dMo_isExample_3 : decode bMo_isExample 3 = .ok (.getfield 60, 3) := by decide +kernel
theorem dMo_isExample_6 : decode bMo_isExample 6 = .ok (.iconst 1, 1) := by decide +kernel
theorem dMo_isExample_7 : decode bMo_isExample 7 = .ok (.isub, 1) := by decide +kernel
theorem dMo_isExample_8 : decode bMo_isExample 8 = .ok (.invokestatic 56, 3) := by decide +kernel
theorem dMo_isExample_11 : decode bMo_isExample 11 = .ok (.ireturn, 1) := by decide +kernel
theorem dMo_isFeature_0 : decode bMo_isFeature 0 = .ok (.iload_n 1, 1) := by decide +kernel
theorem dMo_isFeature_1 : decode bMo_isFeature 1 = .ok (.iconst 0, 1) := by decide +kernel
theorem dMo_isFeature_2 : decode bMo_isFeature 2 = .ok (.aload_n 0, 1) := by decide +kernel
theorem dMo_isFeature_3 : decode bMo_isFeature 3 = .ok (.getfield 50, 3) := by decide +kernel
theorem dMo_isFeature_6 : decode bMo_isFeature 6 = .ok (.iconst 1, 1) := by decide +kernel
theorem dMo_isFeature_7 : decode bMo_isFeature 7 = .ok (.isub, 1) := by decide +kernel
theorem dMo_isFeature_8 : decode bMo_isFeature 8 = .ok (.invokestatic 56, 3) := by decide +kernel
theorem dMo_isFeature_11 : decode bMo_isFeature 11 = .ok (.ireturn, 1) := by decide +kernel
theorem dMo_example_0 : decode bMo_example 0 = .ok (.aload_n 0, 1) := by decide +kernel
theorem dMo_example_1 : decode bMo_example 1 = .ok (.iload_n 1, 1) := by decide +kernel
theorem dMo_example_2 : decode bMo_example 2 = .ok (.iconst (-1), 1) := by decide +kernel
theorem dMo_example_3 : decode bMo_example 3 = .ok (.if_icmp .eq (15), 3) := by decide +kernel
theorem dMo_example_6 : decode bMo_example 6 = .ok (.aload_n 0, 1) := by decide +kernel
theorem dMo_example_7 : decode bMo_example 7 = .ok (.iload_n 1, 1) := by decide +kernel
theorem dMo_example_8 : decode bMo_example 8 = .ok (.invokevirtual 63, 3) := by decide +kernel
theorem dMo_example_11 : decode bMo_example 11 = .ok (.ifCond .ne (7), 3) := by decide +kernel
theorem dMo_example_14 : decode bMo_example 14 = .ok (.iconst 1, 1) := by decide +kernel
theorem dMo_example_15 : decode bMo_example 15 = .ok (.goto (17), 3) := by decide +kernel
theorem dMo_example_18 : decode bMo_example 18 = .ok (.aload_n 0, 1) := by decide +kernel
theorem dMo_example_19 : decode bMo_example 19 = .ok (.getfield 60, 3) := by decide +kernel
theorem dMo_example_22 : decode bMo_example 22 = .ok (.bipush (24), 2) := by decide +kernel
theorem dMo_example_24 : decode bMo_example 24 = .ok (.if_icmp .ne (7), 3) := by decide +kernel
theorem dMo_example_27 : decode bMo_example 27 = .ok (.iconst 2, 1) := by decide +kernel
theorem dMo_example_28 : decode bMo_example 28 = .ok (.goto (4), 3) := by decide +kernel
theorem dMo_example_31 : decode bMo_example 31 = .ok (.iconst 0, 1) := by decide +kernel
theorem dMo_example_32 : decode bMo_example 32 = .ok (.putfield 53, 3) := by decide +kernel
theorem dMo_example_35 : decode bMo_example 35 = .ok (.aload_n 0, 1) := by decide +kernel
theorem dMo_example_36 : decode bMo_example 36 = .ok (.getfield 53, 3) := by decide +kernel
theorem dMo_example_39 : decode bMo_example 39 = .ok (.ifCond .le (5), 3) := by decide +kernel
theorem dMo_example_42 : decode bMo_example 42 = .ok (.iconst 0, 1) := by decide +kernel
theorem dMo_example_43 : decode bMo_example 43 = .ok (.ireturn, 1) := by decide +kernel
theorem dMo_example_44 : decode bMo_example 44 = .ok (.aload_n 0, 1) := by decide +kernel
theorem dMo_example_45 : decode bMo_example 45 = .ok (.getfield 13, 3) := by decide +kernel
theorem dMo_example_48 : decode bMo_example 48 = .ok (.aload_n 0, 1) := by decide +kernel
theorem dMo_example_49 : decode bMo_example 49 = .ok (.getfield 60, 3) := by decide +kernel
theorem dMo_example_52 : decode bMo_example 52 = .ok (.iload_n 1, 1) := by decide +kernel
theorem dMo_example_53 : decode bMo_example 53 = .ok (.iastore, 1) := by decide +kernel
theorem dMo_example_54 : decode bMo_example 54 = .ok (.aload_n 0, 1) := by decide +kernel
theorem dMo_example_55 : decode bMo_example 55 = .ok (.dup, 1) := by decide +kernel
theorem dMo_example_56 : decode bMo_example 56 = .ok (.getfield 60, 3) := by decide +kernel
theorem dMo_example_59 : decode bMo_example 59 = .ok (.iconst 1, 1) := by decide +kernel
theorem dMo_example_60 : decode bMo_example 60 = .ok (.iadd, 1) := by decide +kernel
theorem dMo_example_61 : decode bMo_example 61 = .ok (.putfield 60, 3) := by decide +kernel
theorem dMo_example_64 : decode bMo_example 64 = .ok (.aload_n 0, 1) := by decide +kernel
theorem dMo_example_65 : decode bMo_example 65 = .ok (.getfield 60, 3) := by decide +kernel
theorem dMo_example_68 : decode bMo_example 68 = .ok (.iconst 1, 1) := by decide +kernel
theorem dMo_example_69 : decode bMo_example 69 = .ok (.isub, 1) := by decide +kernel
theorem dMo_example_70 : decode bMo_example 70 = .ok (.ireturn, 1) := by decide +kernel
theorem dMo_value_0 : decode bMo_value 0 = .ok (.aload_n 0, 1) := by decide +kernel
theorem dMo_value_1 : decode bMo_value 1 = .ok (.aload_n 0, 1) := by decide +kernel
theorem dMo_value_2 : decode bMo_value 2 = .ok (.iload_n 1, 1) := by decide +kernel
theorem dMo_value_3 : decode bMo_value 3 = .ok (.invokevirtual 67, 3) := by decide +kernel
theorem dMo_value_6 : decode bMo_value 6 = .ok (.ifCond .eq (11), 3) := by decide +kernel
theorem dMo_value_9 : decode bMo_value 9 = .ok (.aload_n 0, 1) := by decide +kernel
theorem dMo_value_10 : decode bMo_value 10 = .ok (.iload_n 2, 1) := by decide +kernel
theorem dMo_value_11 : decode bMo_value 11 = .ok (.invokevirtual 70, 3) := by decide +kernel
theorem dMo_value_14 : decode bMo_value 14 = .ok (.ifCond .ne (7), 3) := by decide +kernel
theorem dMo_value_17 : decode bMo_value 17 = .ok (.iconst 1, 1) := by decide +kernel
theorem dMo_value_18 : decode bMo_value 18 = .ok (.goto (19), 3) := by decide +kernel
theorem dMo_value_21 : decode bMo_value 21 = .ok (.iload_n 3, 1) := by decide +kernel
theorem dMo_value_22 : decode bMo_value 22 = .ok (.iconst 0, 1) := by decide +kernel
theorem dMo_value_23 : decode bMo_value 23 = .ok (.sipush (2000), 3) := by decide +kernel
theorem dMo_value_26 : decode bMo_value 26 = .ok (.invokestatic 56, 3) := by decide +kernel
theorem dMo_value_29 : decode bMo_value 29 = .ok (.ifCond .ne (7), 3) := by decide +kernel
theorem dMo_value_32 : decode bMo_value 32 = .ok (.iconst 2, 1) := by decide +kernel
theorem dMo_value_33 : decode bMo_value 33 = .ok (.goto (4), 3) := by decide +kernel
theorem dMo_value_36 : decode bMo_value 36 = .ok (.iconst 0, 1) := by decide +kernel
theorem dMo_value_37 : decode bMo_value 37 = .ok (.putfield 53, 3) := by decide +kernel
theorem dMo_value_40 : decode bMo_value 40 = .ok (.aload_n 0, 1) := by decide +kernel
theorem dMo_value_41 : decode bMo_value 41 = .ok (.getfield 53, 3) := by decide +kernel
theorem dMo_value_44 : decode bMo_value 44 = .ok (.ifCond .le (5), 3) := by decide +kernel
theorem dMo_value_47 : decode bMo_value 47 = .ok (.iconst 0, 1) := by decide +kernel
theorem dMo_value_48 : decode bMo_value 48 = .ok (.ireturn, 1) := by decide +kernel
theorem dMo_value_49 : decode bMo_value 49 = .ok (.aload_n 0, 1) := by decide +kernel
theorem dMo_value_50 : decode bMo_value 50 = .ok (.getfield 16, 3) := by decide +kernel
theorem dMo_value_53 : decode bMo_value 53 = .ok (.bipush (11), 2) := by decide +kernel
theorem dMo_value_55 : decode bMo_value 55 = .ok (.iload_n 1, 1) := by decide +kernel
theorem dMo_value_56 : decode bMo_value 56 = .ok (.imul, 1) := by decide +kernel
theorem dMo_value_57 : decode bMo_value 57 = .ok (.iload_n 2, 1) := by decide +kernel
theorem dMo_value_58 : decode bMo_value 58 = .ok (.iadd, 1) := by decide +kernel
theorem dMo_value_59 : decode bMo_value 59 = .ok (.iaload, 1) := by decide +kernel
theorem dMo_value_60 : decode bMo_value 60 = .ok (.iload_n 3, 1) := by decide +kernel
theorem dMo_value_61 : decode bMo_value 61 = .ok (.if_icmp .eq (7), 3) := by decide +kernel
theorem dMo_value_64 : decode bMo_value 64 = .ok (.iconst 1, 1) := by decide +kernel
theorem dMo_value_65 : decode bMo_value 65 = .ok (.goto (4), 3) := by decide +kernel
theorem dMo_value_68 : decode bMo_value 68 = .ok (.iconst 0, 1) := by decide +kernel
theorem dMo_value_69 : decode bMo_value 69 = .ok (.istore 4, 2) := by decide +kernel
theorem dMo_value_71 : decode bMo_value 71 = .ok (.aload_n 0, 1) := by decide +kernel
theorem dMo_value_72 : decode bMo_value 72 = .ok (.getfield 16, 3) := by decide +kernel
theorem dMo_value_75 : decode bMo_value 75 = .ok (.bipush (11), 2) := by decide +kernel
theorem dMo_value_77 : decode bMo_value 77 = .ok (.iload_n 1, 1) := by decide +kernel
theorem dMo_value_78 : decode bMo_value 78 = .ok (.imul, 1) := by decide +kernel
theorem dMo_value_79 : decode bMo_value 79 = .ok (.iload_n 2, 1) := by decide +kernel
theorem dMo_value_80 : decode bMo_value 80 = .ok (.iadd, 1) := by decide +kernel
theorem dMo_value_81 : decode bMo_value 81 = .ok (.iload_n 3, 1) := by decide +kernel
theorem dMo_value_82 : decode bMo_value 82 = .ok (.iastore, 1) := by decide +kernel
theorem dMo_value_83 : decode bMo_value 83 = .ok (.iload 4, 2) := by decide +kernel
theorem dMo_value_85 : decode bMo_value 85 = .ok (.ireturn, 1) := by decide +kernel
theorem dMo_teach_0 : decode bMo_teach 0 = .ok (.aload_n 0, 1) := by decide +kernel
theorem dMo_teach_1 : decode bMo_teach 1 = .ok (.aload_n 0, 1) := by decide +kernel
theorem dMo_teach_2 : decode bMo_teach 2 = .ok (.iload_n 1, 1) := by decide +kernel
theorem dMo_teach_3 : decode bMo_teach 3 = .ok (.invokevirtual 67, 3) := by decide +kernel
theorem dMo_teach_6 : decode bMo_teach 6 = .ok (.ifCond .eq (16), 3) := by decide +kernel
theorem dMo_teach_9 : decode bMo_teach 9 = .ok (.iload_n 2, 1) := by decide +kernel
theorem dMo_teach_10 : decode bMo_teach 10 = .ok (.iconst (-1), 1) := by decide +kernel
theorem dMo_teach_11 : decode bMo_teach 11 = .ok (.if_icmp .eq (15), 3) := by decide +kernel
theorem dMo_teach_14 : decode bMo_teach 14 = .ok (.aload_n 0, 1) := by decide +kernel
theorem dMo_teach_15 : decode bMo_teach 15 = .ok (.iload_n 2, 1) := by decide +kernel
theorem dMo_teach_16 : decode bMo_teach 16 = .ok (.invokevirtual 63, 3) := by decide +kernel
theorem dMo_teach_19 : decode bMo_teach 19 = .ok (.ifCond .ne (7), 3) := by decide +kernel
theorem dMo_teach_22 : decode bMo_teach 22 = .ok (.iconst 1, 1) := by decide +kernel
theorem dMo_teach_23 : decode bMo_teach 23 = .ok (.goto (4), 3) := by decide +kernel
theorem dMo_teach_26 : decode bMo_teach 26 = .ok (.iconst 0, 1) := by decide +kernel
theorem dMo_teach_27 : decode bMo_teach 27 = .ok (.putfield 53, 3) := by decide +kernel
theorem dMo_teach_30 : decode bMo_teach 30 = .ok (.aload_n 0, 1) := by decide +kernel
theorem dMo_teach_31 : decode bMo_teach 31 = .ok (.getfield 53, 3) := by decide +kernel
theorem dMo_teach_34 : decode bMo_teach 34 = .ok (.ifCond .le (5), 3) := by decide +kernel
theorem dMo_teach_37 : decode bMo_teach 37 = .ok (.iconst 0, 1) := by decide +kernel
theorem dMo_teach_38 : decode bMo_teach 38 = .ok (.ireturn, 1) := by decide +kernel
theorem dMo_teach_39 : decode bMo_teach 39 = .ok (.aload_n 0, 1) := by decide +kernel
theorem dMo_teach_40 : decode bMo_teach 40 = .ok (.getfield 13, 3) := by decide +kernel
theorem dMo_teach_43 : decode bMo_teach 43 = .ok (.iload_n 1, 1) := by decide +kernel
theorem dMo_teach_44 : decode bMo_teach 44 = .ok (.iaload, 1) := by decide +kernel
theorem dMo_teach_45 : decode bMo_teach 45 = .ok (.istore_n 3, 1) := by decide +kernel
theorem dMo_teach_46 : decode bMo_teach 46 = .ok (.aload_n 0, 1) := by decide +kernel
theorem dMo_teach_47 : decode bMo_teach 47 = .ok (.getfield 13, 3) := by decide +kernel
theorem dMo_teach_50 : decode bMo_teach 50 = .ok (.iload_n 1, 1) := by decide +kernel
theorem dMo_teach_51 : decode bMo_teach 51 = .ok (.iload_n 2, 1) := by decide +kernel
theorem dMo_teach_52 : decode bMo_teach 52 = .ok (.iastore, 1) := by decide +kernel
theorem dMo_teach_53 : decode bMo_teach 53 = .ok (.iload_n 3, 1) := by decide +kernel
theorem dMo_teach_54 : decode bMo_teach 54 = .ok (.ireturn, 1) := by decide +kernel
theorem dMo_width_0 : decode bMo_width 0 = .ok (.aload_n 0, 1) := by decide +kernel
theorem dMo_width_1 : decode bMo_width 1 = .ok (.aload_n 0, 1) := by decide +kernel
theorem dMo_width_2 : decode bMo_width 2 = .ok (.iload_n 1, 1) := by decide +kernel
theorem dMo_width_3 : decode bMo_width 3 = .ok (.invokevirtual 70, 3) := by decide +kernel
theorem dMo_width_6 : decode bMo_width 6 = .ok (.ifCond .ne (7), 3) := by decide +kernel
theorem dMo_width_9 : decode bMo_width 9 = .ok (.iconst 1, 1) := by decide +kernel
theorem dMo_width_10 : decode bMo_width 10 = .ok (.goto (19), 3) := by decide +kernel
theorem dMo_width_13 : decode bMo_width 13 = .ok (.iload_n 2, 1) := by decide +kernel
theorem dMo_width_14 : decode bMo_width 14 = .ok (.iconst 1, 1) := by decide +kernel
theorem dMo_width_15 : decode bMo_width 15 = .ok (.sipush (1000), 3) := by decide +kernel
theorem dMo_width_18 : decode bMo_width 18 = .ok (.invokestatic 56, 3) := by decide +kernel
theorem dMo_width_21 : decode bMo_width 21 = .ok (.ifCond .ne (7), 3) := by decide +kernel
theorem dMo_width_24 : decode bMo_width 24 = .ok (.iconst 2, 1) := by decide +kernel
theorem dMo_width_25 : decode bMo_width 25 = .ok (.goto (4), 3) := by decide +kernel
theorem dMo_width_28 : decode bMo_width 28 = .ok (.iconst 0, 1) := by decide +kernel
theorem dMo_width_29 : decode bMo_width 29 = .ok (.putfield 53, 3) := by decide +kernel
theorem dMo_width_32 : decode bMo_width 32 = .ok (.aload_n 0, 1) := by decide +kernel
theorem dMo_width_33 : decode bMo_width 33 = .ok (.getfield 53, 3) := by decide +kernel
theorem dMo_width_36 : decode bMo_width 36 = .ok (.ifCond .le (5), 3) := by decide +kernel
theorem dMo_width_39 : decode bMo_width 39 = .ok (.iconst 0, 1) := by decide +kernel
theorem dMo_width_40 : decode bMo_width 40 = .ok (.ireturn, 1) := by decide +kernel
theorem dMo_width_41 : decode bMo_width 41 = .ok (.aload_n 0, 1) := by decide +kernel
theorem dMo_width_42 : decode bMo_width 42 = .ok (.getfield 7, 3) := by decide +kernel
theorem dMo_width_45 : decode bMo_width 45 = .ok (.iload_n 1, 1) := by decide +kernel
theorem dMo_width_46 : decode bMo_width 46 = .ok (.iaload, 1) := by decide +kernel
theorem dMo_width_47 : decode bMo_width 47 = .ok (.istore_n 3, 1) := by decide +kernel
theorem dMo_width_48 : decode bMo_width 48 = .ok (.aload_n 0, 1) := by decide +kernel
theorem dMo_width_49 : decode bMo_width 49 = .ok (.getfield 7, 3) := by decide +kernel
theorem dMo_width_52 : decode bMo_width 52 = .ok (.iload_n 1, 1) := by decide +kernel
theorem dMo_width_53 : decode bMo_width 53 = .ok (.iload_n 2, 1) := by decide +kernel
theorem dMo_width_54 : decode bMo_width 54 = .ok (.iastore, 1) := by decide +kernel
theorem dMo_width_55 : decode bMo_width 55 = .ok (.iload_n 3, 1) := by decide +kernel
theorem dMo_width_56 : decode bMo_width 56 = .ok (.ireturn, 1) := by decide +kernel
theorem dMo_cellOf_0 : decode bMo_cellOf 0 = .ok (.aload_n 0, 1) := by decide +kernel
theorem dMo_cellOf_1 : decode bMo_cellOf 1 = .ok (.getfield 16, 3) := by decide +kernel
theorem dMo_cellOf_4 : decode bMo_cellOf 4 = .ok (.bipush (11), 2) := by decide +kernel
theorem dMo_cellOf_6 : decode bMo_cellOf 6 = .ok (.iload_n 1, 1) := by decide +kernel
theorem dMo_cellOf_7 : decode bMo_cellOf 7 = .ok (.imul, 1) := by decide +kernel
theorem dMo_cellOf_8 : decode bMo_cellOf 8 = .ok (.iload_n 2, 1) := by decide +kernel
theorem dMo_cellOf_9 : decode bMo_cellOf 9 = .ok (.iadd, 1) := by decide +kernel
theorem dMo_cellOf_10 : decode bMo_cellOf 10 = .ok (.iaload, 1) := by decide +kernel
theorem dMo_cellOf_11 : decode bMo_cellOf 11 = .ok (.aload_n 0, 1) := by decide +kernel
theorem dMo_cellOf_12 : decode bMo_cellOf 12 = .ok (.getfield 7, 3) := by decide +kernel
theorem dMo_cellOf_15 : decode bMo_cellOf 15 = .ok (.iload_n 2, 1) := by decide +kernel
theorem dMo_cellOf_16 : decode bMo_cellOf 16 = .ok (.iaload, 1) := by decide +kernel
theorem dMo_cellOf_17 : decode bMo_cellOf 17 = .ok (.idiv, 1) := by decide +kernel
theorem dMo_cellOf_18 : decode bMo_cellOf 18 = .ok (.ireturn, 1) := by decide +kernel
theorem dMo_cell_0 : decode bMo_cell 0 = .ok (.aload_n 0, 1) := by decide +kernel
theorem dMo_cell_1 : decode bMo_cell 1 = .ok (.aload_n 0, 1) := by decide +kernel
theorem dMo_cell_2 : decode bMo_cell 2 = .ok (.iload_n 1, 1) := by decide +kernel
theorem dMo_cell_3 : decode bMo_cell 3 = .ok (.invokevirtual 67, 3) := by decide +kernel
theorem dMo_cell_6 : decode bMo_cell 6 = .ok (.ifCond .eq (11), 3) := by decide +kernel
theorem dMo_cell_9 : decode bMo_cell 9 = .ok (.aload_n 0, 1) := by decide +kernel
theorem dMo_cell_10 : decode bMo_cell 10 = .ok (.iload_n 2, 1) := by decide +kernel
theorem dMo_cell_11 : decode bMo_cell 11 = .ok (.invokevirtual 70, 3) := by decide +kernel
theorem dMo_cell_14 : decode bMo_cell 14 = .ok (.ifCond .ne (7), 3) := by decide +kernel
theorem dMo_cell_17 : decode bMo_cell 17 = .ok (.iconst 1, 1) := by decide +kernel
theorem dMo_cell_18 : decode bMo_cell 18 = .ok (.goto (4), 3) := by decide +kernel
theorem dMo_cell_21 : decode bMo_cell 21 = .ok (.iconst 0, 1) := by decide +kernel
theorem dMo_cell_22 : decode bMo_cell 22 = .ok (.putfield 53, 3) := by decide +kernel
theorem dMo_cell_25 : decode bMo_cell 25 = .ok (.aload_n 0, 1) := by decide +kernel
theorem dMo_cell_26 : decode bMo_cell 26 = .ok (.getfield 53, 3) := by decide +kernel
theorem dMo_cell_29 : decode bMo_cell 29 = .ok (.ifCond .le (7), 3) := by decide +kernel
theorem dMo_cell_32 : decode bMo_cell 32 = .ok (.iconst 0, 1) := by decide +kernel
theorem dMo_cell_33 : decode bMo_cell 33 = .ok (.goto (9), 3) := by decide +kernel
theorem dMo_cell_36 : decode bMo_cell 36 = .ok (.aload_n 0, 1) := by decide +kernel
theorem dMo_cell_37 : decode bMo_cell 37 = .ok (.iload_n 1, 1) := by decide +kernel
theorem dMo_cell_38 : decode bMo_cell 38 = .ok (.iload_n 2, 1) := by decide +kernel
theorem dMo_cell_39 : decode bMo_cell 39 = .ok (.invokevirtual 73, 3) := by decide +kernel
theorem dMo_cell_42 : decode bMo_cell 42 = .ok (.ireturn, 1) := by decide +kernel
theorem dMo_votesOf_0 : decode bMo_votesOf 0 = .ok (.iconst 0, 1) := by decide +kernel
theorem dMo_votesOf_1 : decode bMo_votesOf 1 = .ok (.istore 5, 2) := by decide +kernel
theorem dMo_votesOf_3 : decode bMo_votesOf 3 = .ok (.iconst 0, 1) := by decide +kernel
theorem dMo_votesOf_4 : decode bMo_votesOf 4 = .ok (.istore 6, 2) := by decide +kernel
theorem dMo_votesOf_6 : decode bMo_votesOf 6 = .ok (.iload 6, 2) := by decide +kernel
theorem dMo_votesOf_8 : decode bMo_votesOf 8 = .ok (.aload_n 0, 1) := by decide +kernel
theorem dMo_votesOf_9 : decode bMo_votesOf 9 = .ok (.getfield 60, 3) := by decide +kernel
theorem dMo_votesOf_12 : decode bMo_votesOf 12 = .ok (.if_icmp .ge (71), 3) := by decide +kernel
theorem dMo_votesOf_15 : decode bMo_votesOf 15 = .ok (.iload_n 3, 1) := by decide +kernel
theorem dMo_votesOf_16 : decode bMo_votesOf 16 = .ok (.istore 7, 2) := by decide +kernel
theorem dMo_votesOf_18 : decode bMo_votesOf 18 = .ok (.iload 7, 2) := by decide +kernel
theorem dMo_votesOf_20 : decode bMo_votesOf 20 = .ok (.iload 4, 2) := by decide +kernel
theorem dMo_votesOf_22 : decode bMo_votesOf 22 = .ok (.if_icmp .ge (55), 3) := by decide +kernel
theorem dMo_votesOf_25 : decode bMo_votesOf 25 = .ok (.iload 6, 2) := by decide +kernel
theorem dMo_votesOf_27 : decode bMo_votesOf 27 = .ok (.iload_n 1, 1) := by decide +kernel
theorem dMo_votesOf_28 : decode bMo_votesOf 28 = .ok (.if_icmp .eq (49), 3) := by decide +kernel
theorem dMo_votesOf_31 : decode bMo_votesOf 31 = .ok (.aload_n 0, 1) := by decide +kernel
theorem dMo_votesOf_32 : decode bMo_votesOf 32 = .ok (.getfield 13, 3) := by decide +kernel
theorem dMo_votesOf_35 : decode bMo_votesOf 35 = .ok (.iload 6, 2) := by decide +kernel
theorem dMo_votesOf_37 : decode bMo_votesOf 37 = .ok (.iaload, 1) := by decide +kernel
theorem dMo_votesOf_38 : decode bMo_votesOf 38 = .ok (.iload_n 2, 1) := by decide +kernel
theorem dMo_votesOf_39 : decode bMo_votesOf 39 = .ok (.if_icmp .ne (38), 3) := by decide +kernel
theorem dMo_votesOf_42 : decode bMo_votesOf 42 = .ok (.aload_n 0, 1) := by decide +kernel
theorem dMo_votesOf_43 : decode bMo_votesOf 43 = .ok (.iload 6, 2) := by decide +kernel
theorem dMo_votesOf_45 : decode bMo_votesOf 45 = .ok (.iload 7, 2) := by decide +kernel
theorem dMo_votesOf_47 : decode bMo_votesOf 47 = .ok (.invokevirtual 73, 3) := by decide +kernel
theorem dMo_votesOf_50 : decode bMo_votesOf 50 = .ok (.aload_n 0, 1) := by decide +kernel
theorem dMo_votesOf_51 : decode bMo_votesOf 51 = .ok (.iload_n 1, 1) := by decide +kernel
theorem dMo_votesOf_52 : decode bMo_votesOf 52 = .ok (.iload 7, 2) := by decide +kernel
theorem dMo_votesOf_54 : decode bMo_votesOf 54 = .ok (.invokevirtual 73, 3) := by decide +kernel
theorem dMo_votesOf_57 : decode bMo_votesOf 57 = .ok (.if_icmp .ne (10), 3) := by decide +kernel
theorem dMo_votesOf_60 : decode bMo_votesOf 60 = .ok (.iload 5, 2) := by decide +kernel
theorem dMo_votesOf_62 : decode bMo_votesOf 62 = .ok (.iconst 1, 1) := by decide +kernel
theorem dMo_votesOf_63 : decode bMo_votesOf 63 = .ok (.iadd, 1) := by decide +kernel
theorem dMo_votesOf_64 : decode bMo_votesOf 64 = .ok (.goto (5), 3) := by decide +kernel
theorem dMo_votesOf_67 : decode bMo_votesOf 67 = .ok (.iload 5, 2) := by decide +kernel
theorem dMo_votesOf_69 : decode bMo_votesOf 69 = .ok (.istore 5, 2) := by decide +kernel
theorem dMo_votesOf_71 : decode bMo_votesOf 71 = .ok (.iinc 7 (1), 3) := by decide +kernel
theorem dMo_votesOf_74 : decode bMo_votesOf 74 = .ok (.goto (-56), 3) := by decide +kernel
theorem dMo_votesOf_77 : decode bMo_votesOf 77 = .ok (.iinc 6 (1), 3) := by decide +kernel
theorem dMo_votesOf_80 : decode bMo_votesOf 80 = .ok (.goto (-74), 3) := by decide +kernel
theorem dMo_votesOf_83 : decode bMo_votesOf 83 = .ok (.iload 5, 2) := by decide +kernel
theorem dMo_votesOf_85 : decode bMo_votesOf 85 = .ok (.ireturn, 1) := by decide +kernel
theorem dMo_votes_0 : decode bMo_votes 0 = .ok (.aload_n 0, 1) := by decide +kernel
theorem dMo_votes_1 : decode bMo_votes 1 = .ok (.aload_n 0, 1) := by decide +kernel
theorem dMo_votes_2 : decode bMo_votes 2 = .ok (.iload_n 1, 1) := by decide +kernel
theorem dMo_votes_3 : decode bMo_votes 3 = .ok (.invokevirtual 67, 3) := by decide +kernel
theorem dMo_votes_6 : decode bMo_votes 6 = .ok (.ifCond .eq (11), 3) := by decide +kernel
theorem dMo_votes_9 : decode bMo_votes 9 = .ok (.aload_n 0, 1) := by decide +kernel
theorem dMo_votes_10 : decode bMo_votes 10 = .ok (.iload_n 2, 1) := by decide +kernel
theorem dMo_votes_11 : decode bMo_votes 11 = .ok (.invokevirtual 63, 3) := by decide +kernel
theorem dMo_votes_14 : decode bMo_votes 14 = .ok (.ifCond .ne (7), 3) := by decide +kernel
theorem dMo_votes_17 : decode bMo_votes 17 = .ok (.iconst 1, 1) := by decide +kernel
theorem dMo_votes_18 : decode bMo_votes 18 = .ok (.goto (4), 3) := by decide +kernel
theorem dMo_votes_21 : decode bMo_votes 21 = .ok (.iconst 0, 1) := by decide +kernel
theorem dMo_votes_22 : decode bMo_votes 22 = .ok (.putfield 53, 3) := by decide +kernel
theorem dMo_votes_25 : decode bMo_votes 25 = .ok (.aload_n 0, 1) := by decide +kernel
theorem dMo_votes_26 : decode bMo_votes 26 = .ok (.getfield 53, 3) := by decide +kernel
theorem dMo_votes_29 : decode bMo_votes 29 = .ok (.ifCond .le (7), 3) := by decide +kernel
theorem dMo_votes_32 : decode bMo_votes 32 = .ok (.iconst 0, 1) := by decide +kernel
theorem dMo_votes_33 : decode bMo_votes 33 = .ok (.goto (14), 3) := by decide +kernel
theorem dMo_votes_36 : decode bMo_votes 36 = .ok (.aload_n 0, 1) := by decide +kernel
theorem dMo_votes_37 : decode bMo_votes 37 = .ok (.iload_n 1, 1) := by decide +kernel
theorem dMo_votes_38 : decode bMo_votes 38 = .ok (.iload_n 2, 1) := by decide +kernel
theorem dMo_votes_39 : decode bMo_votes 39 = .ok (.iconst 0, 1) := by decide +kernel
theorem dMo_votes_40 : decode bMo_votes 40 = .ok (.aload_n 0, 1) := by decide +kernel
theorem dMo_votes_41 : decode bMo_votes 41 = .ok (.getfield 50, 3) := by decide +kernel
theorem dMo_votes_44 : decode bMo_votes 44 = .ok (.invokevirtual 77, 3) := by decide +kernel
theorem dMo_votes_47 : decode bMo_votes 47 = .ok (.ireturn, 1) := by decide +kernel
theorem dMo_toldBy_0 : decode bMo_toldBy 0 = .ok (.iconst (-1), 1) := by decide +kernel
theorem dMo_toldBy_1 : decode bMo_toldBy 1 = .ok (.istore 4, 2) := by decide +kernel
theorem dMo_toldBy_3 : decode bMo_toldBy 3 = .ok (.iconst (-1), 1) := by decide +kernel
theorem dMo_toldBy_4 : decode bMo_toldBy 4 = .ok (.istore 5, 2) := by decide +kernel
theorem dMo_toldBy_6 : decode bMo_toldBy 6 = .ok (.iconst 0, 1) := by decide +kernel
theorem dMo_toldBy_7 : decode bMo_toldBy 7 = .ok (.istore 6, 2) := by decide +kernel
theorem dMo_toldBy_9 : decode bMo_toldBy 9 = .ok (.iload 6, 2) := by decide +kernel
theorem dMo_toldBy_11 : decode bMo_toldBy 11 = .ok (.aload_n 0, 1) := by decide +kernel
theorem dMo_toldBy_12 : decode bMo_toldBy 12 = .ok (.getfield 47, 3) := by decide +kernel
theorem dMo_toldBy_15 : decode bMo_toldBy 15 = .ok (.if_icmp .ge (62), 3) := by decide +kernel
theorem dMo_toldBy_18 : decode bMo_toldBy 18 = .ok (.aload_n 0, 1) := by decide +kernel
theorem dMo_toldBy_19 : decode bMo_toldBy 19 = .ok (.iload_n 1, 1) := by decide +kernel
theorem dMo_toldBy_20 : decode bMo_toldBy 20 = .ok (.aload_n 0, 1) := by decide +kernel
theorem dMo_toldBy_21 : decode bMo_toldBy 21 = .ok (.getfield 19, 3) := by decide +kernel
theorem dMo_toldBy_24 : decode bMo_toldBy 24 = .ok (.iload 6, 2) := by decide +kernel
theorem dMo_toldBy_26 : decode bMo_toldBy 26 = .ok (.iaload, 1) := by decide +kernel
theorem dMo_toldBy_27 : decode bMo_toldBy 27 = .ok (.iload_n 2, 1) := by decide +kernel
theorem dMo_toldBy_28 : decode bMo_toldBy 28 = .ok (.iload_n 3, 1) := by decide +kernel
theorem dMo_toldBy_29 : decode bMo_toldBy 29 = .ok (.invokevirtual 77, 3) := by decide +kernel
theorem dMo_toldBy_32 : decode bMo_toldBy 32 = .ok (.istore 7, 2) := by decide +kernel
theorem dMo_toldBy_34 : decode bMo_toldBy 34 = .ok (.iload 7, 2) := by decide +kernel
theorem dMo_toldBy_36 : decode bMo_toldBy 36 = .ok (.iload 5, 2) := by decide +kernel
theorem dMo_toldBy_38 : decode bMo_toldBy 38 = .ok (.if_icmp .le (13), 3) := by decide +kernel
theorem dMo_toldBy_41 : decode bMo_toldBy 41 = .ok (.aload_n 0, 1) := by decide +kernel
theorem dMo_toldBy_42 : decode bMo_toldBy 42 = .ok (.getfield 19, 3) := by decide +kernel
theorem dMo_toldBy_45 : decode bMo_toldBy 45 = .ok (.iload 6, 2) := by decide +kernel
theorem dMo_toldBy_47 : decode bMo_toldBy 47 = .ok (.iaload, 1) := by decide +kernel
theorem dMo_toldBy_48 : decode bMo_toldBy 48 = .ok (.goto (5), 3) := by decide +kernel
theorem dMo_toldBy_51 : decode bMo_toldBy 51 = .ok (.iload 4, 2) := by decide +kernel
theorem dMo_toldBy_53 : decode bMo_toldBy 53 = .ok (.istore 4, 2) := by decide +kernel
theorem dMo_toldBy_55 : decode bMo_toldBy 55 = .ok (.iload 7, 2) := by decide +kernel
theorem dMo_toldBy_57 : decode bMo_toldBy 57 = .ok (.iload 5, 2) := by decide +kernel
theorem dMo_toldBy_59 : decode bMo_toldBy 59 = .ok (.if_icmp .le (8), 3) := by decide +kernel
theorem dMo_toldBy_62 : decode bMo_toldBy 62 = .ok (.iload 7, 2) := by decide +kernel
theorem dMo_toldBy_64 : decode bMo_toldBy 64 = .ok (.goto (5), 3) := by decide +kernel
theorem dMo_toldBy_67 : decode bMo_toldBy 67 = .ok (.iload 5, 2) := by decide +kernel
theorem dMo_toldBy_69 : decode bMo_toldBy 69 = .ok (.istore 5, 2) := by decide +kernel
theorem dMo_toldBy_71 : decode bMo_toldBy 71 = .ok (.iinc 6 (1), 3) := by decide +kernel
theorem dMo_toldBy_74 : decode bMo_toldBy 74 = .ok (.goto (-65), 3) := by decide +kernel
theorem dMo_toldBy_77 : decode bMo_toldBy 77 = .ok (.iload 5, 2) := by decide +kernel
theorem dMo_toldBy_79 : decode bMo_toldBy 79 = .ok (.aload_n 0, 1) := by decide +kernel
theorem dMo_toldBy_80 : decode bMo_toldBy 80 = .ok (.getfield 22, 3) := by decide +kernel
theorem dMo_toldBy_83 : decode bMo_toldBy 83 = .ok (.if_icmp .ge (7), 3) := by decide +kernel
theorem dMo_toldBy_86 : decode bMo_toldBy 86 = .ok (.iconst (-1), 1) := by decide +kernel
theorem dMo_toldBy_87 : decode bMo_toldBy 87 = .ok (.goto (5), 3) := by decide +kernel
theorem dMo_toldBy_90 : decode bMo_toldBy 90 = .ok (.iload 4, 2) := by decide +kernel
theorem dMo_toldBy_92 : decode bMo_toldBy 92 = .ok (.ireturn, 1) := by decide +kernel
theorem dMo_tell_0 : decode bMo_tell 0 = .ok (.aload_n 0, 1) := by decide +kernel
theorem dMo_tell_1 : decode bMo_tell 1 = .ok (.aload_n 0, 1) := by decide +kernel
