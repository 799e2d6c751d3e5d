theorem dLa_add_20 : decode bLa_add 20 = .ok (.aload_n 0, 1) := by decide +kernel
theorem dLa_add_21 : decode bLa_add 21 = .ok (.dup, 1) := by decide +kernel
theorem dLa_add_22 : decode bLa_add 22 = .ok (.getfield 18, 3) := by decide +kernel
theorem dLa_add_25 : decode bLa_add 25 = .ok (.iconst 1, 1) := by decide +kernel
theorem dLa_add_26 : decode bLa_add 26 = .ok (.iadd, 1) := by decide +kernel
theorem dLa_add_27 : decode bLa_add 27 = .ok (.putfield 18, 3) := by decide +kernel
theorem dLa_add_30 : decode bLa_add 30 = .ok (.aload_n 0, 1) := by decide +kernel
theorem dLa_add_31 : decode bLa_add 31 = .ok (.getfield 18, 3) := by decide +kernel
theorem dLa_add_34 : decode bLa_add 34 = .ok (.ireturn, 1) := by decide +kernel
theorem dLa_strengthAt_0 : decode bLa_strengthAt 0 = .ok (.iconst 0, 1) := by decide +kernel
theorem dLa_strengthAt_1 : decode bLa_strengthAt 1 = .ok (.istore_n 2, 1) := by decide +kernel
theorem dLa_strengthAt_2 : decode bLa_strengthAt 2 = .ok (.iload_n 2, 1) := by decide +kernel
theorem dLa_strengthAt_3 : decode bLa_strengthAt 3 = .ok (.aload_n 0, 1) := by decide +kernel
theorem dLa_strengthAt_4 : decode bLa_strengthAt 4 = .ok (.getfield 18, 3) := by decide +kernel
theorem dLa_strengthAt_7 : decode bLa_strengthAt 7 = .ok (.if_icmp .ge (52), 3) := by decide +kernel
theorem dLa_strengthAt_10 : decode bLa_strengthAt 10 = .ok (.iload_n 1, 1) := by decide +kernel
theorem dLa_strengthAt_11 : decode bLa_strengthAt 11 = .ok (.aload_n 0, 1) := by decide +kernel
theorem dLa_strengthAt_12 : decode bLa_strengthAt 12 = .ok (.getfield 9, 3) := by decide +kernel
theorem dLa_strengthAt_15 : decode bLa_strengthAt 15 = .ok (.iload_n 2, 1) := by decide +kernel
theorem dLa_strengthAt_16 : decode bLa_strengthAt 16 = .ok (.iaload, 1) := by decide +kernel
theorem dLa_strengthAt_17 : decode bLa_strengthAt 17 = .ok (.if_icmp .ne (10), 3) := by decide +kernel
theorem dLa_strengthAt_20 : decode bLa_strengthAt 20 = .ok (.aload_n 0, 1) := by decide +kernel
theorem dLa_strengthAt_21 : decode bLa_strengthAt 21 = .ok (.getfield 15, 3) := by decide +kernel
theorem dLa_strengthAt_24 : decode bLa_strengthAt 24 = .ok (.iload_n 2, 1) := by decide +kernel
theorem dLa_strengthAt_25 : decode bLa_strengthAt 25 = .ok (.iaload, 1) := by decide +kernel
theorem dLa_strengthAt_26 : decode bLa_strengthAt 26 = .ok (.ireturn, 1) := by decide +kernel
theorem dLa_strengthAt_27 : decode bLa_strengthAt 27 = .ok (.iload_n 1, 1) := by decide +kernel
theorem dLa_strengthAt_28 : decode bLa_strengthAt 28 = .ok (.aload_n 0, 1) := by decide +kernel
theorem dLa_strengthAt_29 : decode bLa_strengthAt 29 = .ok (.getfield 9, 3) := by decide +kernel
theorem dLa_strengthAt_32 : decode bLa_strengthAt 32 = .ok (.iload_n 2, 1) := by decide +kernel
theorem dLa_strengthAt_33 : decode bLa_strengthAt 33 = .ok (.iaload, 1) := by decide +kernel
theorem dLa_strengthAt_34 : decode bLa_strengthAt 34 = .ok (.if_icmp .ge (19), 3) := by decide +kernel
theorem dLa_strengthAt_37 : decode bLa_strengthAt 37 = .ok (.iload_n 2, 1) := by decide +kernel
theorem dLa_strengthAt_38 : decode bLa_strengthAt 38 = .ok (.iconst 1, 1) := by decide +kernel
theorem dLa_strengthAt_39 : decode bLa_strengthAt 39 = .ok (.if_icmp .ge (7), 3) := by decide +kernel
theorem dLa_strengthAt_42 : decode bLa_strengthAt 42 = .ok (.iconst (-1), 1) := by decide +kernel
theorem dLa_strengthAt_43 : decode bLa_strengthAt 43 = .ok (.goto (9), 3) := by decide +kernel
theorem dLa_strengthAt_46 : decode bLa_strengthAt 46 = .ok (.aload_n 0, 1) := by decide +kernel
theorem dLa_strengthAt_47 : decode bLa_strengthAt 47 = .ok (.iload_n 2, 1) := by decide +kernel
theorem dLa_strengthAt_48 : decode bLa_strengthAt 48 = .ok (.iload_n 1, 1) := by decide +kernel
theorem dLa_strengthAt_49 : decode bLa_strengthAt 49 = .ok (.invokevirtual 22, 3) := by decide +kernel
theorem dLa_strengthAt_52 : decode bLa_strengthAt 52 = .ok (.ireturn, 1) := by decide +kernel
theorem dLa_strengthAt_53 : decode bLa_strengthAt 53 = .ok (.iinc 2 (1), 3) := by decide +kernel
theorem dLa_strengthAt_56 : decode bLa_strengthAt 56 = .ok (.goto (-54), 3) := by decide +kernel
theorem dLa_strengthAt_59 : decode bLa_strengthAt 59 = .ok (.iconst (-1), 1) := by decide +kernel
theorem dLa_strengthAt_60 : decode bLa_strengthAt 60 = .ok (.ireturn, 1) := by decide +kernel
theorem dLa_strengthBefore_0 : decode bLa_strengthBefore 0 = .ok (.aload_n 0, 1) := by decide +kernel
theorem dLa_strengthBefore_1 : decode bLa_strengthBefore 1 = .ok (.getfield 15, 3) := by decide +kernel
theorem dLa_strengthBefore_4 : decode bLa_strengthBefore 4 = .ok (.iload_n 1, 1) := by decide +kernel
theorem dLa_strengthBefore_5 : decode bLa_strengthBefore 5 = .ok (.iaload, 1) := by decide +kernel
theorem dLa_strengthBefore_6 : decode bLa_strengthBefore 6 = .ok (.aload_n 0, 1) := by decide +kernel
theorem dLa_strengthBefore_7 : decode bLa_strengthBefore 7 = .ok (.getfield 15, 3) := by decide +kernel
theorem dLa_strengthBefore_10 : decode bLa_strengthBefore 10 = .ok (.iload_n 1, 1) := by decide +kernel
theorem dLa_strengthBefore_11 : decode bLa_strengthBefore 11 = .ok (.iconst 1, 1) := by decide +kernel
theorem dLa_strengthBefore_12 : decode bLa_strengthBefore 12 = .ok (.isub, 1) := by decide +kernel
theorem dLa_strengthBefore_13 : decode bLa_strengthBefore 13 = .ok (.iaload, 1) := by decide +kernel
theorem dLa_strengthBefore_14 : decode bLa_strengthBefore 14 = .ok (.isub, 1) := by decide +kernel
theorem dLa_strengthBefore_15 : decode bLa_strengthBefore 15 = .ok (.istore_n 3, 1) := by decide +kernel
theorem dLa_strengthBefore_16 : decode bLa_strengthBefore 16 = .ok (.aload_n 0, 1) := by decide +kernel
theorem dLa_strengthBefore_17 : decode bLa_strengthBefore 17 = .ok (.getfield 9, 3) := by decide +kernel
theorem dLa_strengthBefore_20 : decode bLa_strengthBefore 20 = .ok (.iload_n 1, 1) := by decide +kernel
theorem dLa_strengthBefore_21 : decode bLa_strengthBefore 21 = .ok (.iaload, 1) := by decide +kernel
theorem dLa_strengthBefore_22 : decode bLa_strengthBefore 22 = .ok (.aload_n 0, 1) := by decide +kernel
theorem dLa_strengthBefore_23 : decode bLa_strengthBefore 23 = .ok (.getfield 9, 3) := by decide +kernel
theorem dLa_strengthBefore_26 : decode bLa_strengthBefore 26 = .ok (.iload_n 1, 1) := by decide +kernel
theorem dLa_strengthBefore_27 : decode bLa_strengthBefore 27 = .ok (.iconst 1, 1) := by decide +kernel
theorem dLa_strengthBefore_28 : decode bLa_strengthBefore 28 = .ok (.isub, 1) := by decide +kernel
theorem dLa_strengthBefore_29 : decode bLa_strengthBefore 29 = .ok (.iaload, 1) := by decide +kernel
theorem dLa_strengthBefore_30 : decode bLa_strengthBefore 30 = .ok (.isub, 1) := by decide +kernel
theorem dLa_strengthBefore_31 : decode bLa_strengthBefore 31 = .ok (.istore 4, 2) := by decide +kernel
theorem dLa_strengthBefore_33 : decode bLa_strengthBefore 33 = .ok (.iload_n 2, 1) := by decide +kernel
theorem dLa_strengthBefore_34 : decode bLa_strengthBefore 34 = .ok (.aload_n 0, 1) := by decide +kernel
theorem dLa_strengthBefore_35 : decode bLa_strengthBefore 35 = .ok (.getfield 9, 3) := by decide +kernel
theorem dLa_strengthBefore_38 : decode bLa_strengthBefore 38 = .ok (.iload_n 1, 1) := by decide +kernel
theorem dLa_strengthBefore_39 : decode bLa_strengthBefore 39 = .ok (.iconst 1, 1) := by decide +kernel
theorem dLa_strengthBefore_40 : decode bLa_strengthBefore 40 = .ok (.isub, 1) := by decide +kernel
theorem dLa_strengthBefore_41 : decode bLa_strengthBefore 41 = .ok (.iaload, 1) := by decide +kernel
theorem dLa_strengthBefore_42 : decode bLa_strengthBefore 42 = .ok (.isub, 1) := by decide +kernel
theorem dLa_strengthBefore_43 : decode bLa_strengthBefore 43 = .ok (.istore 5, 2) := by decide +kernel
theorem dLa_strengthBefore_45 : decode bLa_strengthBefore 45 = .ok (.iload 4, 2) := by decide +kernel
theorem dLa_strengthBefore_47 : decode bLa_strengthBefore 47 = .ok (.iconst 1, 1) := by decide +kernel
theorem dLa_strengthBefore_48 : decode bLa_strengthBefore 48 = .ok (.if_icmp .ge (12), 3) := by decide +kernel
theorem dLa_strengthBefore_51 : decode bLa_strengthBefore 51 = .ok (.aload_n 0, 1) := by decide +kernel
theorem dLa_strengthBefore_52 : decode bLa_strengthBefore 52 = .ok (.getfield 15, 3) := by decide +kernel
theorem dLa_strengthBefore_55 : decode bLa_strengthBefore 55 = .ok (.iload_n 1, 1) := by decide +kernel
theorem dLa_strengthBefore_56 : decode bLa_strengthBefore 56 = .ok (.iaload, 1) := by decide +kernel
theorem dLa_strengthBefore_57 : decode bLa_strengthBefore 57 = .ok (.goto (21), 3) := by decide +kernel
theorem dLa_strengthBefore_60 : decode bLa_strengthBefore 60 = .ok (.aload_n 0, 1) := by decide +kernel
theorem dLa_strengthBefore_61 : decode bLa_strengthBefore 61 = .ok (.getfield 15, 3) := by decide +kernel
theorem dLa_strengthBefore_64 : decode bLa_strengthBefore 64 = .ok (.iload_n 1, 1) := by decide +kernel
theorem dLa_strengthBefore_65 : decode bLa_strengthBefore 65 = .ok (.iconst 1, 1) := by decide +kernel
theorem dLa_strengthBefore_66 : decode bLa_strengthBefore 66 = .ok (.isub, 1) := by decide +kernel
theorem dLa_strengthBefore_67 : decode bLa_strengthBefore 67 = .ok (.iaload, 1) := by decide +kernel
theorem dLa_strengthBefore_68 : decode bLa_strengthBefore 68 = .ok (.iload_n 3, 1) := by decide +kernel
theorem dLa_strengthBefore_69 : decode bLa_strengthBefore 69 = .ok (.iload 5, 2) := by decide +kernel
theorem dLa_strengthBefore_71 : decode bLa_strengthBefore 71 = .ok (.imul, 1) := by decide +kernel
theorem dLa_strengthBefore_72 : decode bLa_strengthBefore 72 = .ok (.iload 4, 2) := by decide +kernel
theorem dLa_strengthBefore_74 : decode bLa_strengthBefore 74 = .ok (.invokestatic 26, 3) := by decide +kernel
theorem dLa_strengthBefore_77 : decode bLa_strengthBefore 77 = .ok (.iadd, 1) := by decide +kernel
theorem dLa_strengthBefore_78 : decode bLa_strengthBefore 78 = .ok (.ireturn, 1) := by decide +kernel
theorem dLa_leastLength_0 : decode bLa_leastLength 0 = .ok (.iconst 0, 1) := by decide +kernel
theorem dLa_leastLength_1 : decode bLa_leastLength 1 = .ok (.istore_n 2, 1) := by decide +kernel
theorem dLa_leastLength_2 : decode bLa_leastLength 2 = .ok (.iload_n 2, 1) := by decide +kernel
theorem dLa_leastLength_3 : decode bLa_leastLength 3 = .ok (.aload_n 0, 1) := by decide +kernel
theorem dLa_leastLength_4 : decode bLa_leastLength 4 = .ok (.getfield 18, 3) := by decide +kernel
theorem dLa_leastLength_7 : decode bLa_leastLength 7 = .ok (.if_icmp .ge (40), 3) := by decide +kernel
theorem dLa_leastLength_10 : decode bLa_leastLength 10 = .ok (.aload_n 0, 1) := by decide +kernel
theorem dLa_leastLength_11 : decode bLa_leastLength 11 = .ok (.getfield 15, 3) := by decide +kernel
theorem dLa_leastLength_14 : decode bLa_leastLength 14 = .ok (.iload_n 2, 1) := by decide +kernel
theorem dLa_leastLength_15 : decode bLa_leastLength 15 = .ok (.iaload, 1) := by decide +kernel
theorem dLa_leastLength_16 : decode bLa_leastLength 16 = .ok (.iload_n 1, 1) := by decide +kernel
theorem dLa_leastLength_17 : decode bLa_leastLength 17 = .ok (.if_icmp .lt (24), 3) := by decide +kernel
theorem dLa_leastLength_20 : decode bLa_leastLength 20 = .ok (.iload_n 2, 1) := by decide +kernel
theorem dLa_leastLength_21 : decode bLa_leastLength 21 = .ok (.iconst 1, 1) := by decide +kernel
theorem dLa_leastLength_22 : decode bLa_leastLength 22 = .ok (.if_icmp .ge (12), 3) := by decide +kernel
theorem dLa_leastLength_25 : decode bLa_leastLength 25 = .ok (.aload_n 0, 1) := by decide +kernel
theorem dLa_leastLength_26 : decode bLa_leastLength 26 = .ok (.getfield 9, 3) := by decide +kernel
theorem dLa_leastLength_29 : decode bLa_leastLength 29 = .ok (.iload_n 2, 1) := by decide +kernel
theorem dLa_leastLength_30 : decode bLa_leastLength 30 = .ok (.iaload, 1) := by decide +kernel
theorem dLa_leastLength_31 : decode bLa_leastLength 31 = .ok (.goto (9), 3) := by decide +kernel
theorem dLa_leastLength_34 : decode bLa_leastLength 34 = .ok (.aload_n 0, 1) := by decide +kernel
theorem dLa_leastLength_35 : decode bLa_leastLength 35 = .ok (.iload_n 2, 1) := by decide +kernel
theorem dLa_leastLength_36 : decode bLa_leastLength 36 = .ok (.iload_n 1, 1) := by decide +kernel
theorem dLa_leastLength_37 : decode bLa_leastLength 37 = .ok (.invokevirtual 31, 3) := by decide +kernel
theorem dLa_leastLength_40 : decode bLa_leastLength 40 = .ok (.ireturn, 1) := by decide +kernel
theorem dLa_leastLength_41 : decode bLa_leastLength 41 = .ok (.iinc 2 (1), 3) := by decide +kernel
theorem dLa_leastLength_44 : decode bLa_leastLength 44 = .ok (.goto (-42), 3) := by decide +kernel
theorem dLa_leastLength_47 : decode bLa_leastLength 47 = .ok (.iconst (-1), 1) := by decide +kernel
theorem dLa_leastLength_48 : decode bLa_leastLength 48 = .ok (.ireturn, 1) := by decide +kernel
theorem dLa_leastLengthBefore_0 : decode bLa_leastLengthBefore 0 = .ok (.aload_n 0, 1) := by decide +kernel
theorem dLa_leastLengthBefore_1 : decode bLa_leastLengthBefore 1 = .ok (.getfield 15, 3) := by decide +kernel
theorem dLa_leastLengthBefore_4 : decode bLa_leastLengthBefore 4 = .ok (.iload_n 1, 1) := by decide +kernel
theorem dLa_leastLengthBefore_5 : decode bLa_leastLengthBefore 5 = .ok (.iaload, 1) := by decide +kernel
theorem dLa_leastLengthBefore_6 : decode bLa_leastLengthBefore 6 = .ok (.aload_n 0, 1) := by decide +kernel
theorem dLa_leastLengthBefore_7 : decode bLa_leastLengthBefore 7 = .ok (.getfield 15, 3) := by decide +kernel
theorem dLa_leastLengthBefore_10 : decode bLa_leastLengthBefore 10 = .ok (.iload_n 1, 1) := by decide +kernel
theorem dLa_leastLengthBefore_11 : decode bLa_leastLengthBefore 11 = .ok (.iconst 1, 1) := by decide +kernel
theorem dLa_leastLengthBefore_12 : decode bLa_leastLengthBefore 12 = .ok (.isub, 1) := by decide +kernel
theorem dLa_leastLengthBefore_13 : decode bLa_leastLengthBefore 13 = .ok (.iaload, 1) := by decide +kernel
theorem dLa_leastLengthBefore_14 : decode bLa_leastLengthBefore 14 = .ok (.isub, 1) := by decide +kernel
theorem dLa_leastLengthBefore_15 : decode bLa_leastLengthBefore 15 = .ok (.istore_n 3, 1) := by decide +kernel
theorem dLa_leastLengthBefore_16 : decode bLa_leastLengthBefore 16 = .ok (.aload_n 0, 1) := by decide +kernel
theorem dLa_leastLengthBefore_17 : decode bLa_leastLengthBefore 17 = .ok (.getfield 9, 3) := by decide +kernel
theorem dLa_leastLengthBefore_20 : decode bLa_leastLengthBefore 20 = .ok (.iload_n 1, 1) := by decide +kernel
theorem dLa_leastLengthBefore_21 : decode bLa_leastLengthBefore 21 = .ok (.iaload, 1) := by decide +kernel
theorem dLa_leastLengthBefore_22 : decode bLa_leastLengthBefore 22 = .ok (.aload_n 0, 1) := by decide +kernel
theorem dLa_leastLengthBefore_23 : decode bLa_leastLengthBefore 23 = .ok (.getfield 9, 3) := by decide +kernel
theorem dLa_leastLengthBefore_26 : decode bLa_leastLengthBefore 26 = .ok (.iload_n 1, 1) := by decide +kernel
theorem dLa_leastLengthBefore_27 : decode bLa_leastLengthBefore 27 = .ok (.iconst 1, 1) := by decide +kernel
theorem dLa_leastLengthBefore_28 : decode bLa_leastLengthBefore 28 = .ok (.isub, 1) := by decide +kernel
theorem dLa_leastLengthBefore_29 : decode bLa_leastLengthBefore 29 = .ok (.iaload, 1) := by decide +kernel
theorem dLa_leastLengthBefore_30 : decode bLa_leastLengthBefore 30 = .ok (.isub, 1) := by decide +kernel
theorem dLa_leastLengthBefore_31 : decode bLa_leastLengthBefore 31 = .ok (.istore 4, 2) := by decide +kernel
theorem dLa_leastLengthBefore_33 : decode bLa_leastLengthBefore 33 = .ok (.iload_n 2, 1) := by decide +kernel
theorem dLa_leastLengthBefore_34 : decode bLa_leastLengthBefore 34 = .ok (.aload_n 0, 1) := by decide +kernel
theorem dLa_leastLengthBefore_35 : decode bLa_leastLengthBefore 35 = .ok (.getfield 15, 3) := by decide +kernel
theorem dLa_leastLengthBefore_38 : decode bLa_leastLengthBefore 38 = .ok (.iload_n 1, 1) := by decide +kernel
theorem dLa_leastLengthBefore_39 : decode bLa_leastLengthBefore 39 = .ok (.iconst 1, 1) := by decide +kernel
theorem dLa_leastLengthBefore_40 : decode bLa_leastLengthBefore 40 = .ok (.isub, 1) := by decide +kernel
theorem dLa_leastLengthBefore_41 : decode bLa_leastLengthBefore 41 = .ok (.iaload, 1) := by decide +kernel
theorem dLa_leastLengthBefore_42 : decode bLa_leastLengthBefore 42 = .ok (.isub, 1) := by decide +kernel
theorem dLa_leastLengthBefore_43 : decode bLa_leastLengthBefore 43 = .ok (.iload 4, 2) := by decide +kernel
theorem dLa_leastLengthBefore_45 : decode bLa_leastLengthBefore 45 = .ok (.imul, 1) := by decide +kernel
theorem dLa_leastLengthBefore_46 : decode bLa_leastLengthBefore 46 = .ok (.istore 5, 2) := by decide +kernel
theorem dLa_leastLengthBefore_48 : decode bLa_leastLengthBefore 48 = .ok (.iload_n 3, 1) := by decide +kernel
theorem dLa_leastLengthBefore_49 : decode bLa_leastLengthBefore 49 = .ok (.iconst 1, 1) := by decide +kernel
theorem dLa_leastLengthBefore_50 : decode bLa_leastLengthBefore 50 = .ok (.if_icmp .ge (12), 3) := by decide +kernel
theorem dLa_leastLengthBefore_53 : decode bLa_leastLengthBefore 53 = .ok (.aload_n 0, 1) := by decide +kernel
theorem dLa_leastLengthBefore_54 : decode bLa_leastLengthBefore 54 = .ok (.getfield 9, 3) := by decide +kernel
theorem dLa_leastLengthBefore_57 : decode bLa_leastLengthBefore 57 = .ok (.iload_n 1, 1) := by decide +kernel
theorem dLa_leastLengthBefore_58 : decode bLa_leastLengthBefore 58 = .ok (.iaload, 1) := by decide +kernel
theorem dLa_leastLengthBefore_59 : decode bLa_leastLengthBefore 59 = .ok (.goto (20), 3) := by decide +kernel
theorem dLa_leastLengthBefore_62 : decode bLa_leastLengthBefore 62 = .ok (.aload_n 0, 1) := by decide +kernel
theorem dLa_leastLengthBefore_63 : decode bLa_leastLengthBefore 63 = .ok (.getfield 9, 3) := by decide +kernel
theorem dLa_leastLengthBefore_66 : decode bLa_leastLengthBefore 66 = .ok (.iload_n 1, 1) := by decide +kernel
theorem dLa_leastLengthBefore_67 : decode bLa_leastLengthBefore 67 = .ok (.iconst 1, 1) := by decide +kernel
theorem dLa_leastLengthBefore_68 : decode bLa_leastLengthBefore 68 = .ok (.isub, 1) := by decide +kernel
theorem dLa_leastLengthBefore_69 : decode bLa_leastLengthBefore 69 = .ok (.iaload, 1) := by decide +kernel
theorem dLa_leastLengthBefore_70 : decode bLa_leastLengthBefore 70 = .ok (.iload 5, 2) := by decide +kernel
theorem dLa_leastLengthBefore_72 : decode bLa_leastLengthBefore 72 = .ok (.iload_n 3, 1) := by decide +kernel
theorem dLa_leastLengthBefore_73 : decode bLa_leastLengthBefore 73 = .ok (.iadd, 1) := by decide +kernel
theorem dLa_leastLengthBefore_74 : decode bLa_leastLengthBefore 74 = .ok (.iconst 1, 1) := by decide +kernel
theorem dLa_leastLengthBefore_75 : decode bLa_leastLengthBefore 75 = .ok (.isub, 1) := by decide +kernel
theorem dLa_leastLengthBefore_76 : decode bLa_leastLengthBefore 76 = .ok (.iload_n 3, 1) := by decide +kernel
theorem dLa_leastLengthBefore_77 : decode bLa_leastLengthBefore 77 = .ok (.idiv, 1) := by decide +kernel
theorem dLa_leastLengthBefore_78 : decode bLa_leastLengthBefore 78 = .ok (.iadd, 1) := by decide +kernel
theorem dLa_leastLengthBefore_79 : decode bLa_leastLengthBefore 79 = .ok (.ireturn, 1) := by decide +kernel
theorem dMa_floorDiv_0 : decode bMa_floorDiv 0 = .ok (.iload_n 0, 1) := by decide +kernel
theorem dMa_floorDiv_1 : decode bMa_floorDiv 1 = .ok (.iload_n 1, 1) := by decide +kernel
theorem dMa_floorDiv_2 : decode bMa_floorDiv 2 = .ok (.idiv, 1) := by decide +kernel
theorem dMa_floorDiv_3 : decode bMa_floorDiv 3 = .ok (.istore_n 2, 1) := by decide +kernel
theorem dMa_floorDiv_4 : decode bMa_floorDiv 4 = .ok (.iload_n 0, 1) := by decide +kernel
theorem dMa_floorDiv_5 : decode bMa_floorDiv 5 = .ok (.iload_n 1, 1) := by decide +kernel
theorem dMa_floorDiv_6 : decode bMa_floorDiv 6 = .ok (.ixor, 1) := by decide +kernel
theorem dMa_floorDiv_7 : decode bMa_floorDiv 7 = .ok (.ifCond .ge (14), 3) := by decide +kernel
theorem dMa_floorDiv_10 : decode bMa_floorDiv 10 = .ok (.iload_n 2, 1) := by decide +kernel
theorem dMa_floorDiv_11 : decode bMa_floorDiv 11 = .ok (.iload_n 1, 1) := by decide +kernel
theorem dMa_floorDiv_12 : decode bMa_floorDiv 12 = .ok (.imul, 1) := by decide +kernel
theorem dMa_floorDiv_13 : decode bMa_floorDiv 13 = .ok (.iload_n 0, 1) := by decide +kernel
theorem dMa_floorDiv_14 : decode bMa_floorDiv 14 = .ok (.if_icmp .eq (7), 3) := by decide +kernel
theorem dMa_floorDiv_17 : decode bMa_floorDiv 17 = .ok (.iload_n 2, 1) := by decide +kernel
theorem dMa_floorDiv_18 : decode bMa_floorDiv 18 = .ok (.iconst 1, 1) := by decide +kernel
theorem dMa_floorDiv_19 : decode bMa_floorDiv 19 = .ok (.isub, 1) := by decide +kernel
theorem dMa_floorDiv_20 : decode bMa_floorDiv 20 = .ok (.ireturn, 1) := by decide +kernel
theorem dMa_floorDiv_21 : decode bMa_floorDiv 21 = .ok (.iload_n 2, 1) := by decide +kernel
theorem dMa_floorDiv_22 : decode bMa_floorDiv 22 = .ok (.ireturn, 1) := by decide +kernel
theorem dKT_init_0 : decode bKT_init 0 = .ok (.aload_n 0, 1) := by decide +kernel
theorem dKT_init_1 : decode bKT_init 1 = .ok (.invokespecial 1, 3) := by decide +kernel
theorem dKT_init_4 : decode bKT_init 4 = .ok (.aload_n 0, 1) := by decide +kernel
theorem dKT_init_5 : decode bKT_init 5 = .ok (.iconst 1, 1) := by decide +kernel
theorem dKT_init_6 : decode bKT_init 6 = .ok (.bipush (6), 2) := by decide +kernel
theorem dKT_init_8 : decode bKT_init 8 = .ok (.iload_n 1, 1) := by decide +kernel
theorem dKT_init_9 : decode bKT_init 9 = .ok (.invokestatic 9, 3) := by decide +kernel
theorem dKT_init_12 : decode bKT_init 12 = .ok (.invokestatic 15, 3) := by decide +kernel
theorem dKT_init_15 : decode bKT_init 15 = .ok (.putfield 18, 3) := by decide +kernel
theorem dKT_init_18 : decode bKT_init 18 = .ok (.aload_n 0, 1) := by decide +kernel
theorem dKT_init_19 : decode bKT_init 19 = .ok (.iconst 1, 1) := by decide +kernel
theorem dKT_init_20 : decode bKT_init 20 = .ok (.bipush (8), 2) := by decide +kernel
theorem dKT_init_22 : decode bKT_init 22 = .ok (.iload_n 2, 1) := by decide +kernel
theorem dKT_init_23 : decode bKT_init 23 = .ok (.invokestatic 9, 3) := by decide +kernel
theorem dKT_init_26 : decode bKT_init 26 = .ok (.invokestatic 15, 3) := by decide +kernel
theorem dKT_init_29 : decode bKT_init 29 = .ok (.iconst 3, 1) := by decide +kernel
theorem dKT_init_30 : decode bKT_init 30 = .ok (.iadd, 1) := by decide +kernel
theorem dKT_init_31 : decode bKT_init 31 = .ok (.putfield 22, 3) := by decide +kernel
theorem dKT_init_34 : decode bKT_init 34 = .ok (.aload_n 0, 1) := by decide +kernel
theorem dKT_init_35 : decode bKT_init 35 = .ok (.new 25, 3) := by decide +kernel
theorem dKT_init_38 : decode bKT_init 38 = .ok (.dup, 1) := by decide +kernel
theorem dKT_init_39 : decode bKT_init 39 = .ok (.aload_n 0, 1) := by decide +kernel
theorem dKT_init_40 : decode bKT_init 40 = .ok (.getfield 22, 3) := by decide +kernel
theorem dKT_init_43 : decode bKT_init 43 = .ok (.invokespecial 27, 3) := by decide +kernel
theorem dKT_init_46 : decode bKT_init 46 = .ok (.putfield 30, 3) := by decide +kernel
theorem dKT_init_49 : decode bKT_init 49 = .ok (.aload_n 0, 1) := by decide +kernel
theorem dKT_init_50 : decode bKT_init 50 = .ok (.new 34, 3) := by decide +kernel
theorem dKT_init_53 : decode bKT_init 53 = .ok (.dup, 1) := by decide +kernel
theorem dKT_init_54 : decode bKT_init 54 = .ok (.aload_n 0, 1) := by decide +kernel
theorem dKT_init_55 : decode bKT_init 55 = .ok (.getfield 30, 3) := by decide +kernel
theorem dKT_init_58 : decode bKT_init 58 = .ok (.aload_n 0, 1) := by decide +kernel
theorem dKT_init_59 : decode bKT_init 59 = .ok (.getfield 18, 3) := by decide +kernel
theorem dKT_init_62 : decode bKT_init 62 = .ok (.invokespecial 36, 3) := by decide +kernel
theorem dKT_init_65 : decode bKT_init 65 = .ok (.putfield 39, 3) := by decide +kernel
theorem dKT_init_68 : decode bKT_init 68 = .ok (.aload_n 0, 1) := by decide +kernel
theorem dKT_init_69 : decode bKT_init 69 = .ok (.new 43, 3) := by decide +kernel
theorem dKT_init_72 : decode bKT_init 72 = .ok (.dup, 1) := by decide +kernel
theorem dKT_init_73 : decode bKT_init 73 = .ok (.aload_n 0, 1) := by decide +kernel
theorem dKT_init_74 : decode bKT_init 74 = .ok (.getfield 18, 3) := by decide +kernel
theorem dKT_init_77 : decode bKT_init 77 = .ok (.invokespecial 45, 3) := by decide +kernel
theorem dKT_init_80 : decode bKT_init 80 = .ok (.putfield 46, 3) := by decide +kernel
theorem dKT_init_83 : decode bKT_init 83 = .ok (.aload_n 0, 1) := by decide +kernel
theorem dKT_init_84 : decode bKT_init 84 = .ok (.aload_n 0, 1) := by decide +kernel
theorem dKT_init_85 : decode bKT_init 85 = .ok (.getfield 18, 3) := by decide +kernel
theorem dKT_init_88 : decode bKT_init 88 = .ok (.anewarray 50, 3) := by decide +kernel
theorem dKT_init_91 : decode bKT_init 91 = .ok (.putfield 52, 3) := by decide +kernel
theorem dKT_init_94 : decode bKT_init 94 = .ok (.iconst 0, 1) := by decide +kernel
theorem dKT_init_95 : decode bKT_init 95 = .ok (.istore_n 3, 1) := by decide +kernel
theorem dKT_init_96 : decode bKT_init 96 = .ok (.iload_n 3, 1) := by decide +kernel
theorem dKT_init_97 : decode bKT_init 97 = .ok (.aload_n 0, 1) := by decide +kernel
theorem dKT_init_98 : decode bKT_init 98 = .ok (.getfield 18, 3) := by decide +kernel
theorem dKT_init_101 : decode bKT_init 101 = .ok (.if_icmp .ge (22), 3) := by decide +kernel
theorem dKT_init_104 : decode bKT_init 104 = .ok (.aload_n 0, 1) := by decide +kernel
theorem dKT_init_105 : decode bKT_init 105 = .ok (.getfield 52, 3) := by decide +kernel
theorem dKT_init_108 : decode bKT_init 108 = .ok (.iload_n 3, 1) := by decide +kernel
theorem dKT_init_109 : decode bKT_init 109 = .ok (.new 50, 3) := by decide +kernel
theorem dKT_init_112 : decode bKT_init 112 = .ok (.dup, 1) := by decide +kernel
theorem dKT_init_113 : decode bKT_init 113 = .ok (.invokespecial 56, 3) := by decide +kernel
theorem dKT_init_116 : decode bKT_init 116 = .ok (.aastore, 1) := by decide +kernel
theorem dKT_init_117 : decode bKT_init 117 = .ok (.iinc 3 (1), 3) := by decide +kernel
theorem dKT_init_120 : decode bKT_init 120 = .ok (.goto (-24), 3) := by decide +kernel
theorem dKT_init_123 : decode bKT_init 123 = .ok (.return_, 1) := by decide +kernel
theorem dKT_example_0 : decode bKT_example 0 = .ok (.aload_n 0, 1) := by decide +kernel
theorem dKT_example_1 : decode bKT_example 1 = .ok (.iload_n 1, 1) := by decide +kernel
theorem dKT_example_2 : decode bKT_example 2 = .ok (.invokevirtual 57, 3) := by decide +kernel
theorem dKT_example_5 : decode bKT_example 5 = .ok (.aload_n 0, 1) := by decide +kernel
theorem dKT_example_6 : decode bKT_example 6 = .ok (.getfield 30, 3) := by decide +kernel
theorem dKT_example_9 : decode bKT_example 9 = .ok (.getfield 60, 3) := by decide +kernel
theorem dKT_example_12 : decode bKT_example 12 = .ok (.bipush (24), 2) := by decide +kernel
theorem dKT_example_14 : decode bKT_example 14 = .ok (.if_icmp .lt (13), 3) := by decide +kernel
theorem dKT_example_17 : decode bKT_example 17 = .ok (.new 63, 3) := by decide +kernel
theorem dKT_example_20 : decode bKT_example 20 = .ok (.dup, 1) := by decide +kernel
theorem dKT_example_21 : decode bKT_example 21 = .ok (.ldc 65, 2) := by decide +kernel
theorem dKT_example_23 : decode bKT_example 23 = .ok (.invokespecial 67, 3) := by decide +kernel
theorem dKT_example_26 : decode bKT_example 26 = .ok (.athrow, 1) := by decide +kernel
theorem dKT_example_27 : decode bKT_example 27 = .ok (.aload_n 0, 1) := by decide +kernel
theorem dKT_example_28 : decode bKT_example 28 = .ok (.getfield 30, 3) := by decide +kernel
theorem dKT_example_31 : decode bKT_example 31 = .ok (.iload_n 1, 1) := by decide +kernel
theorem dKT_example_32 : decode bKT_example 32 = .ok (.invokevirtual 70, 3) := by decide +kernel
theorem dKT_example_35 : decode bKT_example 35 = .ok (.ireturn, 1) := by decide +kernel
theorem dKT_value_0 : decode bKT_value 0 = .ok (.aload_n 0, 1) := by decide +kernel
theorem dKT_value_1 : decode bKT_value 1 = .ok (.iload_n 1, 1) := by decide +kernel
theorem dKT_value_2 : decode bKT_value 2 = .ok (.invokevirtual 74, 3) := by decide +kernel
theorem dKT_value_5 : decode bKT_value 5 = .ok (.aload_n 0, 1) := by decide +kernel
theorem dKT_value_6 : decode bKT_value 6 = .ok (.iload_n 2, 1) := by decide +kernel
theorem dKT_value_7 : decode bKT_value 7 = .ok (.invokevirtual 77, 3) := by decide +kernel
theorem dKT_value_10 : decode bKT_value 10 = .ok (.iload_n 3, 1) := by decide +kernel
theorem dKT_value_11 : decode bKT_value 11 = .ok (.iconst 0, 1) := by decide +kernel
theorem dKT_value_12 : decode bKT_value 12 = .ok (.sipush (2000), 3) := by decide +kernel
theorem dKT_value_15 : decode bKT_value 15 = .ok (.invokestatic 80, 3) := by decide +kernel
theorem dKT_value_18 : decode bKT_value 18 = .ok (.aload_n 0, 1) := by decide +kernel
theorem dKT_value_19 : decode bKT_value 19 = .ok (.getfield 30, 3) := by decide +kernel
theorem dKT_value_22 : decode bKT_value 22 = .ok (.getfield 84, 3) := by decide +kernel
theorem dKT_value_25 : decode bKT_value 25 = .ok (.iload_n 1, 1) := by decide +kernel
theorem dKT_value_26 : decode bKT_value 26 = .ok (.aaload, 1) := by decide +kernel
theorem dKT_value_27 : decode bKT_value 27 = .ok (.iload_n 2, 1) := by decide +kernel
theorem dKT_value_28 : decode bKT_value 28 = .ok (.iaload, 1) := by decide +kernel
theorem dKT_value_29 : decode bKT_value 29 = .ok (.istore 4, 2) := by decide +kernel
theorem dKT_value_31 : decode bKT_value 31 = .ok (.aload_n 0, 1) := by decide +kernel
theorem dKT_value_32 : decode bKT_value 32 = .ok (.getfield 30, 3) := by decide +kernel
theorem dKT_value_35 : decode bKT_value 35 = .ok (.getfield 84, 3) := by decide +kernel
theorem dKT_value_38 : decode bKT_value 38 = .ok (.iload_n 1, 1) := by decide +kernel
theorem dKT_value_39 : decode bKT_value 39 = .ok (.aaload, 1) := by decide +kernel
theorem dKT_value_40 : decode bKT_value 40 = .ok (.iload_n 2, 1) := by decide +kernel
theorem dKT_value_41 : decode bKT_value 41 = .ok (.iload_n 3, 1) := by decide +kernel
theorem dKT_value_42 : decode bKT_value 42 = .ok (.iastore, 1) := by decide +kernel
theorem dKT_value_43 : decode bKT_value 43 = .ok (.iload 4, 2) := by decide +kernel
theorem dKT_value_45 : decode bKT_value 45 = .ok (.iload_n 3, 1) := by decide +kernel
theorem dKT_value_46 : decode bKT_value 46 = .ok (.if_icmp .eq (7), 3) := by decide +kernel
theorem dKT_value_49 : decode bKT_value 49 = .ok (.iconst 1, 1) := by decide +kernel
theorem dKT_value_50 : decode bKT_value 50 = .ok (.goto (4), 3) := by decide +kernel
theorem dKT_value_53 : decode bKT_value 53 = .ok (.iconst 0, 1) := by decide +kernel
theorem dKT_value_54 : decode bKT_value 54 = .ok (.ireturn, 1) := by decide +kernel
theorem dKT_teach_0 : decode bKT_teach 0 = .ok (.aload_n 0, 1) := by decide +kernel
theorem dKT_teach_1 : decode bKT_teach 1 = .ok (.iload_n 1, 1) := by decide +kernel
theorem dKT_teach_2 : decode bKT_teach 2 = .ok (.invokevirtual 74, 3) := by decide +kernel
theorem dKT_teach_5 : decode bKT_teach 5 = .ok (.aload_n 0, 1) := by decide +kernel
theorem dKT_teach_6 : decode bKT_teach 6 = .ok (.iload_n 2, 1) := by decide +kernel
theorem dKT_teach_7 : decode bKT_teach 7 = .ok (.invokevirtual 57, 3) := by decide +kernel
theorem dKT_teach_10 : decode bKT_teach 10 = .ok (.aload_n 0, 1) := by decide +kernel
theorem dKT_teach_11 : decode bKT_teach 11 = .ok (.getfield 30, 3) := by decide +kernel
theorem dKT_teach_14 : decode bKT_teach 14 = .ok (.getfield 88, 3) := by decide +kernel
theorem dKT_teach_17 : decode bKT_teach 17 = .ok (.iload_n 1, 1) := by decide +kernel
theorem dKT_teach_18 : decode bKT_teach 18 = .ok (.iaload, 1) := by decide +kernel
theorem dKT_teach_19 : decode bKT_teach 19 = .ok (.istore_n 3, 1) := by decide +kernel
theorem dKT_teach_20 : decode bKT_teach 20 = .ok (.aload_n 0, 1) := by decide +kernel
theorem dKT_teach_21 : decode bKT_teach 21 = .ok (.getfield 30, 3) := by decide +kernel
theorem dKT_teach_24 : decode bKT_teach 24 = .ok (.getfield 88, 3) := by decide +kernel
theorem dKT_teach_27 : decode bKT_teach 27 = .ok (.iload_n 1, 1) := by decide +kernel
theorem dKT_teach_28 : decode bKT_teach 28 = .ok (.iload_n 2, 1) := by decide +kernel
theorem dKT_teach_29 : decode bKT_teach 29 = .ok (.iastore, 1) := by decide +kernel
theorem dKT_teach_30 : decode bKT_teach 30 = .ok (.iload_n 3, 1) := by decide +kernel
theorem dKT_teach_31 : decode bKT_teach 31 = .ok (.ireturn, 1) := by decide +kernel
theorem dKT_width_0 : decode bKT_width 0 = .ok (.aload_n 0, 1) := by decide +kernel
theorem dKT_width_1 : decode bKT_width 1 = .ok (.iload_n 1, 1) := by decide +kernel
theorem dKT_width_2 : decode bKT_width 2 = .ok (.invokevirtual 77, 3) := by decide +kernel
theorem dKT_width_5 : decode bKT_width 5 = .ok (.iload_n 2, 1) := by decide +kernel
theorem dKT_width_6 : decode bKT_width 6 = .ok (.iconst 1, 1) := by decide +kernel
theorem dKT_width_7 : decode bKT_width 7 = .ok (.sipush (1000), 3) := by decide +kernel
theorem dKT_width_10 : decode bKT_width 10 = .ok (.invokestatic 80, 3) := by decide +kernel
theorem dKT_width_13 : decode bKT_width 13 = .ok (.aload_n 0, 1) := by decide +kernel
theorem dKT_width_14 : decode bKT_width 14 = .ok (.getfield 30, 3) := by decide +kernel
theorem dKT_width_17 : decode bKT_width 17 = .ok (.getfield 92, 3) := by decide +kernel
theorem dKT_width_20 : decode bKT_width 20 = .ok (.iload_n 1, 1) := by decide +kernel
theorem dKT_width_21 : decode bKT_width 21 = .ok (.iaload, 1) := by decide +kernel
theorem dKT_width_22 : decode bKT_width 22 = .ok (.istore_n 3, 1) := by decide +kernel
theorem dKT_width_23 : decode bKT_width 23 = .ok (.aload_n 0, 1) := by decide +kernel
theorem dKT_width_24 : decode bKT_width 24 = .ok (.getfield 30, 3) := by decide +kernel
theorem dKT_width_27 : decode bKT_width 27 = .ok (.getfield 92, 3) := by decide +kernel
theorem dKT_width_30 : decode bKT_width 30 = .ok (.iload_n 1, 1) := by decide +kernel
theorem dKT_width_31 : decode bKT_width 31 = .ok (.iload_n 2, 1) := by decide +kernel
theorem dKT_width_32 : decode bKT_width 32 = .ok (.iastore, 1) := by decide +kernel
theorem dKT_width_33 : decode bKT_width 33 = .ok (.iload_n 3, 1) := by decide +kernel
theorem dKT_width_34 : decode bKT_width 34 = .ok (.ireturn, 1) := by decide +kernel
theorem dKT_cell_0 : decode bKT_cell 0 = .ok (.aload_n 0, 1) := by decide +kernel
theorem dKT_cell_1 : decode bKT_cell 1 = .ok (.iload_n 1, 1) := by decide +kernel
theorem dKT_cell_2 : decode bKT_cell 2 = .ok (.invokevirtual 74, 3) := by decide +kernel
theorem dKT_cell_5 : decode bKT_cell 5 = .ok (.aload_n 0, 1) := by decide +kernel
theorem dKT_cell_6 : decode bKT_cell 6 = .ok (.iload_n 2, 1) := by decide +kernel
theorem dKT_cell_7 : decode bKT_cell 7 = .ok (.invokevirtual 77, 3) := by decide +kernel
theorem dKT_cell_10 : decode bKT_cell 10 = .ok (.aload_n 0, 1) := by decide +kernel
theorem dKT_cell_11 : decode bKT_cell 11 = .ok (.getfield 30, 3) := by decide +kernel
theorem dKT_cell_14 : decode bKT_cell 14 = .ok (.iload_n 1, 1) := by decide +kernel
theorem dKT_cell_15 : decode bKT_cell 15 = .ok (.iload_n 2, 1) := by decide +kernel
theorem dKT_cell_16 : decode bKT_cell 16 = .ok (.invokevirtual 95, 3) := by decide +kernel
theorem dKT_cell_19 : decode bKT_cell 19 = .ok (.ireturn, 1) := by decide +kernel
theorem dKT_votes_0 : decode bKT_votes 0 = .ok (.aload_n 0, 1) := by decide +kernel
theorem dKT_votes_1 : decode bKT_votes 1 = .ok (.iload_n 1, 1) := by decide +kernel
theorem dKT_votes_2 : decode bKT_votes 2 = .ok (.invokevirtual 74, 3) := by decide +kernel
theorem dKT_votes_5 : decode bKT_votes 5 = .ok (.aload_n 0, 1) := by decide +kernel
theorem dKT_votes_6 : decode bKT_votes 6 = .ok (.iload_n 2, 1) := by decide +kernel
theorem dKT_votes_7 : decode bKT_votes 7 = .ok (.invokevirtual 98, 3) := by decide +kernel
theorem dKT_votes_10 : decode bKT_votes 10 = .ok (.aload_n 0, 1) := by decide +kernel
theorem dKT_votes_11 : decode bKT_votes 11 = .ok (.getfield 39, 3) := by decide +kernel
theorem dKT_votes_14 : decode bKT_votes 14 = .ok (.iload_n 1, 1) := by decide +kernel
theorem dKT_votes_15 : decode bKT_votes 15 = .ok (.iload_n 2, 1) := by decide +kernel
theorem dKT_votes_16 : decode bKT_votes 16 = .ok (.invokevirtual 101, 3) := by decide +kernel
theorem dKT_votes_19 : decode bKT_votes 19 = .ok (.ireturn, 1) := by decide +kernel
theorem dKT_tell_0 : decode bKT_tell 0 = .ok (.aload_n 0, 1) := by decide +kernel
theorem dKT_tell_1 : decode bKT_tell 1 = .ok (.iload_n 1, 1) := by decide +kernel
theorem dKT_tell_2 : decode bKT_tell 2 = .ok (.invokevirtual 74, 3) := by decide +kernel
theorem dKT_tell_5 : decode bKT_tell 5 = .ok (.aload_n 0, 1) := by decide +kernel
theorem dKT_tell_6 : decode bKT_tell 6 = .ok (.getfield 39, 3) := by decide +kernel
theorem dKT_tell_9 : decode bKT_tell 9 = .ok (.iload_n 1, 1) := by decide +kernel
theorem dKT_tell_10 : decode bKT_tell 10 = .ok (.invokevirtual 104, 3) := by decide +kernel
theorem dKT_tell_13 : decode bKT_tell 13 = .ok (.ireturn, 1) := by decide +kernel
theorem dKT_bound_0 : decode bKT_bound 0 = .ok (.iload_n 1, 1) := by decide +kernel
theorem dKT_bound_1 : decode bKT_bound 1 = .ok (.iconst 0, 1) := by decide +kernel
theorem dKT_bound_2 : decode bKT_bound 2 = .ok (.sipush (1000), 3) := by decide +kernel
theorem dKT_bound_5 : decode bKT_bound 5 = .ok (.invokestatic 80, 3) := by decide +kernel
theorem dKT_bound_8 : decode bKT_bound 8 = .ok (.aload_n 0, 1) := by decide +kernel
theorem dKT_bound_9 : decode bKT_bound 9 = .ok (.getfield 39, 3) := by decide +kernel
theorem dKT_bound_12 : decode bKT_bound 12 = .ok (.getfield 107, 3) := by decide +kernel
theorem dKT_bound_15 : decode bKT_bound 15 = .ok (.istore_n 2, 1) := by decide +kernel
theorem dKT_bound_16 : decode bKT_bound 16 = .ok (.aload_n 0, 1) := by decide +kernel
theorem dKT_bound_17 : decode bKT_bound 17 = .ok (.getfield 39, 3) := by decide +kernel
theorem dKT_bound_20 : decode bKT_bound 20 = .ok (.iload_n 1, 1) := by decide +kernel
theorem dKT_bound_21 : decode bKT_bound 21 = .ok (.putfield 107, 3) := by decide +kernel
theorem dKT_bound_24 : decode bKT_bound 24 = .ok (.iload_n 2, 1) := by decide +kernel
theorem dKT_bound_25 : decode bKT_bound 25 = .ok (.ireturn, 1) := by decide +kernel
theorem dKT_prefer_0 : decode bKT_prefer 0 = .ok (.aload_n 0, 1) := by decide +kernel
theorem dKT_prefer_1 : decode bKT_prefer 1 = .ok (.iload_n 1, 1) := by decide +kernel
theorem dKT_prefer_2 : decode bKT_prefer 2 = .ok (.invokevirtual 98, 3) := by decide +kernel
theorem dKT_prefer_5 : decode bKT_prefer 5 = .ok (.aload_n 0, 1) := by decide +kernel
theorem dKT_prefer_6 : decode bKT_prefer 6 = .ok (.getfield 39, 3) := by decide +kernel
theorem dKT_prefer_9 : decode bKT_prefer 9 = .ok (.iload_n 1, 1) := by decide +kernel
theorem dKT_prefer_10 : decode bKT_prefer 10 = .ok (.invokevirtual 110, 3) := by decide +kernel
theorem dKT_prefer_13 : decode bKT_prefer 13 = .ok (.ireturn, 1) := by decide +kernel
theorem dKT_wrong_0 : decode bKT_wrong 0 = .ok (.aload_n 0, 1) := by decide +kernel
theorem dKT_wrong_1 : decode bKT_wrong 1 = .ok (.iload_n 1, 1) := by decide +kernel
theorem dKT_wrong_2 : decode bKT_wrong 2 = .ok (.invokevirtual 98, 3) := by decide +kernel
theorem dKT_wrong_5 : decode bKT_wrong 5 = .ok (.aload_n 0, 1) := by decide +kernel
theorem dKT_wrong_6 : decode bKT_wrong 6 = .ok (.iload_n 2, 1) := by decide +kernel
theorem dKT_wrong_7 : decode bKT_wrong 7 = .ok (.invokevirtual 57, 3) := by decide +kernel
theorem dKT_wrong_10 : decode bKT_wrong 10 = .ok (.iload_n 3, 1) := by decide +kernel
theorem dKT_wrong_11 : decode bKT_wrong 11 = .ok (.invokestatic 113, 3) := by decide +kernel
theorem dKT_wrong_14 : decode bKT_wrong 14 = .ok (.aload_n 0, 1) := by decide +kernel
theorem dKT_wrong_15 : decode bKT_wrong 15 = .ok (.getfield 39, 3) := by decide +kernel
theorem dKT_wrong_18 : decode bKT_wrong 18 = .ok (.iload_n 1, 1) := by decide +kernel
theorem dKT_wrong_19 : decode bKT_wrong 19 = .ok (.iload_n 2, 1) := by decide +kernel
theorem dKT_wrong_20 : decode bKT_wrong 20 = .ok (.invokevirtual 116, 3) := by decide +kernel
theorem dKT_wrong_23 : decode bKT_wrong 23 = .ok (.i2l, 1) := by decide +kernel
theorem dKT_wrong_24 : decode bKT_wrong 24 = .ok (.aload_n 0, 1) := by decide +kernel
theorem dKT_wrong_25 : decode bKT_wrong 25 = .ok (.getfield 30, 3) := by decide +kernel
theorem dKT_wrong_28 : decode bKT_wrong 28 = .ok (.iload_n 1, 1) := by decide +kernel
theorem dKT_wrong_29 : decode bKT_wrong 29 = .ok (.invokevirtual 119, 3) := by decide +kernel
theorem dKT_wrong_32 : decode bKT_wrong 32 = .ok (.i2l, 1) := by decide +kernel
theorem dKT_wrong_33 : decode bKT_wrong 33 = .ok (.iload_n 3, 1) := by decide +kernel
theorem dKT_wrong_34 : decode bKT_wrong 34 = .ok (.invokestatic 122, 3) := by decide +kernel
theorem dKT_wrong_37 : decode bKT_wrong 37 = .ok (.l2i, 1) := by decide +kernel
theorem dKT_wrong_38 : decode bKT_wrong 38 = .ok (.ireturn, 1) := by decide +kernel
theorem dKT_right_0 : decode bKT_right 0 = .ok (.aload_n 0, 1) := by decide +kernel
theorem dKT_right_1 : decode bKT_right 1 = .ok (.iload_n 1, 1) := by decide +kernel
theorem dKT_right_2 : decode bKT_right 2 = .ok (.invokevirtual 77, 3) := by decide +kernel
theorem dKT_right_5 : decode bKT_right 5 = .ok (.aload_n 0, 1) := by decide +kernel
theorem dKT_right_6 : decode bKT_right 6 = .ok (.getfield 39, 3) := by decide +kernel
theorem dKT_right_9 : decode bKT_right 9 = .ok (.iload_n 1, 1) := by decide +kernel
theorem dKT_right_10 : decode bKT_right 10 = .ok (.invokevirtual 126, 3) := by decide +kernel
theorem dKT_right_13 : decode bKT_right 13 = .ok (.ireturn, 1) := by decide +kernel
theorem dKT_best_0 : decode bKT_best 0 = .ok (.aload_n 0, 1) := by decide +kernel
theorem dKT_best_1 : decode bKT_best 1 = .ok (.iload_n 1, 1) := by decide +kernel
theorem dKT_best_2 : decode bKT_best 2 = .ok (.invokevirtual 77, 3) := by decide +kernel
theorem dKT_best_5 : decode bKT_best 5 = .ok (.aload_n 0, 1) := by decide +kernel
theorem dKT_best_6 : decode bKT_best 6 = .ok (.getfield 39, 3) := by decide +kernel
