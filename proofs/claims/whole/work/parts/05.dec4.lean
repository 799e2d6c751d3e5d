theorem dKT_best_9 : decode bKT_best 9 = .ok (.iload_n 1, 1) := by decide +kernel
theorem dKT_best_10 : decode bKT_best 10 = .ok (.invokevirtual 129, 3) := by decide +kernel
theorem dKT_best_13 : decode bKT_best 13 = .ok (.ireturn, 1) := by decide +kernel
theorem dKT_unknown_0 : decode bKT_unknown 0 = .ok (.aload_n 0, 1) := by decide +kernel
theorem dKT_unknown_1 : decode bKT_unknown 1 = .ok (.getfield 39, 3) := by decide +kernel
theorem dKT_unknown_4 : decode bKT_unknown 4 = .ok (.invokevirtual 132, 3) := by decide +kernel
theorem dKT_unknown_7 : decode bKT_unknown 7 = .ok (.ireturn, 1) := by decide +kernel
theorem dKT_mixed_0 : decode bKT_mixed 0 = .ok (.aload_n 0, 1) := by decide +kernel
theorem dKT_mixed_1 : decode bKT_mixed 1 = .ok (.iload_n 1, 1) := by decide +kernel
theorem dKT_mixed_2 : decode bKT_mixed 2 = .ok (.invokevirtual 98, 3) := by decide +kernel
theorem dKT_mixed_5 : decode bKT_mixed 5 = .ok (.iload_n 2, 1) := by decide +kernel
theorem dKT_mixed_6 : decode bKT_mixed 6 = .ok (.invokestatic 113, 3) := by decide +kernel
theorem dKT_mixed_9 : decode bKT_mixed 9 = .ok (.aload_n 0, 1) := by decide +kernel
theorem dKT_mixed_10 : decode bKT_mixed 10 = .ok (.getfield 30, 3) := by decide +kernel
theorem dKT_mixed_13 : decode bKT_mixed 13 = .ok (.iconst (-1), 1) := by decide +kernel
theorem dKT_mixed_14 : decode bKT_mixed 14 = .ok (.invokevirtual 119, 3) := by decide +kernel
theorem dKT_mixed_17 : decode bKT_mixed 17 = .ok (.aload_n 0, 1) := by decide +kernel
theorem dKT_mixed_18 : decode bKT_mixed 18 = .ok (.getfield 39, 3) := by decide +kernel
theorem dKT_mixed_21 : decode bKT_mixed 21 = .ok (.iconst (-1), 1) := by decide +kernel
theorem dKT_mixed_22 : decode bKT_mixed 22 = .ok (.iconst (-1), 1) := by decide +kernel
theorem dKT_mixed_23 : decode bKT_mixed 23 = .ok (.invokevirtual 116, 3) := by decide +kernel
theorem dKT_mixed_26 : decode bKT_mixed 26 = .ok (.isub, 1) := by decide +kernel
theorem dKT_mixed_27 : decode bKT_mixed 27 = .ok (.istore_n 3, 1) := by decide +kernel
theorem dKT_mixed_28 : decode bKT_mixed 28 = .ok (.aload_n 0, 1) := by decide +kernel
theorem dKT_mixed_29 : decode bKT_mixed 29 = .ok (.getfield 39, 3) := by decide +kernel
theorem dKT_mixed_32 : decode bKT_mixed 32 = .ok (.iconst (-1), 1) := by decide +kernel
theorem dKT_mixed_33 : decode bKT_mixed 33 = .ok (.iload_n 1, 1) := by decide +kernel
theorem dKT_mixed_34 : decode bKT_mixed 34 = .ok (.invokevirtual 116, 3) := by decide +kernel
theorem dKT_mixed_37 : decode bKT_mixed 37 = .ok (.i2l, 1) := by decide +kernel
theorem dKT_mixed_38 : decode bKT_mixed 38 = .ok (.iload_n 3, 1) := by decide +kernel
theorem dKT_mixed_39 : decode bKT_mixed 39 = .ok (.i2l, 1) := by decide +kernel
theorem dKT_mixed_40 : decode bKT_mixed 40 = .ok (.iload_n 2, 1) := by decide +kernel
theorem dKT_mixed_41 : decode bKT_mixed 41 = .ok (.invokestatic 122, 3) := by decide +kernel
theorem dKT_mixed_44 : decode bKT_mixed 44 = .ok (.l2i, 1) := by decide +kernel
theorem dKT_mixed_45 : decode bKT_mixed 45 = .ok (.ireturn, 1) := by decide +kernel
theorem dKT_groups_0 : decode bKT_groups 0 = .ok (.iload_n 1, 1) := by decide +kernel
theorem dKT_groups_1 : decode bKT_groups 1 = .ok (.iconst 0, 1) := by decide +kernel
theorem dKT_groups_2 : decode bKT_groups 2 = .ok (.aload_n 0, 1) := by decide +kernel
theorem dKT_groups_3 : decode bKT_groups 3 = .ok (.getfield 22, 3) := by decide +kernel
theorem dKT_groups_6 : decode bKT_groups 6 = .ok (.invokestatic 80, 3) := by decide +kernel
theorem dKT_groups_9 : decode bKT_groups 9 = .ok (.aload_n 0, 1) := by decide +kernel
theorem dKT_groups_10 : decode bKT_groups 10 = .ok (.getfield 30, 3) := by decide +kernel
theorem dKT_groups_13 : decode bKT_groups 13 = .ok (.iload_n 1, 1) := by decide +kernel
theorem dKT_groups_14 : decode bKT_groups 14 = .ok (.invokevirtual 136, 3) := by decide +kernel
theorem dKT_groups_17 : decode bKT_groups 17 = .ok (.ireturn, 1) := by decide +kernel
theorem dKT_nearest_0 : decode bKT_nearest 0 = .ok (.aload_n 0, 1) := by decide +kernel
theorem dKT_nearest_1 : decode bKT_nearest 1 = .ok (.iload_n 1, 1) := by decide +kernel
theorem dKT_nearest_2 : decode bKT_nearest 2 = .ok (.invokevirtual 74, 3) := by decide +kernel
theorem dKT_nearest_5 : decode bKT_nearest 5 = .ok (.iload_n 2, 1) := by decide +kernel
theorem dKT_nearest_6 : decode bKT_nearest 6 = .ok (.ifCond .ge (13), 3) := by decide +kernel
theorem dKT_nearest_9 : decode bKT_nearest 9 = .ok (.new 139, 3) := by decide +kernel
theorem dKT_nearest_12 : decode bKT_nearest 12 = .ok (.dup, 1) := by decide +kernel
theorem dKT_nearest_13 : decode bKT_nearest 13 = .ok (.ldc 141, 2) := by decide +kernel
theorem dKT_nearest_15 : decode bKT_nearest 15 = .ok (.invokespecial 143, 3) := by decide +kernel
theorem dKT_nearest_18 : decode bKT_nearest 18 = .ok (.athrow, 1) := by decide +kernel
theorem dKT_nearest_19 : decode bKT_nearest 19 = .ok (.aload_n 0, 1) := by decide +kernel
theorem dKT_nearest_20 : decode bKT_nearest 20 = .ok (.getfield 30, 3) := by decide +kernel
theorem dKT_nearest_23 : decode bKT_nearest 23 = .ok (.iload_n 1, 1) := by decide +kernel
theorem dKT_nearest_24 : decode bKT_nearest 24 = .ok (.iload_n 2, 1) := by decide +kernel
theorem dKT_nearest_25 : decode bKT_nearest 25 = .ok (.invokevirtual 144, 3) := by decide +kernel
theorem dKT_nearest_28 : decode bKT_nearest 28 = .ok (.ireturn, 1) := by decide +kernel
theorem dKT_distance_0 : decode bKT_distance 0 = .ok (.aload_n 0, 1) := by decide +kernel
theorem dKT_distance_1 : decode bKT_distance 1 = .ok (.iload_n 1, 1) := by decide +kernel
theorem dKT_distance_2 : decode bKT_distance 2 = .ok (.invokevirtual 74, 3) := by decide +kernel
theorem dKT_distance_5 : decode bKT_distance 5 = .ok (.aload_n 0, 1) := by decide +kernel
theorem dKT_distance_6 : decode bKT_distance 6 = .ok (.iload_n 2, 1) := by decide +kernel
theorem dKT_distance_7 : decode bKT_distance 7 = .ok (.invokevirtual 74, 3) := by decide +kernel
theorem dKT_distance_10 : decode bKT_distance 10 = .ok (.aload_n 0, 1) := by decide +kernel
theorem dKT_distance_11 : decode bKT_distance 11 = .ok (.getfield 30, 3) := by decide +kernel
theorem dKT_distance_14 : decode bKT_distance 14 = .ok (.iload_n 1, 1) := by decide +kernel
theorem dKT_distance_15 : decode bKT_distance 15 = .ok (.iload_n 2, 1) := by decide +kernel
theorem dKT_distance_16 : decode bKT_distance 16 = .ok (.invokevirtual 147, 3) := by decide +kernel
theorem dKT_distance_19 : decode bKT_distance 19 = .ok (.ireturn, 1) := by decide +kernel
theorem dKT_haul_0 : decode bKT_haul 0 = .ok (.iload_n 1, 1) := by decide +kernel
theorem dKT_haul_1 : decode bKT_haul 1 = .ok (.iload_n 2, 1) := by decide +kernel
theorem dKT_haul_2 : decode bKT_haul 2 = .ok (.invokestatic 150, 3) := by decide +kernel
theorem dKT_haul_5 : decode bKT_haul 5 = .ok (.aload_n 0, 1) := by decide +kernel
theorem dKT_haul_6 : decode bKT_haul 6 = .ok (.getfield 46, 3) := by decide +kernel
theorem dKT_haul_9 : decode bKT_haul 9 = .ok (.getfield 154, 3) := by decide +kernel
theorem dKT_haul_12 : decode bKT_haul 12 = .ok (.bipush (12), 2) := by decide +kernel
theorem dKT_haul_14 : decode bKT_haul 14 = .ok (.if_icmp .lt (13), 3) := by decide +kernel
theorem dKT_haul_17 : decode bKT_haul 17 = .ok (.new 63, 3) := by decide +kernel
theorem dKT_haul_20 : decode bKT_haul 20 = .ok (.dup, 1) := by decide +kernel
theorem dKT_haul_21 : decode bKT_haul 21 = .ok (.ldc 155, 2) := by decide +kernel
theorem dKT_haul_23 : decode bKT_haul 23 = .ok (.invokespecial 67, 3) := by decide +kernel
theorem dKT_haul_26 : decode bKT_haul 26 = .ok (.athrow, 1) := by decide +kernel
theorem dKT_haul_27 : decode bKT_haul 27 = .ok (.aload_n 0, 1) := by decide +kernel
theorem dKT_haul_28 : decode bKT_haul 28 = .ok (.getfield 46, 3) := by decide +kernel
theorem dKT_haul_31 : decode bKT_haul 31 = .ok (.iload_n 1, 1) := by decide +kernel
theorem dKT_haul_32 : decode bKT_haul 32 = .ok (.iload_n 2, 1) := by decide +kernel
theorem dKT_haul_33 : decode bKT_haul 33 = .ok (.invokevirtual 157, 3) := by decide +kernel
theorem dKT_haul_36 : decode bKT_haul 36 = .ok (.ireturn, 1) := by decide +kernel
theorem dKT_grams_0 : decode bKT_grams 0 = .ok (.aload_n 0, 1) := by decide +kernel
theorem dKT_grams_1 : decode bKT_grams 1 = .ok (.iload_n 1, 1) := by decide +kernel
theorem dKT_grams_2 : decode bKT_grams 2 = .ok (.invokevirtual 159, 3) := by decide +kernel
theorem dKT_grams_5 : decode bKT_grams 5 = .ok (.aload_n 0, 1) := by decide +kernel
theorem dKT_grams_6 : decode bKT_grams 6 = .ok (.iload_n 2, 1) := by decide +kernel
theorem dKT_grams_7 : decode bKT_grams 7 = .ok (.invokevirtual 98, 3) := by decide +kernel
theorem dKT_grams_10 : decode bKT_grams 10 = .ok (.iload_n 3, 1) := by decide +kernel
theorem dKT_grams_11 : decode bKT_grams 11 = .ok (.iconst 0, 1) := by decide +kernel
theorem dKT_grams_12 : decode bKT_grams 12 = .ok (.sipush (1000), 3) := by decide +kernel
theorem dKT_grams_15 : decode bKT_grams 15 = .ok (.invokestatic 80, 3) := by decide +kernel
theorem dKT_grams_18 : decode bKT_grams 18 = .ok (.aload_n 0, 1) := by decide +kernel
theorem dKT_grams_19 : decode bKT_grams 19 = .ok (.getfield 46, 3) := by decide +kernel
theorem dKT_grams_22 : decode bKT_grams 22 = .ok (.getfield 162, 3) := by decide +kernel
theorem dKT_grams_25 : decode bKT_grams 25 = .ok (.iload_n 1, 1) := by decide +kernel
theorem dKT_grams_26 : decode bKT_grams 26 = .ok (.aaload, 1) := by decide +kernel
theorem dKT_grams_27 : decode bKT_grams 27 = .ok (.iload_n 2, 1) := by decide +kernel
theorem dKT_grams_28 : decode bKT_grams 28 = .ok (.iaload, 1) := by decide +kernel
theorem dKT_grams_29 : decode bKT_grams 29 = .ok (.istore 4, 2) := by decide +kernel
theorem dKT_grams_31 : decode bKT_grams 31 = .ok (.aload_n 0, 1) := by decide +kernel
theorem dKT_grams_32 : decode bKT_grams 32 = .ok (.getfield 46, 3) := by decide +kernel
theorem dKT_grams_35 : decode bKT_grams 35 = .ok (.getfield 162, 3) := by decide +kernel
theorem dKT_grams_38 : decode bKT_grams 38 = .ok (.iload_n 1, 1) := by decide +kernel
theorem dKT_grams_39 : decode bKT_grams 39 = .ok (.aaload, 1) := by decide +kernel
theorem dKT_grams_40 : decode bKT_grams 40 = .ok (.iload_n 2, 1) := by decide +kernel
theorem dKT_grams_41 : decode bKT_grams 41 = .ok (.iload_n 3, 1) := by decide +kernel
theorem dKT_grams_42 : decode bKT_grams 42 = .ok (.iastore, 1) := by decide +kernel
theorem dKT_grams_43 : decode bKT_grams 43 = .ok (.iload 4, 2) := by decide +kernel
theorem dKT_grams_45 : decode bKT_grams 45 = .ok (.ireturn, 1) := by decide +kernel
theorem dKT_share_0 : decode bKT_share 0 = .ok (.aload_n 0, 1) := by decide +kernel
theorem dKT_share_1 : decode bKT_share 1 = .ok (.iload_n 3, 1) := by decide +kernel
theorem dKT_share_2 : decode bKT_share 2 = .ok (.invokevirtual 98, 3) := by decide +kernel
theorem dKT_share_5 : decode bKT_share 5 = .ok (.iload 4, 2) := by decide +kernel
theorem dKT_share_7 : decode bKT_share 7 = .ok (.invokestatic 113, 3) := by decide +kernel
theorem dKT_share_10 : decode bKT_share 10 = .ok (.iload_n 1, 1) := by decide +kernel
theorem dKT_share_11 : decode bKT_share 11 = .ok (.iload_n 2, 1) := by decide +kernel
theorem dKT_share_12 : decode bKT_share 12 = .ok (.invokestatic 150, 3) := by decide +kernel
theorem dKT_share_15 : decode bKT_share 15 = .ok (.aload_n 0, 1) := by decide +kernel
theorem dKT_share_16 : decode bKT_share 16 = .ok (.getfield 46, 3) := by decide +kernel
theorem dKT_share_19 : decode bKT_share 19 = .ok (.iload_n 1, 1) := by decide +kernel
theorem dKT_share_20 : decode bKT_share 20 = .ok (.iload_n 2, 1) := by decide +kernel
theorem dKT_share_21 : decode bKT_share 21 = .ok (.iload_n 3, 1) := by decide +kernel
theorem dKT_share_22 : decode bKT_share 22 = .ok (.iload 4, 2) := by decide +kernel
theorem dKT_share_24 : decode bKT_share 24 = .ok (.invokevirtual 165, 3) := by decide +kernel
theorem dKT_share_27 : decode bKT_share 27 = .ok (.lreturn, 1) := by decide +kernel
theorem dKT_law_0 : decode bKT_law 0 = .ok (.aload_n 0, 1) := by decide +kernel
theorem dKT_law_1 : decode bKT_law 1 = .ok (.iload_n 1, 1) := by decide +kernel
theorem dKT_law_2 : decode bKT_law 2 = .ok (.invokevirtual 98, 3) := by decide +kernel
theorem dKT_law_5 : decode bKT_law 5 = .ok (.iload_n 2, 1) := by decide +kernel
theorem dKT_law_6 : decode bKT_law 6 = .ok (.iconst 1, 1) := by decide +kernel
theorem dKT_law_7 : decode bKT_law 7 = .ok (.sipush (1000), 3) := by decide +kernel
theorem dKT_law_10 : decode bKT_law 10 = .ok (.invokestatic 80, 3) := by decide +kernel
theorem dKT_law_13 : decode bKT_law 13 = .ok (.iload_n 3, 1) := by decide +kernel
theorem dKT_law_14 : decode bKT_law 14 = .ok (.iconst 0, 1) := by decide +kernel
theorem dKT_law_15 : decode bKT_law 15 = .ok (.sipush (2000), 3) := by decide +kernel
theorem dKT_law_18 : decode bKT_law 18 = .ok (.invokestatic 80, 3) := by decide +kernel
theorem dKT_law_21 : decode bKT_law 21 = .ok (.aload_n 0, 1) := by decide +kernel
theorem dKT_law_22 : decode bKT_law 22 = .ok (.getfield 52, 3) := by decide +kernel
theorem dKT_law_25 : decode bKT_law 25 = .ok (.iload_n 1, 1) := by decide +kernel
theorem dKT_law_26 : decode bKT_law 26 = .ok (.aaload, 1) := by decide +kernel
theorem dKT_law_27 : decode bKT_law 27 = .ok (.astore 4, 2) := by decide +kernel
theorem dKT_law_29 : decode bKT_law 29 = .ok (.iload_n 2, 1) := by decide +kernel
theorem dKT_law_30 : decode bKT_law 30 = .ok (.aload 4, 2) := by decide +kernel
theorem dKT_law_32 : decode bKT_law 32 = .ok (.invokevirtual 169, 3) := by decide +kernel
theorem dKT_law_35 : decode bKT_law 35 = .ok (.if_icmp .gt (13), 3) := by decide +kernel
theorem dKT_law_38 : decode bKT_law 38 = .ok (.new 139, 3) := by decide +kernel
theorem dKT_law_41 : decode bKT_law 41 = .ok (.dup, 1) := by decide +kernel
theorem dKT_law_42 : decode bKT_law 42 = .ok (.ldc 172, 2) := by decide +kernel
theorem dKT_law_44 : decode bKT_law 44 = .ok (.invokespecial 143, 3) := by decide +kernel
theorem dKT_law_47 : decode bKT_law 47 = .ok (.athrow, 1) := by decide +kernel
theorem dKT_law_48 : decode bKT_law 48 = .ok (.aload 4, 2) := by decide +kernel
theorem dKT_law_50 : decode bKT_law 50 = .ok (.getfield 174, 3) := by decide +kernel
theorem dKT_law_53 : decode bKT_law 53 = .ok (.bipush (6), 2) := by decide +kernel
theorem dKT_law_55 : decode bKT_law 55 = .ok (.if_icmp .lt (13), 3) := by decide +kernel
theorem dKT_law_58 : decode bKT_law 58 = .ok (.new 63, 3) := by decide +kernel
theorem dKT_law_61 : decode bKT_law 61 = .ok (.dup, 1) := by decide +kernel
theorem dKT_law_62 : decode bKT_law 62 = .ok (.ldc 177, 2) := by decide +kernel
theorem dKT_law_64 : decode bKT_law 64 = .ok (.invokespecial 67, 3) := by decide +kernel
theorem dKT_law_67 : decode bKT_law 67 = .ok (.athrow, 1) := by decide +kernel
theorem dKT_law_68 : decode bKT_law 68 = .ok (.aload 4, 2) := by decide +kernel
theorem dKT_law_70 : decode bKT_law 70 = .ok (.iload_n 2, 1) := by decide +kernel
theorem dKT_law_71 : decode bKT_law 71 = .ok (.iload_n 3, 1) := by decide +kernel
theorem dKT_law_72 : decode bKT_law 72 = .ok (.invokevirtual 179, 3) := by decide +kernel
theorem dKT_law_75 : decode bKT_law 75 = .ok (.ireturn, 1) := by decide +kernel
theorem dKT_strength_0 : decode bKT_strength 0 = .ok (.aload_n 0, 1) := by decide +kernel
theorem dKT_strength_1 : decode bKT_strength 1 = .ok (.iload_n 1, 1) := by decide +kernel
theorem dKT_strength_2 : decode bKT_strength 2 = .ok (.invokevirtual 98, 3) := by decide +kernel
theorem dKT_strength_5 : decode bKT_strength 5 = .ok (.aload_n 0, 1) := by decide +kernel
theorem dKT_strength_6 : decode bKT_strength 6 = .ok (.getfield 52, 3) := by decide +kernel
theorem dKT_strength_9 : decode bKT_strength 9 = .ok (.iload_n 1, 1) := by decide +kernel
theorem dKT_strength_10 : decode bKT_strength 10 = .ok (.aaload, 1) := by decide +kernel
theorem dKT_strength_11 : decode bKT_strength 11 = .ok (.iload_n 2, 1) := by decide +kernel
theorem dKT_strength_12 : decode bKT_strength 12 = .ok (.invokevirtual 180, 3) := by decide +kernel
theorem dKT_strength_15 : decode bKT_strength 15 = .ok (.ireturn, 1) := by decide +kernel
theorem dKT_length_0 : decode bKT_length 0 = .ok (.aload_n 0, 1) := by decide +kernel
theorem dKT_length_1 : decode bKT_length 1 = .ok (.iload_n 1, 1) := by decide +kernel
theorem dKT_length_2 : decode bKT_length 2 = .ok (.invokevirtual 98, 3) := by decide +kernel
theorem dKT_length_5 : decode bKT_length 5 = .ok (.aload_n 0, 1) := by decide +kernel
theorem dKT_length_6 : decode bKT_length 6 = .ok (.getfield 52, 3) := by decide +kernel
theorem dKT_length_9 : decode bKT_length 9 = .ok (.iload_n 1, 1) := by decide +kernel
theorem dKT_length_10 : decode bKT_length 10 = .ok (.aaload, 1) := by decide +kernel
theorem dKT_length_11 : decode bKT_length 11 = .ok (.iload_n 2, 1) := by decide +kernel
theorem dKT_length_12 : decode bKT_length 12 = .ok (.invokevirtual 183, 3) := by decide +kernel
theorem dKT_length_15 : decode bKT_length 15 = .ok (.ireturn, 1) := by decide +kernel
theorem dKT_count_0 : decode bKT_count 0 = .ok (.iload_n 1, 1) := by decide +kernel
theorem dKT_count_1 : decode bKT_count 1 = .ok (.tableswitch (78) (0) (4) #[35, 43, 60, 68, 73], 35) := by decide +kernel
theorem dKT_count_36 : decode bKT_count 36 = .ok (.aload_n 0, 1) := by decide +kernel
theorem dKT_count_37 : decode bKT_count 37 = .ok (.getfield 30, 3) := by decide +kernel
theorem dKT_count_40 : decode bKT_count 40 = .ok (.getfield 60, 3) := by decide +kernel
theorem dKT_count_43 : decode bKT_count 43 = .ok (.ireturn, 1) := by decide +kernel
theorem dKT_count_44 : decode bKT_count 44 = .ok (.aload_n 0, 1) := by decide +kernel
theorem dKT_count_45 : decode bKT_count 45 = .ok (.getfield 30, 3) := by decide +kernel
theorem dKT_count_48 : decode bKT_count 48 = .ok (.getfield 60, 3) := by decide +kernel
theorem dKT_count_51 : decode bKT_count 51 = .ok (.aload_n 0, 1) := by decide +kernel
theorem dKT_count_52 : decode bKT_count 52 = .ok (.getfield 30, 3) := by decide +kernel
theorem dKT_count_55 : decode bKT_count 55 = .ok (.iconst (-1), 1) := by decide +kernel
theorem dKT_count_56 : decode bKT_count 56 = .ok (.invokevirtual 119, 3) := by decide +kernel
theorem dKT_count_59 : decode bKT_count 59 = .ok (.isub, 1) := by decide +kernel
theorem dKT_count_60 : decode bKT_count 60 = .ok (.ireturn, 1) := by decide +kernel
theorem dKT_count_61 : decode bKT_count 61 = .ok (.aload_n 0, 1) := by decide +kernel
theorem dKT_count_62 : decode bKT_count 62 = .ok (.getfield 46, 3) := by decide +kernel
theorem dKT_count_65 : decode bKT_count 65 = .ok (.getfield 154, 3) := by decide +kernel
theorem dKT_count_68 : decode bKT_count 68 = .ok (.ireturn, 1) := by decide +kernel
theorem dKT_count_69 : decode bKT_count 69 = .ok (.aload_n 0, 1) := by decide +kernel
theorem dKT_count_70 : decode bKT_count 70 = .ok (.getfield 18, 3) := by decide +kernel
theorem dKT_count_73 : decode bKT_count 73 = .ok (.ireturn, 1) := by decide +kernel
theorem dKT_count_74 : decode bKT_count 74 = .ok (.aload_n 0, 1) := by decide +kernel
theorem dKT_count_75 : decode bKT_count 75 = .ok (.getfield 22, 3) := by decide +kernel
theorem dKT_count_78 : decode bKT_count 78 = .ok (.ireturn, 1) := by decide +kernel
theorem dKT_count_79 : decode bKT_count 79 = .ok (.iconst (-1), 1) := by decide +kernel
theorem dKT_count_80 : decode bKT_count 80 = .ok (.ireturn, 1) := by decide +kernel
theorem dKT_needKind_0 : decode bKT_needKind 0 = .ok (.iload_n 1, 1) := by decide +kernel
theorem dKT_needKind_1 : decode bKT_needKind 1 = .ok (.ifCond .lt (11), 3) := by decide +kernel
theorem dKT_needKind_4 : decode bKT_needKind 4 = .ok (.iload_n 1, 1) := by decide +kernel
theorem dKT_needKind_5 : decode bKT_needKind 5 = .ok (.aload_n 0, 1) := by decide +kernel
theorem dKT_needKind_6 : decode bKT_needKind 6 = .ok (.getfield 18, 3) := by decide +kernel
theorem dKT_needKind_9 : decode bKT_needKind 9 = .ok (.if_icmp .lt (13), 3) := by decide +kernel
theorem dKT_needKind_12 : decode bKT_needKind 12 = .ok (.new 186, 3) := by decide +kernel
theorem dKT_needKind_15 : decode bKT_needKind 15 = .ok (.dup, 1) := by decide +kernel
theorem dKT_needKind_16 : decode bKT_needKind 16 = .ok (.ldc 188, 2) := by decide +kernel
theorem dKT_needKind_18 : decode bKT_needKind 18 = .ok (.invokespecial 190, 3) := by decide +kernel
theorem dKT_needKind_21 : decode bKT_needKind 21 = .ok (.athrow, 1) := by decide +kernel
theorem dKT_needKind_22 : decode bKT_needKind 22 = .ok (.return_, 1) := by decide +kernel
theorem dKT_needKindOrNone_0 : decode bKT_needKindOrNone 0 = .ok (.iload_n 1, 1) := by decide +kernel
theorem dKT_needKindOrNone_1 : decode bKT_needKindOrNone 1 = .ok (.iconst (-1), 1) := by decide +kernel
theorem dKT_needKindOrNone_2 : decode bKT_needKindOrNone 2 = .ok (.if_icmp .eq (8), 3) := by decide +kernel
theorem dKT_needKindOrNone_5 : decode bKT_needKindOrNone 5 = .ok (.aload_n 0, 1) := by decide +kernel
theorem dKT_needKindOrNone_6 : decode bKT_needKindOrNone 6 = .ok (.iload_n 1, 1) := by decide +kernel
theorem dKT_needKindOrNone_7 : decode bKT_needKindOrNone 7 = .ok (.invokevirtual 98, 3) := by decide +kernel
theorem dKT_needKindOrNone_10 : decode bKT_needKindOrNone 10 = .ok (.return_, 1) := by decide +kernel
theorem dKT_needFeature_0 : decode bKT_needFeature 0 = .ok (.iload_n 1, 1) := by decide +kernel
theorem dKT_needFeature_1 : decode bKT_needFeature 1 = .ok (.ifCond .lt (11), 3) := by decide +kernel
theorem dKT_needFeature_4 : decode bKT_needFeature 4 = .ok (.iload_n 1, 1) := by decide +kernel
theorem dKT_needFeature_5 : decode bKT_needFeature 5 = .ok (.aload_n 0, 1) := by decide +kernel
theorem dKT_needFeature_6 : decode bKT_needFeature 6 = .ok (.getfield 22, 3) := by decide +kernel
theorem dKT_needFeature_9 : decode bKT_needFeature 9 = .ok (.if_icmp .lt (13), 3) := by decide +kernel
theorem dKT_needFeature_12 : decode bKT_needFeature 12 = .ok (.new 186, 3) := by decide +kernel
theorem dKT_needFeature_15 : decode bKT_needFeature 15 = .ok (.dup, 1) := by decide +kernel
theorem dKT_needFeature_16 : decode bKT_needFeature 16 = .ok (.ldc 191, 2) := by decide +kernel
theorem dKT_needFeature_18 : decode bKT_needFeature 18 = .ok (.invokespecial 190, 3) := by decide +kernel
theorem dKT_needFeature_21 : decode bKT_needFeature 21 = .ok (.athrow, 1) := by decide +kernel
theorem dKT_needFeature_22 : decode bKT_needFeature 22 = .ok (.return_, 1) := by decide +kernel
theorem dKT_needExample_0 : decode bKT_needExample 0 = .ok (.iload_n 1, 1) := by decide +kernel
theorem dKT_needExample_1 : decode bKT_needExample 1 = .ok (.ifCond .lt (14), 3) := by decide +kernel
theorem dKT_needExample_4 : decode bKT_needExample 4 = .ok (.iload_n 1, 1) := by decide +kernel
theorem dKT_needExample_5 : decode bKT_needExample 5 = .ok (.aload_n 0, 1) := by decide +kernel
theorem dKT_needExample_6 : decode bKT_needExample 6 = .ok (.getfield 30, 3) := by decide +kernel
theorem dKT_needExample_9 : decode bKT_needExample 9 = .ok (.getfield 60, 3) := by decide +kernel
theorem dKT_needExample_12 : decode bKT_needExample 12 = .ok (.if_icmp .lt (13), 3) := by decide +kernel
theorem dKT_needExample_15 : decode bKT_needExample 15 = .ok (.new 186, 3) := by decide +kernel
theorem dKT_needExample_18 : decode bKT_needExample 18 = .ok (.dup, 1) := by decide +kernel
theorem dKT_needExample_19 : decode bKT_needExample 19 = .ok (.ldc 193, 2) := by decide +kernel
theorem dKT_needExample_21 : decode bKT_needExample 21 = .ok (.invokespecial 190, 3) := by decide +kernel
theorem dKT_needExample_24 : decode bKT_needExample 24 = .ok (.athrow, 1) := by decide +kernel
theorem dKT_needExample_25 : decode bKT_needExample 25 = .ok (.return_, 1) := by decide +kernel
theorem dKT_needHaul_0 : decode bKT_needHaul 0 = .ok (.iload_n 1, 1) := by decide +kernel
theorem dKT_needHaul_1 : decode bKT_needHaul 1 = .ok (.ifCond .lt (14), 3) := by decide +kernel
theorem dKT_needHaul_4 : decode bKT_needHaul 4 = .ok (.iload_n 1, 1) := by decide +kernel
theorem dKT_needHaul_5 : decode bKT_needHaul 5 = .ok (.aload_n 0, 1) := by decide +kernel
theorem dKT_needHaul_6 : decode bKT_needHaul 6 = .ok (.getfield 46, 3) := by decide +kernel
theorem dKT_needHaul_9 : decode bKT_needHaul 9 = .ok (.getfield 154, 3) := by decide +kernel
theorem dKT_needHaul_12 : decode bKT_needHaul 12 = .ok (.if_icmp .lt (13), 3) := by decide +kernel
theorem dKT_needHaul_15 : decode bKT_needHaul 15 = .ok (.new 186, 3) := by decide +kernel
theorem dKT_needHaul_18 : decode bKT_needHaul 18 = .ok (.dup, 1) := by decide +kernel
theorem dKT_needHaul_19 : decode bKT_needHaul 19 = .ok (.ldc 195, 2) := by decide +kernel
theorem dKT_needHaul_21 : decode bKT_needHaul 21 = .ok (.invokespecial 190, 3) := by decide +kernel
theorem dKT_needHaul_24 : decode bKT_needHaul 24 = .ok (.athrow, 1) := by decide +kernel
theorem dKT_needHaul_25 : decode bKT_needHaul 25 = .ok (.return_, 1) := by decide +kernel
theorem dKT_needPart_0 : decode bKT_needPart 0 = .ok (.iload_n 0, 1) := by decide +kernel
theorem dKT_needPart_1 : decode bKT_needPart 1 = .ok (.ifCond .eq (18), 3) := by decide +kernel
theorem dKT_needPart_4 : decode bKT_needPart 4 = .ok (.iload_n 0, 1) := by decide +kernel
theorem dKT_needPart_5 : decode bKT_needPart 5 = .ok (.iconst 1, 1) := by decide +kernel
theorem dKT_needPart_6 : decode bKT_needPart 6 = .ok (.if_icmp .eq (13), 3) := by decide +kernel
theorem dKT_needPart_9 : decode bKT_needPart 9 = .ok (.new 186, 3) := by decide +kernel
theorem dKT_needPart_12 : decode bKT_needPart 12 = .ok (.dup, 1) := by decide +kernel
theorem dKT_needPart_13 : decode bKT_needPart 13 = .ok (.ldc 197, 2) := by decide +kernel
theorem dKT_needPart_15 : decode bKT_needPart 15 = .ok (.invokespecial 190, 3) := by decide +kernel
theorem dKT_needPart_18 : decode bKT_needPart 18 = .ok (.athrow, 1) := by decide +kernel
theorem dKT_needPart_19 : decode bKT_needPart 19 = .ok (.return_, 1) := by decide +kernel
theorem dKT_needWithin_0 : decode bKT_needWithin 0 = .ok (.iload_n 0, 1) := by decide +kernel
theorem dKT_needWithin_1 : decode bKT_needWithin 1 = .ok (.iload_n 1, 1) := by decide +kernel
theorem dKT_needWithin_2 : decode bKT_needWithin 2 = .ok (.if_icmp .lt (8), 3) := by decide +kernel
theorem dKT_needWithin_5 : decode bKT_needWithin 5 = .ok (.iload_n 0, 1) := by decide +kernel
theorem dKT_needWithin_6 : decode bKT_needWithin 6 = .ok (.iload_n 2, 1) := by decide +kernel
theorem dKT_needWithin_7 : decode bKT_needWithin 7 = .ok (.if_icmp .le (13), 3) := by decide +kernel
theorem dKT_needWithin_10 : decode bKT_needWithin 10 = .ok (.new 139, 3) := by decide +kernel
theorem dKT_needWithin_13 : decode bKT_needWithin 13 = .ok (.dup, 1) := by decide +kernel
theorem dKT_needWithin_14 : decode bKT_needWithin 14 = .ok (.ldc 199, 2) := by decide +kernel
theorem dKT_needWithin_16 : decode bKT_needWithin 16 = .ok (.invokespecial 143, 3) := by decide +kernel
theorem dKT_needWithin_19 : decode bKT_needWithin 19 = .ok (.athrow, 1) := by decide +kernel
theorem dKT_needWithin_20 : decode bKT_needWithin 20 = .ok (.return_, 1) := by decide +kernel
theorem dKT_needPlace_0 : decode bKT_needPlace 0 = .ok (.iload_n 0, 1) := by decide +kernel
theorem dKT_needPlace_1 : decode bKT_needPlace 1 = .ok (.bipush (-100), 2) := by decide +kernel
theorem dKT_needPlace_3 : decode bKT_needPlace 3 = .ok (.bipush (100), 2) := by decide +kernel
theorem dKT_needPlace_5 : decode bKT_needPlace 5 = .ok (.invokestatic 80, 3) := by decide +kernel
theorem dKT_needPlace_8 : decode bKT_needPlace 8 = .ok (.iload_n 1, 1) := by decide +kernel
theorem dKT_needPlace_9 : decode bKT_needPlace 9 = .ok (.bipush (-100), 2) := by decide +kernel
theorem dKT_needPlace_11 : decode bKT_needPlace 11 = .ok (.bipush (100), 2) := by decide +kernel
theorem dKT_needPlace_13 : decode bKT_needPlace 13 = .ok (.invokestatic 80, 3) := by decide +kernel
theorem dKT_needPlace_16 : decode bKT_needPlace 16 = .ok (.return_, 1) := by decide +kernel
theorem dKT_partOf_0 : decode bKT_partOf 0 = .ok (.lload_n 0, 1) := by decide +kernel
theorem dKT_partOf_1 : decode bKT_partOf 1 = .ok (.lload_n 2, 1) := by decide +kernel
theorem dKT_partOf_2 : decode bKT_partOf 2 = .ok (.invokestatic 201, 3) := by decide +kernel
theorem dKT_partOf_5 : decode bKT_partOf 5 = .ok (.lstore 5, 2) := by decide +kernel
theorem dKT_partOf_7 : decode bKT_partOf 7 = .ok (.lload_n 2, 1) := by decide +kernel
theorem dKT_partOf_8 : decode bKT_partOf 8 = .ok (.lconst 1, 1) := by decide +kernel
theorem dKT_partOf_9 : decode bKT_partOf 9 = .ok (.lcmp, 1) := by decide +kernel
theorem dKT_partOf_10 : decode bKT_partOf 10 = .ok (.ifCond .lt (10), 3) := by decide +kernel
theorem dKT_partOf_13 : decode bKT_partOf 13 = .ok (.lload 5, 2) := by decide +kernel
theorem dKT_partOf_15 : decode bKT_partOf 15 = .ok (.lconst 1, 1) := by decide +kernel
theorem dKT_partOf_16 : decode bKT_partOf 16 = .ok (.lcmp, 1) := by decide +kernel
theorem dKT_partOf_17 : decode bKT_partOf 17 = .ok (.ifCond .ge (14), 3) := by decide +kernel
theorem dKT_partOf_20 : decode bKT_partOf 20 = .ok (.iload 4, 2) := by decide +kernel
theorem dKT_partOf_22 : decode bKT_partOf 22 = .ok (.ifCond .ne (7), 3) := by decide +kernel
theorem dKT_partOf_25 : decode bKT_partOf 25 = .ok (.lconst 0, 1) := by decide +kernel
theorem dKT_partOf_26 : decode bKT_partOf 26 = .ok (.goto (4), 3) := by decide +kernel
theorem dKT_partOf_29 : decode bKT_partOf 29 = .ok (.lconst 1, 1) := by decide +kernel
theorem dKT_partOf_30 : decode bKT_partOf 30 = .ok (.lreturn, 1) := by decide +kernel
theorem dKT_partOf_31 : decode bKT_partOf 31 = .ok (.iload 4, 2) := by decide +kernel
theorem dKT_partOf_33 : decode bKT_partOf 33 = .ok (.ifCond .ne (10), 3) := by decide +kernel
theorem dKT_partOf_36 : decode bKT_partOf 36 = .ok (.lload_n 0, 1) := by decide +kernel
theorem dKT_partOf_37 : decode bKT_partOf 37 = .ok (.lload 5, 2) := by decide +kernel
theorem dKT_partOf_39 : decode bKT_partOf 39 = .ok (.ldiv, 1) := by decide +kernel
theorem dKT_partOf_40 : decode bKT_partOf 40 = .ok (.goto (7), 3) := by decide +kernel
theorem dKT_partOf_43 : decode bKT_partOf 43 = .ok (.lload_n 2, 1) := by decide +kernel
theorem dKT_partOf_44 : decode bKT_partOf 44 = .ok (.lload 5, 2) := by decide +kernel
theorem dKT_partOf_46 : decode bKT_partOf 46 = .ok (.ldiv, 1) := by decide +kernel
theorem dKT_partOf_47 : decode bKT_partOf 47 = .ok (.lreturn, 1) := by decide +kernel
theorem dKT_commonDivisor_0 : decode bKT_commonDivisor 0 = .ok (.lload_n 0, 1) := by decide +kernel
theorem dKT_commonDivisor_1 : decode bKT_commonDivisor 1 = .ok (.lstore 4, 2) := by decide +kernel
theorem dKT_commonDivisor_3 : decode bKT_commonDivisor 3 = .ok (.lload_n 2, 1) := by decide +kernel
theorem dKT_commonDivisor_4 : decode bKT_commonDivisor 4 = .ok (.lstore 6, 2) := by decide +kernel
theorem dKT_commonDivisor_6 : decode bKT_commonDivisor 6 = .ok (.iconst 0, 1) := by decide +kernel
theorem dKT_commonDivisor_7 : decode bKT_commonDivisor 7 = .ok (.istore 8, 2) := by decide +kernel
theorem dKT_commonDivisor_9 : decode bKT_commonDivisor 9 = .ok (.iload 8, 2) := by decide +kernel
theorem dKT_commonDivisor_11 : decode bKT_commonDivisor 11 = .ok (.sipush (1000), 3) := by decide +kernel
theorem dKT_commonDivisor_14 : decode bKT_commonDivisor 14 = .ok (.if_icmp .ge (31), 3) := by decide +kernel
theorem dKT_commonDivisor_17 : decode bKT_commonDivisor 17 = .ok (.lload 6, 2) := by decide +kernel
theorem dKT_commonDivisor_19 : decode bKT_commonDivisor 19 = .ok (.lconst 0, 1) := by decide +kernel
theorem dKT_commonDivisor_20 : decode bKT_commonDivisor 20 = .ok (.lcmp, 1) := by decide +kernel
theorem dKT_commonDivisor_21 : decode bKT_commonDivisor 21 = .ok (.ifCond .eq (24), 3) := by decide +kernel
theorem dKT_commonDivisor_24 : decode bKT_commonDivisor 24 = .ok (.lload 4, 2) := by decide +kernel
theorem dKT_commonDivisor_26 : decode bKT_commonDivisor 26 = .ok (.lload 6, 2) := by decide +kernel
theorem dKT_commonDivisor_28 : decode bKT_commonDivisor 28 = .ok (.lrem, 1) := by decide +kernel
theorem dKT_commonDivisor_29 : decode bKT_commonDivisor 29 = .ok (.lstore 9, 2) := by decide +kernel
theorem dKT_commonDivisor_31 : decode bKT_commonDivisor 31 = .ok (.lload 6, 2) := by decide +kernel
theorem dKT_commonDivisor_33 : decode bKT_commonDivisor 33 = .ok (.lstore 4, 2) := by decide +kernel
theorem dKT_commonDivisor_35 : decode bKT_commonDivisor 35 = .ok (.lload 9, 2) := by decide +kernel
theorem dKT_commonDivisor_37 : decode bKT_commonDivisor 37 = .ok (.lstore 6, 2) := by decide +kernel
theorem dKT_commonDivisor_39 : decode bKT_commonDivisor 39 = .ok (.iinc 8 (1), 3) := by decide +kernel
theorem dKT_commonDivisor_42 : decode bKT_commonDivisor 42 = .ok (.goto (-33), 3) := by decide +kernel
theorem dKT_commonDivisor_45 : decode bKT_commonDivisor 45 = .ok (.lload 4, 2) := by decide +kernel
theorem dKT_commonDivisor_47 : decode bKT_commonDivisor 47 = .ok (.lreturn, 1) := by decide +kernel
theorem dKT_square_0 : decode bKT_square 0 = .ok (.iload_n 0, 1) := by decide +kernel
theorem dKT_square_1 : decode bKT_square 1 = .ok (.iload_n 0, 1) := by decide +kernel
theorem dKT_square_2 : decode bKT_square 2 = .ok (.imul, 1) := by decide +kernel
theorem dKT_square_3 : decode bKT_square 3 = .ok (.ireturn, 1) := by decide +kernel
