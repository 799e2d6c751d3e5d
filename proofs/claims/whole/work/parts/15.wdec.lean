theorem dLw_at_0 : decode bLw_at 0 = .ok (.iload_n 1, 1) := by decide +kernel
theorem dLw_at_1 : decode bLw_at 1 = .ok (.aload_n 0, 1) := by decide +kernel
theorem dLw_at_2 : decode bLw_at 2 = .ok (.arraylength, 1) := by decide +kernel
theorem dLw_at_3 : decode bLw_at 3 = .ok (.if_icmp .ge (9), 3) := by decide +kernel
theorem dLw_at_6 : decode bLw_at 6 = .ok (.aload_n 0, 1) := by decide +kernel
theorem dLw_at_7 : decode bLw_at 7 = .ok (.iload_n 1, 1) := by decide +kernel
theorem dLw_at_8 : decode bLw_at 8 = .ok (.iaload, 1) := by decide +kernel
theorem dLw_at_9 : decode bLw_at 9 = .ok (.goto (4), 3) := by decide +kernel
theorem dLw_at_12 : decode bLw_at 12 = .ok (.iconst 0, 1) := by decide +kernel
theorem dLw_at_13 : decode bLw_at 13 = .ok (.ireturn, 1) := by decide +kernel
theorem dLw_example_0 : decode bLw_example 0 = .ok (.aload_n 2, 1) := by decide +kernel
theorem dLw_example_1 : decode bLw_example 1 = .ok (.iconst 0, 1) := by decide +kernel
theorem dLw_example_2 : decode bLw_example 2 = .ok (.aload_n 0, 1) := by decide +kernel
theorem dLw_example_3 : decode bLw_example 3 = .ok (.iload_n 1, 1) := by decide +kernel
theorem dLw_example_4 : decode bLw_example 4 = .ok (.invokevirtual 7, 3) := by decide +kernel
theorem dLw_example_7 : decode bLw_example 7 = .ok (.i2l, 1) := by decide +kernel
theorem dLw_example_8 : decode bLw_example 8 = .ok (.lastore, 1) := by decide +kernel
theorem dLw_example_9 : decode bLw_example 9 = .ok (.goto (9), 3) := by decide +kernel
theorem dLw_example_12 : decode bLw_example 12 = .ok (.astore_n 3, 1) := by decide +kernel
theorem dLw_example_13 : decode bLw_example 13 = .ok (.iconst 1, 1) := by decide +kernel
theorem dLw_example_14 : decode bLw_example 14 = .ok (.ireturn, 1) := by decide +kernel
theorem dLw_example_15 : decode bLw_example 15 = .ok (.astore_n 3, 1) := by decide +kernel
theorem dLw_example_16 : decode bLw_example 16 = .ok (.iconst 2, 1) := by decide +kernel
theorem dLw_example_17 : decode bLw_example 17 = .ok (.ireturn, 1) := by decide +kernel
theorem dLw_example_18 : decode bLw_example 18 = .ok (.iconst 0, 1) := by decide +kernel
theorem dLw_example_19 : decode bLw_example 19 = .ok (.ireturn, 1) := by decide +kernel
theorem dLw_value_0 : decode bLw_value 0 = .ok (.aload 4, 2) := by decide +kernel
theorem dLw_value_2 : decode bLw_value 2 = .ok (.iconst 0, 1) := by decide +kernel
theorem dLw_value_3 : decode bLw_value 3 = .ok (.aload_n 0, 1) := by decide +kernel
theorem dLw_value_4 : decode bLw_value 4 = .ok (.iload_n 1, 1) := by decide +kernel
theorem dLw_value_5 : decode bLw_value 5 = .ok (.iload_n 2, 1) := by decide +kernel
theorem dLw_value_6 : decode bLw_value 6 = .ok (.iload_n 3, 1) := by decide +kernel
theorem dLw_value_7 : decode bLw_value 7 = .ok (.invokevirtual 17, 3) := by decide +kernel
theorem dLw_value_10 : decode bLw_value 10 = .ok (.ifCond .eq (7), 3) := by decide +kernel
theorem dLw_value_13 : decode bLw_value 13 = .ok (.lconst 1, 1) := by decide +kernel
theorem dLw_value_14 : decode bLw_value 14 = .ok (.goto (4), 3) := by decide +kernel
theorem dLw_value_17 : decode bLw_value 17 = .ok (.lconst 0, 1) := by decide +kernel
theorem dLw_value_18 : decode bLw_value 18 = .ok (.lastore, 1) := by decide +kernel
theorem dLw_value_19 : decode bLw_value 19 = .ok (.goto (11), 3) := by decide +kernel
theorem dLw_value_22 : decode bLw_value 22 = .ok (.astore 5, 2) := by decide +kernel
theorem dLw_value_24 : decode bLw_value 24 = .ok (.iconst 1, 1) := by decide +kernel
theorem dLw_value_25 : decode bLw_value 25 = .ok (.ireturn, 1) := by decide +kernel
theorem dLw_value_26 : decode bLw_value 26 = .ok (.astore 5, 2) := by decide +kernel
theorem dLw_value_28 : decode bLw_value 28 = .ok (.iconst 2, 1) := by decide +kernel
theorem dLw_value_29 : decode bLw_value 29 = .ok (.ireturn, 1) := by decide +kernel
theorem dLw_value_30 : decode bLw_value 30 = .ok (.iconst 0, 1) := by decide +kernel
theorem dLw_value_31 : decode bLw_value 31 = .ok (.ireturn, 1) := by decide +kernel
theorem dLw_teach_0 : decode bLw_teach 0 = .ok (.aload_n 3, 1) := by decide +kernel
theorem dLw_teach_1 : decode bLw_teach 1 = .ok (.iconst 0, 1) := by decide +kernel
theorem dLw_teach_2 : decode bLw_teach 2 = .ok (.aload_n 0, 1) := by decide +kernel
theorem dLw_teach_3 : decode bLw_teach 3 = .ok (.iload_n 1, 1) := by decide +kernel
theorem dLw_teach_4 : decode bLw_teach 4 = .ok (.iload_n 2, 1) := by decide +kernel
theorem dLw_teach_5 : decode bLw_teach 5 = .ok (.invokevirtual 23, 3) := by decide +kernel
theorem dLw_teach_8 : decode bLw_teach 8 = .ok (.i2l, 1) := by decide +kernel
theorem dLw_teach_9 : decode bLw_teach 9 = .ok (.lastore, 1) := by decide +kernel
theorem dLw_teach_10 : decode bLw_teach 10 = .ok (.goto (7), 3) := by decide +kernel
theorem dLw_teach_13 : decode bLw_teach 13 = .ok (.astore 4, 2) := by decide +kernel
theorem dLw_teach_15 : decode bLw_teach 15 = .ok (.iconst 1, 1) := by decide +kernel
theorem dLw_teach_16 : decode bLw_teach 16 = .ok (.ireturn, 1) := by decide +kernel
theorem dLw_teach_17 : decode bLw_teach 17 = .ok (.iconst 0, 1) := by decide +kernel
theorem dLw_teach_18 : decode bLw_teach 18 = .ok (.ireturn, 1) := by decide +kernel
theorem dLw_width_0 : decode bLw_width 0 = .ok (.aload_n 3, 1) := by decide +kernel
theorem dLw_width_1 : decode bLw_width 1 = .ok (.iconst 0, 1) := by decide +kernel
theorem dLw_width_2 : decode bLw_width 2 = .ok (.aload_n 0, 1) := by decide +kernel
theorem dLw_width_3 : decode bLw_width 3 = .ok (.iload_n 1, 1) := by decide +kernel
theorem dLw_width_4 : decode bLw_width 4 = .ok (.iload_n 2, 1) := by decide +kernel
theorem dLw_width_5 : decode bLw_width 5 = .ok (.invokevirtual 27, 3) := by decide +kernel
theorem dLw_width_8 : decode bLw_width 8 = .ok (.i2l, 1) := by decide +kernel
theorem dLw_width_9 : decode bLw_width 9 = .ok (.lastore, 1) := by decide +kernel
theorem dLw_width_10 : decode bLw_width 10 = .ok (.goto (11), 3) := by decide +kernel
theorem dLw_width_13 : decode bLw_width 13 = .ok (.astore 4, 2) := by decide +kernel
theorem dLw_width_15 : decode bLw_width 15 = .ok (.iconst 1, 1) := by decide +kernel
theorem dLw_width_16 : decode bLw_width 16 = .ok (.ireturn, 1) := by decide +kernel
theorem dLw_width_17 : decode bLw_width 17 = .ok (.astore 4, 2) := by decide +kernel
theorem dLw_width_19 : decode bLw_width 19 = .ok (.iconst 2, 1) := by decide +kernel
theorem dLw_width_20 : decode bLw_width 20 = .ok (.ireturn, 1) := by decide +kernel
theorem dLw_width_21 : decode bLw_width 21 = .ok (.iconst 0, 1) := by decide +kernel
theorem dLw_width_22 : decode bLw_width 22 = .ok (.ireturn, 1) := by decide +kernel
theorem dLw_cell_0 : decode bLw_cell 0 = .ok (.aload_n 3, 1) := by decide +kernel
theorem dLw_cell_1 : decode bLw_cell 1 = .ok (.iconst 0, 1) := by decide +kernel
theorem dLw_cell_2 : decode bLw_cell 2 = .ok (.aload_n 0, 1) := by decide +kernel
theorem dLw_cell_3 : decode bLw_cell 3 = .ok (.iload_n 1, 1) := by decide +kernel
theorem dLw_cell_4 : decode bLw_cell 4 = .ok (.iload_n 2, 1) := by decide +kernel
theorem dLw_cell_5 : decode bLw_cell 5 = .ok (.invokevirtual 30, 3) := by decide +kernel
theorem dLw_cell_8 : decode bLw_cell 8 = .ok (.i2l, 1) := by decide +kernel
theorem dLw_cell_9 : decode bLw_cell 9 = .ok (.lastore, 1) := by decide +kernel
theorem dLw_cell_10 : decode bLw_cell 10 = .ok (.goto (7), 3) := by decide +kernel
theorem dLw_cell_13 : decode bLw_cell 13 = .ok (.astore 4, 2) := by decide +kernel
theorem dLw_cell_15 : decode bLw_cell 15 = .ok (.iconst 1, 1) := by decide +kernel
theorem dLw_cell_16 : decode bLw_cell 16 = .ok (.ireturn, 1) := by decide +kernel
theorem dLw_cell_17 : decode bLw_cell 17 = .ok (.iconst 0, 1) := by decide +kernel
theorem dLw_cell_18 : decode bLw_cell 18 = .ok (.ireturn, 1) := by decide +kernel
theorem dLw_votes_0 : decode bLw_votes 0 = .ok (.aload_n 3, 1) := by decide +kernel
theorem dLw_votes_1 : decode bLw_votes 1 = .ok (.iconst 0, 1) := by decide +kernel
theorem dLw_votes_2 : decode bLw_votes 2 = .ok (.aload_n 0, 1) := by decide +kernel
theorem dLw_votes_3 : decode bLw_votes 3 = .ok (.iload_n 1, 1) := by decide +kernel
theorem dLw_votes_4 : decode bLw_votes 4 = .ok (.iload_n 2, 1) := by decide +kernel
theorem dLw_votes_5 : decode bLw_votes 5 = .ok (.invokevirtual 33, 3) := by decide +kernel
theorem dLw_votes_8 : decode bLw_votes 8 = .ok (.i2l, 1) := by decide +kernel
theorem dLw_votes_9 : decode bLw_votes 9 = .ok (.lastore, 1) := by decide +kernel
theorem dLw_votes_10 : decode bLw_votes 10 = .ok (.goto (7), 3) := by decide +kernel
theorem dLw_votes_13 : decode bLw_votes 13 = .ok (.astore 4, 2) := by decide +kernel
theorem dLw_votes_15 : decode bLw_votes 15 = .ok (.iconst 1, 1) := by decide +kernel
theorem dLw_votes_16 : decode bLw_votes 16 = .ok (.ireturn, 1) := by decide +kernel
theorem dLw_votes_17 : decode bLw_votes 17 = .ok (.iconst 0, 1) := by decide +kernel
theorem dLw_votes_18 : decode bLw_votes 18 = .ok (.ireturn, 1) := by decide +kernel
theorem dLw_tell_0 : decode bLw_tell 0 = .ok (.aload_n 2, 1) := by decide +kernel
theorem dLw_tell_1 : decode bLw_tell 1 = .ok (.iconst 0, 1) := by decide +kernel
theorem dLw_tell_2 : decode bLw_tell 2 = .ok (.aload_n 0, 1) := by decide +kernel
theorem dLw_tell_3 : decode bLw_tell 3 = .ok (.iload_n 1, 1) := by decide +kernel
theorem dLw_tell_4 : decode bLw_tell 4 = .ok (.invokevirtual 36, 3) := by decide +kernel
theorem dLw_tell_7 : decode bLw_tell 7 = .ok (.i2l, 1) := by decide +kernel
theorem dLw_tell_8 : decode bLw_tell 8 = .ok (.lastore, 1) := by decide +kernel
theorem dLw_tell_9 : decode bLw_tell 9 = .ok (.goto (6), 3) := by decide +kernel
theorem dLw_tell_12 : decode bLw_tell 12 = .ok (.astore_n 3, 1) := by decide +kernel
theorem dLw_tell_13 : decode bLw_tell 13 = .ok (.iconst 1, 1) := by decide +kernel
theorem dLw_tell_14 : decode bLw_tell 14 = .ok (.ireturn, 1) := by decide +kernel
theorem dLw_tell_15 : decode bLw_tell 15 = .ok (.iconst 0, 1) := by decide +kernel
theorem dLw_tell_16 : decode bLw_tell 16 = .ok (.ireturn, 1) := by decide +kernel
theorem dLw_bound_0 : decode bLw_bound 0 = .ok (.aload_n 2, 1) := by decide +kernel
theorem dLw_bound_1 : decode bLw_bound 1 = .ok (.iconst 0, 1) := by decide +kernel
theorem dLw_bound_2 : decode bLw_bound 2 = .ok (.aload_n 0, 1) := by decide +kernel
theorem dLw_bound_3 : decode bLw_bound 3 = .ok (.iload_n 1, 1) := by decide +kernel
theorem dLw_bound_4 : decode bLw_bound 4 = .ok (.invokevirtual 39, 3) := by decide +kernel
theorem dLw_bound_7 : decode bLw_bound 7 = .ok (.i2l, 1) := by decide +kernel
theorem dLw_bound_8 : decode bLw_bound 8 = .ok (.lastore, 1) := by decide +kernel
theorem dLw_bound_9 : decode bLw_bound 9 = .ok (.goto (6), 3) := by decide +kernel
theorem dLw_bound_12 : decode bLw_bound 12 = .ok (.astore_n 3, 1) := by decide +kernel
theorem dLw_bound_13 : decode bLw_bound 13 = .ok (.iconst 1, 1) := by decide +kernel
theorem dLw_bound_14 : decode bLw_bound 14 = .ok (.ireturn, 1) := by decide +kernel
theorem dLw_bound_15 : decode bLw_bound 15 = .ok (.iconst 0, 1) := by decide +kernel
theorem dLw_bound_16 : decode bLw_bound 16 = .ok (.ireturn, 1) := by decide +kernel
theorem dLw_prefer_0 : decode bLw_prefer 0 = .ok (.aload_n 2, 1) := by decide +kernel
theorem dLw_prefer_1 : decode bLw_prefer 1 = .ok (.iconst 0, 1) := by decide +kernel
theorem dLw_prefer_2 : decode bLw_prefer 2 = .ok (.aload_n 0, 1) := by decide +kernel
theorem dLw_prefer_3 : decode bLw_prefer 3 = .ok (.iload_n 1, 1) := by decide +kernel
theorem dLw_prefer_4 : decode bLw_prefer 4 = .ok (.invokevirtual 42, 3) := by decide +kernel
theorem dLw_prefer_7 : decode bLw_prefer 7 = .ok (.i2l, 1) := by decide +kernel
theorem dLw_prefer_8 : decode bLw_prefer 8 = .ok (.lastore, 1) := by decide +kernel
theorem dLw_prefer_9 : decode bLw_prefer 9 = .ok (.goto (6), 3) := by decide +kernel
theorem dLw_prefer_12 : decode bLw_prefer 12 = .ok (.astore_n 3, 1) := by decide +kernel
theorem dLw_prefer_13 : decode bLw_prefer 13 = .ok (.iconst 1, 1) := by decide +kernel
theorem dLw_prefer_14 : decode bLw_prefer 14 = .ok (.ireturn, 1) := by decide +kernel
theorem dLw_prefer_15 : decode bLw_prefer 15 = .ok (.iconst 0, 1) := by decide +kernel
theorem dLw_prefer_16 : decode bLw_prefer 16 = .ok (.ireturn, 1) := by decide +kernel
theorem dLw_wrong_0 : decode bLw_wrong 0 = .ok (.aload 4, 2) := by decide +kernel
theorem dLw_wrong_2 : decode bLw_wrong 2 = .ok (.iconst 0, 1) := by decide +kernel
theorem dLw_wrong_3 : decode bLw_wrong 3 = .ok (.aload_n 0, 1) := by decide +kernel
theorem dLw_wrong_4 : decode bLw_wrong 4 = .ok (.iload_n 1, 1) := by decide +kernel
theorem dLw_wrong_5 : decode bLw_wrong 5 = .ok (.iload_n 2, 1) := by decide +kernel
theorem dLw_wrong_6 : decode bLw_wrong 6 = .ok (.iload_n 3, 1) := by decide +kernel
theorem dLw_wrong_7 : decode bLw_wrong 7 = .ok (.invokevirtual 45, 3) := by decide +kernel
theorem dLw_wrong_10 : decode bLw_wrong 10 = .ok (.i2l, 1) := by decide +kernel
theorem dLw_wrong_11 : decode bLw_wrong 11 = .ok (.lastore, 1) := by decide +kernel
theorem dLw_wrong_12 : decode bLw_wrong 12 = .ok (.goto (7), 3) := by decide +kernel
theorem dLw_wrong_15 : decode bLw_wrong 15 = .ok (.astore 5, 2) := by decide +kernel
theorem dLw_wrong_17 : decode bLw_wrong 17 = .ok (.iconst 1, 1) := by decide +kernel
theorem dLw_wrong_18 : decode bLw_wrong 18 = .ok (.ireturn, 1) := by decide +kernel
theorem dLw_wrong_19 : decode bLw_wrong 19 = .ok (.iconst 0, 1) := by decide +kernel
theorem dLw_wrong_20 : decode bLw_wrong 20 = .ok (.ireturn, 1) := by decide +kernel
theorem dLw_right_0 : decode bLw_right 0 = .ok (.aload_n 2, 1) := by decide +kernel
theorem dLw_right_1 : decode bLw_right 1 = .ok (.iconst 0, 1) := by decide +kernel
theorem dLw_right_2 : decode bLw_right 2 = .ok (.aload_n 0, 1) := by decide +kernel
theorem dLw_right_3 : decode bLw_right 3 = .ok (.iload_n 1, 1) := by decide +kernel
theorem dLw_right_4 : decode bLw_right 4 = .ok (.invokevirtual 49, 3) := by decide +kernel
theorem dLw_right_7 : decode bLw_right 7 = .ok (.i2l, 1) := by decide +kernel
theorem dLw_right_8 : decode bLw_right 8 = .ok (.lastore, 1) := by decide +kernel
theorem dLw_right_9 : decode bLw_right 9 = .ok (.goto (6), 3) := by decide +kernel
theorem dLw_right_12 : decode bLw_right 12 = .ok (.astore_n 3, 1) := by decide +kernel
theorem dLw_right_13 : decode bLw_right 13 = .ok (.iconst 1, 1) := by decide +kernel
theorem dLw_right_14 : decode bLw_right 14 = .ok (.ireturn, 1) := by decide +kernel
theorem dLw_right_15 : decode bLw_right 15 = .ok (.iconst 0, 1) := by decide +kernel
theorem dLw_right_16 : decode bLw_right 16 = .ok (.ireturn, 1) := by decide +kernel
theorem dLw_best_0 : decode bLw_best 0 = .ok (.aload_n 2, 1) := by decide +kernel
theorem dLw_best_1 : decode bLw_best 1 = .ok (.iconst 0, 1) := by decide +kernel
theorem dLw_best_2 : decode bLw_best 2 = .ok (.aload_n 0, 1) := by decide +kernel
theorem dLw_best_3 : decode bLw_best 3 = .ok (.iload_n 1, 1) := by decide +kernel
theorem dLw_best_4 : decode bLw_best 4 = .ok (.invokevirtual 52, 3) := by decide +kernel
theorem dLw_best_7 : decode bLw_best 7 = .ok (.i2l, 1) := by decide +kernel
theorem dLw_best_8 : decode bLw_best 8 = .ok (.lastore, 1) := by decide +kernel
theorem dLw_best_9 : decode bLw_best 9 = .ok (.goto (6), 3) := by decide +kernel
theorem dLw_best_12 : decode bLw_best 12 = .ok (.astore_n 3, 1) := by decide +kernel
theorem dLw_best_13 : decode bLw_best 13 = .ok (.iconst 1, 1) := by decide +kernel
theorem dLw_best_14 : decode bLw_best 14 = .ok (.ireturn, 1) := by decide +kernel
theorem dLw_best_15 : decode bLw_best 15 = .ok (.iconst 0, 1) := by decide +kernel
theorem dLw_best_16 : decode bLw_best 16 = .ok (.ireturn, 1) := by decide +kernel
theorem dLw_mixed_0 : decode bLw_mixed 0 = .ok (.aload_n 3, 1) := by decide +kernel
theorem dLw_mixed_1 : decode bLw_mixed 1 = .ok (.iconst 0, 1) := by decide +kernel
theorem dLw_mixed_2 : decode bLw_mixed 2 = .ok (.aload_n 0, 1) := by decide +kernel
theorem dLw_mixed_3 : decode bLw_mixed 3 = .ok (.iload_n 1, 1) := by decide +kernel
theorem dLw_mixed_4 : decode bLw_mixed 4 = .ok (.iload_n 2, 1) := by decide +kernel
theorem dLw_mixed_5 : decode bLw_mixed 5 = .ok (.invokevirtual 55, 3) := by decide +kernel
theorem dLw_mixed_8 : decode bLw_mixed 8 = .ok (.i2l, 1) := by decide +kernel
theorem dLw_mixed_9 : decode bLw_mixed 9 = .ok (.lastore, 1) := by decide +kernel
theorem dLw_mixed_10 : decode bLw_mixed 10 = .ok (.goto (7), 3) := by decide +kernel
theorem dLw_mixed_13 : decode bLw_mixed 13 = .ok (.astore 4, 2) := by decide +kernel
theorem dLw_mixed_15 : decode bLw_mixed 15 = .ok (.iconst 1, 1) := by decide +kernel
theorem dLw_mixed_16 : decode bLw_mixed 16 = .ok (.ireturn, 1) := by decide +kernel
theorem dLw_mixed_17 : decode bLw_mixed 17 = .ok (.iconst 0, 1) := by decide +kernel
theorem dLw_mixed_18 : decode bLw_mixed 18 = .ok (.ireturn, 1) := by decide +kernel
theorem dLw_groups_0 : decode bLw_groups 0 = .ok (.aload_n 2, 1) := by decide +kernel
theorem dLw_groups_1 : decode bLw_groups 1 = .ok (.iconst 0, 1) := by decide +kernel
theorem dLw_groups_2 : decode bLw_groups 2 = .ok (.aload_n 0, 1) := by decide +kernel
theorem dLw_groups_3 : decode bLw_groups 3 = .ok (.iload_n 1, 1) := by decide +kernel
theorem dLw_groups_4 : decode bLw_groups 4 = .ok (.invokevirtual 58, 3) := by decide +kernel
theorem dLw_groups_7 : decode bLw_groups 7 = .ok (.i2l, 1) := by decide +kernel
theorem dLw_groups_8 : decode bLw_groups 8 = .ok (.lastore, 1) := by decide +kernel
theorem dLw_groups_9 : decode bLw_groups 9 = .ok (.goto (6), 3) := by decide +kernel
theorem dLw_groups_12 : decode bLw_groups 12 = .ok (.astore_n 3, 1) := by decide +kernel
theorem dLw_groups_13 : decode bLw_groups 13 = .ok (.iconst 1, 1) := by decide +kernel
theorem dLw_groups_14 : decode bLw_groups 14 = .ok (.ireturn, 1) := by decide +kernel
theorem dLw_groups_15 : decode bLw_groups 15 = .ok (.iconst 0, 1) := by decide +kernel
theorem dLw_groups_16 : decode bLw_groups 16 = .ok (.ireturn, 1) := by decide +kernel
theorem dLw_nearest_0 : decode bLw_nearest 0 = .ok (.aload_n 3, 1) := by decide +kernel
theorem dLw_nearest_1 : decode bLw_nearest 1 = .ok (.iconst 0, 1) := by decide +kernel
theorem dLw_nearest_2 : decode bLw_nearest 2 = .ok (.aload_n 0, 1) := by decide +kernel
theorem dLw_nearest_3 : decode bLw_nearest 3 = .ok (.iload_n 1, 1) := by decide +kernel
theorem dLw_nearest_4 : decode bLw_nearest 4 = .ok (.iload_n 2, 1) := by decide +kernel
theorem dLw_nearest_5 : decode bLw_nearest 5 = .ok (.invokevirtual 61, 3) := by decide +kernel
theorem dLw_nearest_8 : decode bLw_nearest 8 = .ok (.i2l, 1) := by decide +kernel
theorem dLw_nearest_9 : decode bLw_nearest 9 = .ok (.lastore, 1) := by decide +kernel
theorem dLw_nearest_10 : decode bLw_nearest 10 = .ok (.goto (11), 3) := by decide +kernel
theorem dLw_nearest_13 : decode bLw_nearest 13 = .ok (.astore 4, 2) := by decide +kernel
theorem dLw_nearest_15 : decode bLw_nearest 15 = .ok (.iconst 1, 1) := by decide +kernel
theorem dLw_nearest_16 : decode bLw_nearest 16 = .ok (.ireturn, 1) := by decide +kernel
theorem dLw_nearest_17 : decode bLw_nearest 17 = .ok (.astore 4, 2) := by decide +kernel
theorem dLw_nearest_19 : decode bLw_nearest 19 = .ok (.iconst 2, 1) := by decide +kernel
theorem dLw_nearest_20 : decode bLw_nearest 20 = .ok (.ireturn, 1) := by decide +kernel
theorem dLw_nearest_21 : decode bLw_nearest 21 = .ok (.iconst 0, 1) := by decide +kernel
theorem dLw_nearest_22 : decode bLw_nearest 22 = .ok (.ireturn, 1) := by decide +kernel
theorem dLw_distance_0 : decode bLw_distance 0 = .ok (.aload_n 3, 1) := by decide +kernel
theorem dLw_distance_1 : decode bLw_distance 1 = .ok (.iconst 0, 1) := by decide +kernel
theorem dLw_distance_2 : decode bLw_distance 2 = .ok (.aload_n 0, 1) := by decide +kernel
theorem dLw_distance_3 : decode bLw_distance 3 = .ok (.iload_n 1, 1) := by decide +kernel
theorem dLw_distance_4 : decode bLw_distance 4 = .ok (.iload_n 2, 1) := by decide +kernel
theorem dLw_distance_5 : decode bLw_distance 5 = .ok (.invokevirtual 64, 3) := by decide +kernel
theorem dLw_distance_8 : decode bLw_distance 8 = .ok (.i2l, 1) := by decide +kernel
theorem dLw_distance_9 : decode bLw_distance 9 = .ok (.lastore, 1) := by decide +kernel
theorem dLw_distance_10 : decode bLw_distance 10 = .ok (.goto (7), 3) := by decide +kernel
theorem dLw_distance_13 : decode bLw_distance 13 = .ok (.astore 4, 2) := by decide +kernel
theorem dLw_distance_15 : decode bLw_distance 15 = .ok (.iconst 1, 1) := by decide +kernel
theorem dLw_distance_16 : decode bLw_distance 16 = .ok (.ireturn, 1) := by decide +kernel
theorem dLw_distance_17 : decode bLw_distance 17 = .ok (.iconst 0, 1) := by decide +kernel
theorem dLw_distance_18 : decode bLw_distance 18 = .ok (.ireturn, 1) := by decide +kernel
theorem dLw_haul_0 : decode bLw_haul 0 = .ok (.aload_n 3, 1) := by decide +kernel
theorem dLw_haul_1 : decode bLw_haul 1 = .ok (.iconst 0, 1) := by decide +kernel
theorem dLw_haul_2 : decode bLw_haul 2 = .ok (.aload_n 0, 1) := by decide +kernel
theorem dLw_haul_3 : decode bLw_haul 3 = .ok (.iload_n 1, 1) := by decide +kernel
theorem dLw_haul_4 : decode bLw_haul 4 = .ok (.iload_n 2, 1) := by decide +kernel
theorem dLw_haul_5 : decode bLw_haul 5 = .ok (.invokevirtual 67, 3) := by decide +kernel
theorem dLw_haul_8 : decode bLw_haul 8 = .ok (.i2l, 1) := by decide +kernel
theorem dLw_haul_9 : decode bLw_haul 9 = .ok (.lastore, 1) := by decide +kernel
theorem dLw_haul_10 : decode bLw_haul 10 = .ok (.goto (11), 3) := by decide +kernel
theorem dLw_haul_13 : decode bLw_haul 13 = .ok (.astore 4, 2) := by decide +kernel
theorem dLw_haul_15 : decode bLw_haul 15 = .ok (.iconst 1, 1) := by decide +kernel
theorem dLw_haul_16 : decode bLw_haul 16 = .ok (.ireturn, 1) := by decide +kernel
theorem dLw_haul_17 : decode bLw_haul 17 = .ok (.astore 4, 2) := by decide +kernel
theorem dLw_haul_19 : decode bLw_haul 19 = .ok (.iconst 2, 1) := by decide +kernel
theorem dLw_haul_20 : decode bLw_haul 20 = .ok (.ireturn, 1) := by decide +kernel
theorem dLw_haul_21 : decode bLw_haul 21 = .ok (.iconst 0, 1) := by decide +kernel
theorem dLw_haul_22 : decode bLw_haul 22 = .ok (.ireturn, 1) := by decide +kernel
theorem dLw_grams_0 : decode bLw_grams 0 = .ok (.aload 4, 2) := by decide +kernel
theorem dLw_grams_2 : decode bLw_grams 2 = .ok (.iconst 0, 1) := by decide +kernel
theorem dLw_grams_3 : decode bLw_grams 3 = .ok (.aload_n 0, 1) := by decide +kernel
theorem dLw_grams_4 : decode bLw_grams 4 = .ok (.iload_n 1, 1) := by decide +kernel
theorem dLw_grams_5 : decode bLw_grams 5 = .ok (.iload_n 2, 1) := by decide +kernel
theorem dLw_grams_6 : decode bLw_grams 6 = .ok (.iload_n 3, 1) := by decide +kernel
theorem dLw_grams_7 : decode bLw_grams 7 = .ok (.invokevirtual 70, 3) := by decide +kernel
theorem dLw_grams_10 : decode bLw_grams 10 = .ok (.i2l, 1) := by decide +kernel
theorem dLw_grams_11 : decode bLw_grams 11 = .ok (.lastore, 1) := by decide +kernel
theorem dLw_grams_12 : decode bLw_grams 12 = .ok (.goto (11), 3) := by decide +kernel
theorem dLw_grams_15 : decode bLw_grams 15 = .ok (.astore 5, 2) := by decide +kernel
theorem dLw_grams_17 : decode bLw_grams 17 = .ok (.iconst 1, 1) := by decide +kernel
theorem dLw_grams_18 : decode bLw_grams 18 = .ok (.ireturn, 1) := by decide +kernel
theorem dLw_grams_19 : decode bLw_grams 19 = .ok (.astore 5, 2) := by decide +kernel
theorem dLw_grams_21 : decode bLw_grams 21 = .ok (.iconst 2, 1) := by decide +kernel
theorem dLw_grams_22 : decode bLw_grams 22 = .ok (.ireturn, 1) := by decide +kernel
theorem dLw_grams_23 : decode bLw_grams 23 = .ok (.iconst 0, 1) := by decide +kernel
theorem dLw_grams_24 : decode bLw_grams 24 = .ok (.ireturn, 1) := by decide +kernel
theorem dLw_share_0 : decode bLw_share 0 = .ok (.aload 5, 2) := by decide +kernel
theorem dLw_share_2 : decode bLw_share 2 = .ok (.iconst 0, 1) := by decide +kernel
theorem dLw_share_3 : decode bLw_share 3 = .ok (.aload_n 0, 1) := by decide +kernel
theorem dLw_share_4 : decode bLw_share 4 = .ok (.iload_n 1, 1) := by decide +kernel
theorem dLw_share_5 : decode bLw_share 5 = .ok (.iload_n 2, 1) := by decide +kernel
theorem dLw_share_6 : decode bLw_share 6 = .ok (.iload_n 3, 1) := by decide +kernel
theorem dLw_share_7 : decode bLw_share 7 = .ok (.iload 4, 2) := by decide +kernel
theorem dLw_share_9 : decode bLw_share 9 = .ok (.invokevirtual 73, 3) := by decide +kernel
theorem dLw_share_12 : decode bLw_share 12 = .ok (.lastore, 1) := by decide +kernel
theorem dLw_share_13 : decode bLw_share 13 = .ok (.goto (11), 3) := by decide +kernel
theorem dLw_share_16 : decode bLw_share 16 = .ok (.astore 6, 2) := by decide +kernel
theorem dLw_share_18 : decode bLw_share 18 = .ok (.iconst 1, 1) := by decide +kernel
theorem dLw_share_19 : decode bLw_share 19 = .ok (.ireturn, 1) := by decide +kernel
theorem dLw_share_20 : decode bLw_share 20 = .ok (.astore 6, 2) := by decide +kernel
theorem dLw_share_22 : decode bLw_share 22 = .ok (.iconst 2, 1) := by decide +kernel
theorem dLw_share_23 : decode bLw_share 23 = .ok (.ireturn, 1) := by decide +kernel
theorem dLw_share_24 : decode bLw_share 24 = .ok (.iconst 0, 1) := by decide +kernel
theorem dLw_share_25 : decode bLw_share 25 = .ok (.ireturn, 1) := by decide +kernel
theorem dLw_law_0 : decode bLw_law 0 = .ok (.aload 4, 2) := by decide +kernel
theorem dLw_law_2 : decode bLw_law 2 = .ok (.iconst 0, 1) := by decide +kernel
theorem dLw_law_3 : decode bLw_law 3 = .ok (.aload_n 0, 1) := by decide +kernel
theorem dLw_law_4 : decode bLw_law 4 = .ok (.iload_n 1, 1) := by decide +kernel
theorem dLw_law_5 : decode bLw_law 5 = .ok (.iload_n 2, 1) := by decide +kernel
theorem dLw_law_6 : decode bLw_law 6 = .ok (.iload_n 3, 1) := by decide +kernel
theorem dLw_law_7 : decode bLw_law 7 = .ok (.invokevirtual 77, 3) := by decide +kernel
theorem dLw_law_10 : decode bLw_law 10 = .ok (.i2l, 1) := by decide +kernel
theorem dLw_law_11 : decode bLw_law 11 = .ok (.lastore, 1) := by decide +kernel
theorem dLw_law_12 : decode bLw_law 12 = .ok (.goto (15), 3) := by decide +kernel
theorem dLw_law_15 : decode bLw_law 15 = .ok (.astore 5, 2) := by decide +kernel
theorem dLw_law_17 : decode bLw_law 17 = .ok (.iconst 1, 1) := by decide +kernel
theorem dLw_law_18 : decode bLw_law 18 = .ok (.ireturn, 1) := by decide +kernel
theorem dLw_law_19 : decode bLw_law 19 = .ok (.astore 5, 2) := by decide +kernel
theorem dLw_law_21 : decode bLw_law 21 = .ok (.iconst 2, 1) := by decide +kernel
theorem dLw_law_22 : decode bLw_law 22 = .ok (.ireturn, 1) := by decide +kernel
theorem dLw_law_23 : decode bLw_law 23 = .ok (.astore 5, 2) := by decide +kernel
theorem dLw_law_25 : decode bLw_law 25 = .ok (.iconst 3, 1) := by decide +kernel
theorem dLw_law_26 : decode bLw_law 26 = .ok (.ireturn, 1) := by decide +kernel
theorem dLw_law_27 : decode bLw_law 27 = .ok (.iconst 0, 1) := by decide +kernel
theorem dLw_law_28 : decode bLw_law 28 = .ok (.ireturn, 1) := by decide +kernel
theorem dLw_strength_0 : decode bLw_strength 0 = .ok (.aload_n 3, 1) := by decide +kernel
theorem dLw_strength_1 : decode bLw_strength 1 = .ok (.iconst 0, 1) := by decide +kernel
theorem dLw_strength_2 : decode bLw_strength 2 = .ok (.aload_n 0, 1) := by decide +kernel
theorem dLw_strength_3 : decode bLw_strength 3 = .ok (.iload_n 1, 1) := by decide +kernel
theorem dLw_strength_4 : decode bLw_strength 4 = .ok (.iload_n 2, 1) := by decide +kernel
theorem dLw_strength_5 : decode bLw_strength 5 = .ok (.invokevirtual 80, 3) := by decide +kernel
theorem dLw_strength_8 : decode bLw_strength 8 = .ok (.i2l, 1) := by decide +kernel
theorem dLw_strength_9 : decode bLw_strength 9 = .ok (.lastore, 1) := by decide +kernel
theorem dLw_strength_10 : decode bLw_strength 10 = .ok (.goto (7), 3) := by decide +kernel
theorem dLw_strength_13 : decode bLw_strength 13 = .ok (.astore 4, 2) := by decide +kernel
theorem dLw_strength_15 : decode bLw_strength 15 = .ok (.iconst 1, 1) := by decide +kernel
theorem dLw_strength_16 : decode bLw_strength 16 = .ok (.ireturn, 1) := by decide +kernel
theorem dLw_strength_17 : decode bLw_strength 17 = .ok (.iconst 0, 1) := by decide +kernel
theorem dLw_strength_18 : decode bLw_strength 18 = .ok (.ireturn, 1) := by decide +kernel
theorem dLw_length_0 : decode bLw_length 0 = .ok (.aload_n 3, 1) := by decide +kernel
theorem dLw_length_1 : decode bLw_length 1 = .ok (.iconst 0, 1) := by decide +kernel
theorem dLw_length_2 : decode bLw_length 2 = .ok (.aload_n 0, 1) := by decide +kernel
theorem dLw_length_3 : decode bLw_length 3 = .ok (.iload_n 1, 1) := by decide +kernel
theorem dLw_length_4 : decode bLw_length 4 = .ok (.iload_n 2, 1) := by decide +kernel
theorem dLw_length_5 : decode bLw_length 5 = .ok (.invokevirtual 83, 3) := by decide +kernel
theorem dLw_length_8 : decode bLw_length 8 = .ok (.i2l, 1) := by decide +kernel
theorem dLw_length_9 : decode bLw_length 9 = .ok (.lastore, 1) := by decide +kernel
theorem dLw_length_10 : decode bLw_length 10 = .ok (.goto (7), 3) := by decide +kernel
theorem dLw_length_13 : decode bLw_length 13 = .ok (.astore 4, 2) := by decide +kernel
theorem dLw_length_15 : decode bLw_length 15 = .ok (.iconst 1, 1) := by decide +kernel
theorem dLw_length_16 : decode bLw_length 16 = .ok (.ireturn, 1) := by decide +kernel
theorem dLw_length_17 : decode bLw_length 17 = .ok (.iconst 0, 1) := by decide +kernel
theorem dLw_length_18 : decode bLw_length 18 = .ok (.ireturn, 1) := by decide +kernel
