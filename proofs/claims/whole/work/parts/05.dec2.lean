theorem dTe_toldBy_1 : decode bTe_toldBy 1 = .ok (.iload_n 1, 1) := by decide +kernel
theorem dTe_toldBy_2 : decode bTe_toldBy 2 = .ok (.iload_n 2, 1) := by decide +kernel
theorem dTe_toldBy_3 : decode bTe_toldBy 3 = .ok (.iload_n 3, 1) := by decide +kernel
theorem dTe_toldBy_4 : decode bTe_toldBy 4 = .ok (.invokevirtual 41, 3) := by decide +kernel
theorem dTe_toldBy_7 : decode bTe_toldBy 7 = .ok (.aload_n 0, 1) := by decide +kernel
theorem dTe_toldBy_8 : decode bTe_toldBy 8 = .ok (.getfield 19, 3) := by decide +kernel
theorem dTe_toldBy_11 : decode bTe_toldBy 11 = .ok (.iconst 0, 1) := by decide +kernel
theorem dTe_toldBy_12 : decode bTe_toldBy 12 = .ok (.iaload, 1) := by decide +kernel
theorem dTe_toldBy_13 : decode bTe_toldBy 13 = .ok (.istore 4, 2) := by decide +kernel
theorem dTe_toldBy_15 : decode bTe_toldBy 15 = .ok (.iconst 1, 1) := by decide +kernel
theorem dTe_toldBy_16 : decode bTe_toldBy 16 = .ok (.istore 5, 2) := by decide +kernel
theorem dTe_toldBy_18 : decode bTe_toldBy 18 = .ok (.iload 5, 2) := by decide +kernel
theorem dTe_toldBy_20 : decode bTe_toldBy 20 = .ok (.aload_n 0, 1) := by decide +kernel
theorem dTe_toldBy_21 : decode bTe_toldBy 21 = .ok (.getfield 15, 3) := by decide +kernel
theorem dTe_toldBy_24 : decode bTe_toldBy 24 = .ok (.if_icmp .ge (40), 3) := by decide +kernel
theorem dTe_toldBy_27 : decode bTe_toldBy 27 = .ok (.aload_n 0, 1) := by decide +kernel
theorem dTe_toldBy_28 : decode bTe_toldBy 28 = .ok (.getfield 23, 3) := by decide +kernel
theorem dTe_toldBy_31 : decode bTe_toldBy 31 = .ok (.aload_n 0, 1) := by decide +kernel
theorem dTe_toldBy_32 : decode bTe_toldBy 32 = .ok (.getfield 19, 3) := by decide +kernel
theorem dTe_toldBy_35 : decode bTe_toldBy 35 = .ok (.iload 5, 2) := by decide +kernel
theorem dTe_toldBy_37 : decode bTe_toldBy 37 = .ok (.iaload, 1) := by decide +kernel
theorem dTe_toldBy_38 : decode bTe_toldBy 38 = .ok (.iaload, 1) := by decide +kernel
theorem dTe_toldBy_39 : decode bTe_toldBy 39 = .ok (.aload_n 0, 1) := by decide +kernel
theorem dTe_toldBy_40 : decode bTe_toldBy 40 = .ok (.getfield 23, 3) := by decide +kernel
theorem dTe_toldBy_43 : decode bTe_toldBy 43 = .ok (.iload 4, 2) := by decide +kernel
theorem dTe_toldBy_45 : decode bTe_toldBy 45 = .ok (.iaload, 1) := by decide +kernel
theorem dTe_toldBy_46 : decode bTe_toldBy 46 = .ok (.if_icmp .le (12), 3) := by decide +kernel
theorem dTe_toldBy_49 : decode bTe_toldBy 49 = .ok (.aload_n 0, 1) := by decide +kernel
theorem dTe_toldBy_50 : decode bTe_toldBy 50 = .ok (.getfield 19, 3) := by decide +kernel
theorem dTe_toldBy_53 : decode bTe_toldBy 53 = .ok (.iload 5, 2) := by decide +kernel
theorem dTe_toldBy_55 : decode bTe_toldBy 55 = .ok (.iaload, 1) := by decide +kernel
theorem dTe_toldBy_56 : decode bTe_toldBy 56 = .ok (.istore 4, 2) := by decide +kernel
theorem dTe_toldBy_58 : decode bTe_toldBy 58 = .ok (.iinc 5 (1), 3) := by decide +kernel
theorem dTe_toldBy_61 : decode bTe_toldBy 61 = .ok (.goto (-43), 3) := by decide +kernel
theorem dTe_toldBy_64 : decode bTe_toldBy 64 = .ok (.aload_n 0, 1) := by decide +kernel
theorem dTe_toldBy_65 : decode bTe_toldBy 65 = .ok (.getfield 23, 3) := by decide +kernel
theorem dTe_toldBy_68 : decode bTe_toldBy 68 = .ok (.iload 4, 2) := by decide +kernel
theorem dTe_toldBy_70 : decode bTe_toldBy 70 = .ok (.iaload, 1) := by decide +kernel
theorem dTe_toldBy_71 : decode bTe_toldBy 71 = .ok (.aload_n 0, 1) := by decide +kernel
theorem dTe_toldBy_72 : decode bTe_toldBy 72 = .ok (.getfield 34, 3) := by decide +kernel
theorem dTe_toldBy_75 : decode bTe_toldBy 75 = .ok (.if_icmp .ge (7), 3) := by decide +kernel
theorem dTe_toldBy_78 : decode bTe_toldBy 78 = .ok (.iconst (-1), 1) := by decide +kernel
theorem dTe_toldBy_79 : decode bTe_toldBy 79 = .ok (.goto (5), 3) := by decide +kernel
theorem dTe_toldBy_82 : decode bTe_toldBy 82 = .ok (.iload 4, 2) := by decide +kernel
theorem dTe_toldBy_84 : decode bTe_toldBy 84 = .ok (.ireturn, 1) := by decide +kernel
theorem dTe_countTold_0 : decode bTe_countTold 0 = .ok (.iconst 0, 1) := by decide +kernel
theorem dTe_countTold_1 : decode bTe_countTold 1 = .ok (.istore_n 3, 1) := by decide +kernel
theorem dTe_countTold_2 : decode bTe_countTold 2 = .ok (.iconst 0, 1) := by decide +kernel
theorem dTe_countTold_3 : decode bTe_countTold 3 = .ok (.istore 4, 2) := by decide +kernel
theorem dTe_countTold_5 : decode bTe_countTold 5 = .ok (.iload 4, 2) := by decide +kernel
theorem dTe_countTold_7 : decode bTe_countTold 7 = .ok (.aload_n 0, 1) := by decide +kernel
theorem dTe_countTold_8 : decode bTe_countTold 8 = .ok (.getfield 9, 3) := by decide +kernel
theorem dTe_countTold_11 : decode bTe_countTold 11 = .ok (.getfield 49, 3) := by decide +kernel
theorem dTe_countTold_14 : decode bTe_countTold 14 = .ok (.if_icmp .ge (36), 3) := by decide +kernel
theorem dTe_countTold_17 : decode bTe_countTold 17 = .ok (.aload_n 0, 1) := by decide +kernel
theorem dTe_countTold_18 : decode bTe_countTold 18 = .ok (.getfield 9, 3) := by decide +kernel
theorem dTe_countTold_21 : decode bTe_countTold 21 = .ok (.getfield 52, 3) := by decide +kernel
theorem dTe_countTold_24 : decode bTe_countTold 24 = .ok (.iload 4, 2) := by decide +kernel
theorem dTe_countTold_26 : decode bTe_countTold 26 = .ok (.iaload, 1) := by decide +kernel
theorem dTe_countTold_27 : decode bTe_countTold 27 = .ok (.iload_n 1, 1) := by decide +kernel
theorem dTe_countTold_28 : decode bTe_countTold 28 = .ok (.if_icmp .ne (16), 3) := by decide +kernel
theorem dTe_countTold_31 : decode bTe_countTold 31 = .ok (.aload_n 0, 1) := by decide +kernel
theorem dTe_countTold_32 : decode bTe_countTold 32 = .ok (.iload 4, 2) := by decide +kernel
theorem dTe_countTold_34 : decode bTe_countTold 34 = .ok (.invokevirtual 59, 3) := by decide +kernel
theorem dTe_countTold_37 : decode bTe_countTold 37 = .ok (.iload_n 2, 1) := by decide +kernel
theorem dTe_countTold_38 : decode bTe_countTold 38 = .ok (.if_icmp .ne (6), 3) := by decide +kernel
theorem dTe_countTold_41 : decode bTe_countTold 41 = .ok (.iinc 3 (1), 3) := by decide +kernel
theorem dTe_countTold_44 : decode bTe_countTold 44 = .ok (.iinc 4 (1), 3) := by decide +kernel
theorem dTe_countTold_47 : decode bTe_countTold 47 = .ok (.goto (-42), 3) := by decide +kernel
theorem dTe_countTold_50 : decode bTe_countTold 50 = .ok (.iload_n 3, 1) := by decide +kernel
theorem dTe_countTold_51 : decode bTe_countTold 51 = .ok (.ireturn, 1) := by decide +kernel
theorem dTe_countUnknown_0 : decode bTe_countUnknown 0 = .ok (.iconst 0, 1) := by decide +kernel
theorem dTe_countUnknown_1 : decode bTe_countUnknown 1 = .ok (.istore_n 1, 1) := by decide +kernel
theorem dTe_countUnknown_2 : decode bTe_countUnknown 2 = .ok (.iconst 0, 1) := by decide +kernel
theorem dTe_countUnknown_3 : decode bTe_countUnknown 3 = .ok (.istore_n 2, 1) := by decide +kernel
theorem dTe_countUnknown_4 : decode bTe_countUnknown 4 = .ok (.iload_n 2, 1) := by decide +kernel
theorem dTe_countUnknown_5 : decode bTe_countUnknown 5 = .ok (.aload_n 0, 1) := by decide +kernel
theorem dTe_countUnknown_6 : decode bTe_countUnknown 6 = .ok (.getfield 9, 3) := by decide +kernel
theorem dTe_countUnknown_9 : decode bTe_countUnknown 9 = .ok (.getfield 49, 3) := by decide +kernel
theorem dTe_countUnknown_12 : decode bTe_countUnknown 12 = .ok (.if_icmp .ge (21), 3) := by decide +kernel
theorem dTe_countUnknown_15 : decode bTe_countUnknown 15 = .ok (.aload_n 0, 1) := by decide +kernel
theorem dTe_countUnknown_16 : decode bTe_countUnknown 16 = .ok (.iload_n 2, 1) := by decide +kernel
theorem dTe_countUnknown_17 : decode bTe_countUnknown 17 = .ok (.invokevirtual 59, 3) := by decide +kernel
theorem dTe_countUnknown_20 : decode bTe_countUnknown 20 = .ok (.iconst (-1), 1) := by decide +kernel
theorem dTe_countUnknown_21 : decode bTe_countUnknown 21 = .ok (.if_icmp .ne (6), 3) := by decide +kernel
theorem dTe_countUnknown_24 : decode bTe_countUnknown 24 = .ok (.iinc 1 (1), 3) := by decide +kernel
theorem dTe_countUnknown_27 : decode bTe_countUnknown 27 = .ok (.iinc 2 (1), 3) := by decide +kernel
theorem dTe_countUnknown_30 : decode bTe_countUnknown 30 = .ok (.goto (-26), 3) := by decide +kernel
theorem dTe_countUnknown_33 : decode bTe_countUnknown 33 = .ok (.iload_n 1, 1) := by decide +kernel
theorem dTe_countUnknown_34 : decode bTe_countUnknown 34 = .ok (.ireturn, 1) := by decide +kernel
theorem dTe_rightBy_0 : decode bTe_rightBy 0 = .ok (.iconst 0, 1) := by decide +kernel
theorem dTe_rightBy_1 : decode bTe_rightBy 1 = .ok (.istore_n 2, 1) := by decide +kernel
theorem dTe_rightBy_2 : decode bTe_rightBy 2 = .ok (.iconst 0, 1) := by decide +kernel
theorem dTe_rightBy_3 : decode bTe_rightBy 3 = .ok (.istore_n 3, 1) := by decide +kernel
theorem dTe_rightBy_4 : decode bTe_rightBy 4 = .ok (.iload_n 3, 1) := by decide +kernel
theorem dTe_rightBy_5 : decode bTe_rightBy 5 = .ok (.aload_n 0, 1) := by decide +kernel
theorem dTe_rightBy_6 : decode bTe_rightBy 6 = .ok (.getfield 9, 3) := by decide +kernel
theorem dTe_rightBy_9 : decode bTe_rightBy 9 = .ok (.getfield 49, 3) := by decide +kernel
theorem dTe_rightBy_12 : decode bTe_rightBy 12 = .ok (.if_icmp .ge (43), 3) := by decide +kernel
theorem dTe_rightBy_15 : decode bTe_rightBy 15 = .ok (.aload_n 0, 1) := by decide +kernel
theorem dTe_rightBy_16 : decode bTe_rightBy 16 = .ok (.getfield 9, 3) := by decide +kernel
theorem dTe_rightBy_19 : decode bTe_rightBy 19 = .ok (.getfield 52, 3) := by decide +kernel
theorem dTe_rightBy_22 : decode bTe_rightBy 22 = .ok (.iload_n 3, 1) := by decide +kernel
theorem dTe_rightBy_23 : decode bTe_rightBy 23 = .ok (.iaload, 1) := by decide +kernel
theorem dTe_rightBy_24 : decode bTe_rightBy 24 = .ok (.istore 4, 2) := by decide +kernel
theorem dTe_rightBy_26 : decode bTe_rightBy 26 = .ok (.iload 4, 2) := by decide +kernel
theorem dTe_rightBy_28 : decode bTe_rightBy 28 = .ok (.iconst (-1), 1) := by decide +kernel
theorem dTe_rightBy_29 : decode bTe_rightBy 29 = .ok (.if_icmp .eq (20), 3) := by decide +kernel
theorem dTe_rightBy_32 : decode bTe_rightBy 32 = .ok (.aload_n 0, 1) := by decide +kernel
theorem dTe_rightBy_33 : decode bTe_rightBy 33 = .ok (.iload_n 3, 1) := by decide +kernel
theorem dTe_rightBy_34 : decode bTe_rightBy 34 = .ok (.iload_n 1, 1) := by decide +kernel
theorem dTe_rightBy_35 : decode bTe_rightBy 35 = .ok (.iload_n 1, 1) := by decide +kernel
theorem dTe_rightBy_36 : decode bTe_rightBy 36 = .ok (.iconst 1, 1) := by decide +kernel
theorem dTe_rightBy_37 : decode bTe_rightBy 37 = .ok (.iadd, 1) := by decide +kernel
theorem dTe_rightBy_38 : decode bTe_rightBy 38 = .ok (.invokevirtual 45, 3) := by decide +kernel
theorem dTe_rightBy_41 : decode bTe_rightBy 41 = .ok (.iload 4, 2) := by decide +kernel
theorem dTe_rightBy_43 : decode bTe_rightBy 43 = .ok (.if_icmp .ne (6), 3) := by decide +kernel
theorem dTe_rightBy_46 : decode bTe_rightBy 46 = .ok (.iinc 2 (1), 3) := by decide +kernel
theorem dTe_rightBy_49 : decode bTe_rightBy 49 = .ok (.iinc 3 (1), 3) := by decide +kernel
theorem dTe_rightBy_52 : decode bTe_rightBy 52 = .ok (.goto (-48), 3) := by decide +kernel
theorem dTe_rightBy_55 : decode bTe_rightBy 55 = .ok (.iload_n 2, 1) := by decide +kernel
theorem dTe_rightBy_56 : decode bTe_rightBy 56 = .ok (.ireturn, 1) := by decide +kernel
theorem dTe_featureAt_0 : decode bTe_featureAt 0 = .ok (.iconst 0, 1) := by decide +kernel
theorem dTe_featureAt_1 : decode bTe_featureAt 1 = .ok (.istore_n 2, 1) := by decide +kernel
theorem dTe_featureAt_2 : decode bTe_featureAt 2 = .ok (.iload_n 2, 1) := by decide +kernel
theorem dTe_featureAt_3 : decode bTe_featureAt 3 = .ok (.aload_n 0, 1) := by decide +kernel
theorem dTe_featureAt_4 : decode bTe_featureAt 4 = .ok (.getfield 9, 3) := by decide +kernel
theorem dTe_featureAt_7 : decode bTe_featureAt 7 = .ok (.getfield 26, 3) := by decide +kernel
theorem dTe_featureAt_10 : decode bTe_featureAt 10 = .ok (.if_icmp .ge (20), 3) := by decide +kernel
theorem dTe_featureAt_13 : decode bTe_featureAt 13 = .ok (.aload_n 0, 1) := by decide +kernel
theorem dTe_featureAt_14 : decode bTe_featureAt 14 = .ok (.getfield 31, 3) := by decide +kernel
theorem dTe_featureAt_17 : decode bTe_featureAt 17 = .ok (.iload_n 2, 1) := by decide +kernel
theorem dTe_featureAt_18 : decode bTe_featureAt 18 = .ok (.aload_n 0, 1) := by decide +kernel
theorem dTe_featureAt_19 : decode bTe_featureAt 19 = .ok (.iload_n 2, 1) := by decide +kernel
theorem dTe_featureAt_20 : decode bTe_featureAt 20 = .ok (.invokevirtual 62, 3) := by decide +kernel
theorem dTe_featureAt_23 : decode bTe_featureAt 23 = .ok (.iastore, 1) := by decide +kernel
theorem dTe_featureAt_24 : decode bTe_featureAt 24 = .ok (.iinc 2 (1), 3) := by decide +kernel
theorem dTe_featureAt_27 : decode bTe_featureAt 27 = .ok (.goto (-25), 3) := by decide +kernel
theorem dTe_featureAt_30 : decode bTe_featureAt 30 = .ok (.iconst 0, 1) := by decide +kernel
theorem dTe_featureAt_31 : decode bTe_featureAt 31 = .ok (.istore_n 2, 1) := by decide +kernel
theorem dTe_featureAt_32 : decode bTe_featureAt 32 = .ok (.iload_n 2, 1) := by decide +kernel
theorem dTe_featureAt_33 : decode bTe_featureAt 33 = .ok (.aload_n 0, 1) := by decide +kernel
theorem dTe_featureAt_34 : decode bTe_featureAt 34 = .ok (.getfield 9, 3) := by decide +kernel
theorem dTe_featureAt_37 : decode bTe_featureAt 37 = .ok (.getfield 26, 3) := by decide +kernel
theorem dTe_featureAt_40 : decode bTe_featureAt 40 = .ok (.if_icmp .ge (20), 3) := by decide +kernel
theorem dTe_featureAt_43 : decode bTe_featureAt 43 = .ok (.aload_n 0, 1) := by decide +kernel
theorem dTe_featureAt_44 : decode bTe_featureAt 44 = .ok (.iload_n 2, 1) := by decide +kernel
theorem dTe_featureAt_45 : decode bTe_featureAt 45 = .ok (.invokevirtual 65, 3) := by decide +kernel
theorem dTe_featureAt_48 : decode bTe_featureAt 48 = .ok (.iload_n 1, 1) := by decide +kernel
theorem dTe_featureAt_49 : decode bTe_featureAt 49 = .ok (.if_icmp .ne (5), 3) := by decide +kernel
theorem dTe_featureAt_52 : decode bTe_featureAt 52 = .ok (.iload_n 2, 1) := by decide +kernel
theorem dTe_featureAt_53 : decode bTe_featureAt 53 = .ok (.ireturn, 1) := by decide +kernel
theorem dTe_featureAt_54 : decode bTe_featureAt 54 = .ok (.iinc 2 (1), 3) := by decide +kernel
theorem dTe_featureAt_57 : decode bTe_featureAt 57 = .ok (.goto (-25), 3) := by decide +kernel
theorem dTe_featureAt_60 : decode bTe_featureAt 60 = .ok (.iconst (-1), 1) := by decide +kernel
theorem dTe_featureAt_61 : decode bTe_featureAt 61 = .ok (.ireturn, 1) := by decide +kernel
theorem dTe_countBefore_0 : decode bTe_countBefore 0 = .ok (.iconst 0, 1) := by decide +kernel
theorem dTe_countBefore_1 : decode bTe_countBefore 1 = .ok (.istore_n 2, 1) := by decide +kernel
theorem dTe_countBefore_2 : decode bTe_countBefore 2 = .ok (.iconst 0, 1) := by decide +kernel
theorem dTe_countBefore_3 : decode bTe_countBefore 3 = .ok (.istore_n 3, 1) := by decide +kernel
theorem dTe_countBefore_4 : decode bTe_countBefore 4 = .ok (.iload_n 3, 1) := by decide +kernel
theorem dTe_countBefore_5 : decode bTe_countBefore 5 = .ok (.aload_n 0, 1) := by decide +kernel
theorem dTe_countBefore_6 : decode bTe_countBefore 6 = .ok (.getfield 9, 3) := by decide +kernel
theorem dTe_countBefore_9 : decode bTe_countBefore 9 = .ok (.getfield 26, 3) := by decide +kernel
theorem dTe_countBefore_12 : decode bTe_countBefore 12 = .ok (.if_icmp .ge (59), 3) := by decide +kernel
theorem dTe_countBefore_15 : decode bTe_countBefore 15 = .ok (.aload_n 0, 1) := by decide +kernel
theorem dTe_countBefore_16 : decode bTe_countBefore 16 = .ok (.getfield 31, 3) := by decide +kernel
theorem dTe_countBefore_19 : decode bTe_countBefore 19 = .ok (.iload_n 3, 1) := by decide +kernel
theorem dTe_countBefore_20 : decode bTe_countBefore 20 = .ok (.iaload, 1) := by decide +kernel
theorem dTe_countBefore_21 : decode bTe_countBefore 21 = .ok (.aload_n 0, 1) := by decide +kernel
theorem dTe_countBefore_22 : decode bTe_countBefore 22 = .ok (.getfield 31, 3) := by decide +kernel
theorem dTe_countBefore_25 : decode bTe_countBefore 25 = .ok (.iload_n 1, 1) := by decide +kernel
theorem dTe_countBefore_26 : decode bTe_countBefore 26 = .ok (.iaload, 1) := by decide +kernel
theorem dTe_countBefore_27 : decode bTe_countBefore 27 = .ok (.if_icmp .ne (12), 3) := by decide +kernel
theorem dTe_countBefore_30 : decode bTe_countBefore 30 = .ok (.iload_n 3, 1) := by decide +kernel
theorem dTe_countBefore_31 : decode bTe_countBefore 31 = .ok (.iload_n 1, 1) := by decide +kernel
theorem dTe_countBefore_32 : decode bTe_countBefore 32 = .ok (.if_icmp .ge (7), 3) := by decide +kernel
theorem dTe_countBefore_35 : decode bTe_countBefore 35 = .ok (.iconst 1, 1) := by decide +kernel
theorem dTe_countBefore_36 : decode bTe_countBefore 36 = .ok (.goto (4), 3) := by decide +kernel
theorem dTe_countBefore_39 : decode bTe_countBefore 39 = .ok (.iconst 0, 1) := by decide +kernel
theorem dTe_countBefore_40 : decode bTe_countBefore 40 = .ok (.istore 4, 2) := by decide +kernel
theorem dTe_countBefore_42 : decode bTe_countBefore 42 = .ok (.aload_n 0, 1) := by decide +kernel
theorem dTe_countBefore_43 : decode bTe_countBefore 43 = .ok (.getfield 31, 3) := by decide +kernel
theorem dTe_countBefore_46 : decode bTe_countBefore 46 = .ok (.iload_n 3, 1) := by decide +kernel
theorem dTe_countBefore_47 : decode bTe_countBefore 47 = .ok (.iaload, 1) := by decide +kernel
theorem dTe_countBefore_48 : decode bTe_countBefore 48 = .ok (.aload_n 0, 1) := by decide +kernel
theorem dTe_countBefore_49 : decode bTe_countBefore 49 = .ok (.getfield 31, 3) := by decide +kernel
theorem dTe_countBefore_52 : decode bTe_countBefore 52 = .ok (.iload_n 1, 1) := by decide +kernel
theorem dTe_countBefore_53 : decode bTe_countBefore 53 = .ok (.iaload, 1) := by decide +kernel
theorem dTe_countBefore_54 : decode bTe_countBefore 54 = .ok (.if_icmp .gt (8), 3) := by decide +kernel
theorem dTe_countBefore_57 : decode bTe_countBefore 57 = .ok (.iload 4, 2) := by decide +kernel
theorem dTe_countBefore_59 : decode bTe_countBefore 59 = .ok (.ifCond .eq (6), 3) := by decide +kernel
theorem dTe_countBefore_62 : decode bTe_countBefore 62 = .ok (.iinc 2 (1), 3) := by decide +kernel
theorem dTe_countBefore_65 : decode bTe_countBefore 65 = .ok (.iinc 3 (1), 3) := by decide +kernel
theorem dTe_countBefore_68 : decode bTe_countBefore 68 = .ok (.goto (-64), 3) := by decide +kernel
theorem dTe_countBefore_71 : decode bTe_countBefore 71 = .ok (.iload_n 2, 1) := by decide +kernel
theorem dTe_countBefore_72 : decode bTe_countBefore 72 = .ok (.ireturn, 1) := by decide +kernel
theorem dHa_init_0 : decode bHa_init 0 = .ok (.aload_n 0, 1) := by decide +kernel
theorem dHa_init_1 : decode bHa_init 1 = .ok (.invokespecial 3, 3) := by decide +kernel
theorem dHa_init_4 : decode bHa_init 4 = .ok (.aload_n 0, 1) := by decide +kernel
theorem dHa_init_5 : decode bHa_init 5 = .ok (.iload_n 1, 1) := by decide +kernel
theorem dHa_init_6 : decode bHa_init 6 = .ok (.putfield 9, 3) := by decide +kernel
theorem dHa_init_9 : decode bHa_init 9 = .ok (.aload_n 0, 1) := by decide +kernel
theorem dHa_init_10 : decode bHa_init 10 = .ok (.bipush (12), 2) := by decide +kernel
theorem dHa_init_12 : decode bHa_init 12 = .ok (.newarray .int, 2) := by decide +kernel
theorem dHa_init_14 : decode bHa_init 14 = .ok (.putfield 15, 3) := by decide +kernel
theorem dHa_init_17 : decode bHa_init 17 = .ok (.aload_n 0, 1) := by decide +kernel
theorem dHa_init_18 : decode bHa_init 18 = .ok (.bipush (12), 2) := by decide +kernel
theorem dHa_init_20 : decode bHa_init 20 = .ok (.newarray .int, 2) := by decide +kernel
theorem dHa_init_22 : decode bHa_init 22 = .ok (.putfield 19, 3) := by decide +kernel
theorem dHa_init_25 : decode bHa_init 25 = .ok (.aload_n 0, 1) := by decide +kernel
theorem dHa_init_26 : decode bHa_init 26 = .ok (.bipush (12), 2) := by decide +kernel
theorem dHa_init_28 : decode bHa_init 28 = .ok (.iload_n 1, 1) := by decide +kernel
theorem dHa_init_29 : decode bHa_init 29 = .ok (.multianewarray 22 2, 4) := by decide +kernel
theorem dHa_init_33 : decode bHa_init 33 = .ok (.putfield 24, 3) := by decide +kernel
theorem dHa_init_36 : decode bHa_init 36 = .ok (.return_, 1) := by decide +kernel
theorem dHa_add_0 : decode bHa_add 0 = .ok (.aload_n 0, 1) := by decide +kernel
theorem dHa_add_1 : decode bHa_add 1 = .ok (.getfield 15, 3) := by decide +kernel
theorem dHa_add_4 : decode bHa_add 4 = .ok (.aload_n 0, 1) := by decide +kernel
theorem dHa_add_5 : decode bHa_add 5 = .ok (.getfield 27, 3) := by decide +kernel
theorem dHa_add_8 : decode bHa_add 8 = .ok (.iload_n 1, 1) := by decide +kernel
theorem dHa_add_9 : decode bHa_add 9 = .ok (.iastore, 1) := by decide +kernel
theorem dHa_add_10 : decode bHa_add 10 = .ok (.aload_n 0, 1) := by decide +kernel
theorem dHa_add_11 : decode bHa_add 11 = .ok (.getfield 19, 3) := by decide +kernel
theorem dHa_add_14 : decode bHa_add 14 = .ok (.aload_n 0, 1) := by decide +kernel
theorem dHa_add_15 : decode bHa_add 15 = .ok (.getfield 27, 3) := by decide +kernel
theorem dHa_add_18 : decode bHa_add 18 = .ok (.iload_n 2, 1) := by decide +kernel
theorem dHa_add_19 : decode bHa_add 19 = .ok (.iastore, 1) := by decide +kernel
theorem dHa_add_20 : decode bHa_add 20 = .ok (.aload_n 0, 1) := by decide +kernel
theorem dHa_add_21 : decode bHa_add 21 = .ok (.dup, 1) := by decide +kernel
theorem dHa_add_22 : decode bHa_add 22 = .ok (.getfield 27, 3) := by decide +kernel
theorem dHa_add_25 : decode bHa_add 25 = .ok (.iconst 1, 1) := by decide +kernel
theorem dHa_add_26 : decode bHa_add 26 = .ok (.iadd, 1) := by decide +kernel
theorem dHa_add_27 : decode bHa_add 27 = .ok (.putfield 27, 3) := by decide +kernel
theorem dHa_add_30 : decode bHa_add 30 = .ok (.aload_n 0, 1) := by decide +kernel
theorem dHa_add_31 : decode bHa_add 31 = .ok (.getfield 27, 3) := by decide +kernel
theorem dHa_add_34 : decode bHa_add 34 = .ok (.iconst 1, 1) := by decide +kernel
theorem dHa_add_35 : decode bHa_add 35 = .ok (.isub, 1) := by decide +kernel
theorem dHa_add_36 : decode bHa_add 36 = .ok (.ireturn, 1) := by decide +kernel
theorem dHa_sharePart_0 : decode bHa_sharePart 0 = .ok (.aload_n 0, 1) := by decide +kernel
theorem dHa_sharePart_1 : decode bHa_sharePart 1 = .ok (.iload_n 1, 1) := by decide +kernel
theorem dHa_sharePart_2 : decode bHa_sharePart 2 = .ok (.iload_n 2, 1) := by decide +kernel
theorem dHa_sharePart_3 : decode bHa_sharePart 3 = .ok (.iconst (-1), 1) := by decide +kernel
theorem dHa_sharePart_4 : decode bHa_sharePart 4 = .ok (.invokevirtual 30, 3) := by decide +kernel
theorem dHa_sharePart_7 : decode bHa_sharePart 7 = .ok (.istore 5, 2) := by decide +kernel
theorem dHa_sharePart_9 : decode bHa_sharePart 9 = .ok (.iload 5, 2) := by decide +kernel
theorem dHa_sharePart_11 : decode bHa_sharePart 11 = .ok (.iconst (-1), 1) := by decide +kernel
theorem dHa_sharePart_12 : decode bHa_sharePart 12 = .ok (.if_icmp .ne (11), 3) := by decide +kernel
theorem dHa_sharePart_15 : decode bHa_sharePart 15 = .ok (.lconst 0, 1) := by decide +kernel
theorem dHa_sharePart_16 : decode bHa_sharePart 16 = .ok (.lconst 0, 1) := by decide +kernel
theorem dHa_sharePart_17 : decode bHa_sharePart 17 = .ok (.iload 4, 2) := by decide +kernel
theorem dHa_sharePart_19 : decode bHa_sharePart 19 = .ok (.invokestatic 34, 3) := by decide +kernel
theorem dHa_sharePart_22 : decode bHa_sharePart 22 = .ok (.lreturn, 1) := by decide +kernel
theorem dHa_sharePart_23 : decode bHa_sharePart 23 = .ok (.aload_n 0, 1) := by decide +kernel
theorem dHa_sharePart_24 : decode bHa_sharePart 24 = .ok (.iload_n 1, 1) := by decide +kernel
theorem dHa_sharePart_25 : decode bHa_sharePart 25 = .ok (.iload_n 2, 1) := by decide +kernel
theorem dHa_sharePart_26 : decode bHa_sharePart 26 = .ok (.iload 5, 2) := by decide +kernel
theorem dHa_sharePart_28 : decode bHa_sharePart 28 = .ok (.invokevirtual 30, 3) := by decide +kernel
theorem dHa_sharePart_31 : decode bHa_sharePart 31 = .ok (.istore 6, 2) := by decide +kernel
theorem dHa_sharePart_33 : decode bHa_sharePart 33 = .ok (.iload 6, 2) := by decide +kernel
theorem dHa_sharePart_35 : decode bHa_sharePart 35 = .ok (.iconst (-1), 1) := by decide +kernel
theorem dHa_sharePart_36 : decode bHa_sharePart 36 = .ok (.if_icmp .ne (26), 3) := by decide +kernel
theorem dHa_sharePart_39 : decode bHa_sharePart 39 = .ok (.aload_n 0, 1) := by decide +kernel
theorem dHa_sharePart_40 : decode bHa_sharePart 40 = .ok (.getfield 24, 3) := by decide +kernel
theorem dHa_sharePart_43 : decode bHa_sharePart 43 = .ok (.iload 5, 2) := by decide +kernel
theorem dHa_sharePart_45 : decode bHa_sharePart 45 = .ok (.aaload, 1) := by decide +kernel
theorem dHa_sharePart_46 : decode bHa_sharePart 46 = .ok (.iload_n 3, 1) := by decide +kernel
theorem dHa_sharePart_47 : decode bHa_sharePart 47 = .ok (.iaload, 1) := by decide +kernel
theorem dHa_sharePart_48 : decode bHa_sharePart 48 = .ok (.i2l, 1) := by decide +kernel
theorem dHa_sharePart_49 : decode bHa_sharePart 49 = .ok (.aload_n 0, 1) := by decide +kernel
theorem dHa_sharePart_50 : decode bHa_sharePart 50 = .ok (.iload 5, 2) := by decide +kernel
theorem dHa_sharePart_52 : decode bHa_sharePart 52 = .ok (.invokevirtual 38, 3) := by decide +kernel
theorem dHa_sharePart_55 : decode bHa_sharePart 55 = .ok (.i2l, 1) := by decide +kernel
theorem dHa_sharePart_56 : decode bHa_sharePart 56 = .ok (.iload 4, 2) := by decide +kernel
theorem dHa_sharePart_58 : decode bHa_sharePart 58 = .ok (.invokestatic 34, 3) := by decide +kernel
theorem dHa_sharePart_61 : decode bHa_sharePart 61 = .ok (.lreturn, 1) := by decide +kernel
theorem dHa_sharePart_62 : decode bHa_sharePart 62 = .ok (.aload_n 0, 1) := by decide +kernel
theorem dHa_sharePart_63 : decode bHa_sharePart 63 = .ok (.iload 6, 2) := by decide +kernel
theorem dHa_sharePart_65 : decode bHa_sharePart 65 = .ok (.iload_n 1, 1) := by decide +kernel
theorem dHa_sharePart_66 : decode bHa_sharePart 66 = .ok (.iload_n 2, 1) := by decide +kernel
theorem dHa_sharePart_67 : decode bHa_sharePart 67 = .ok (.invokevirtual 42, 3) := by decide +kernel
theorem dHa_sharePart_70 : decode bHa_sharePart 70 = .ok (.iconst 1, 1) := by decide +kernel
theorem dHa_sharePart_71 : decode bHa_sharePart 71 = .ok (.iadd, 1) := by decide +kernel
theorem dHa_sharePart_72 : decode bHa_sharePart 72 = .ok (.i2l, 1) := by decide +kernel
theorem dHa_sharePart_73 : decode bHa_sharePart 73 = .ok (.lstore 7, 2) := by decide +kernel
theorem dHa_sharePart_75 : decode bHa_sharePart 75 = .ok (.aload_n 0, 1) := by decide +kernel
theorem dHa_sharePart_76 : decode bHa_sharePart 76 = .ok (.iload 5, 2) := by decide +kernel
theorem dHa_sharePart_78 : decode bHa_sharePart 78 = .ok (.iload_n 1, 1) := by decide +kernel
theorem dHa_sharePart_79 : decode bHa_sharePart 79 = .ok (.iload_n 2, 1) := by decide +kernel
theorem dHa_sharePart_80 : decode bHa_sharePart 80 = .ok (.invokevirtual 42, 3) := by decide +kernel
theorem dHa_sharePart_83 : decode bHa_sharePart 83 = .ok (.iconst 1, 1) := by decide +kernel
theorem dHa_sharePart_84 : decode bHa_sharePart 84 = .ok (.iadd, 1) := by decide +kernel
theorem dHa_sharePart_85 : decode bHa_sharePart 85 = .ok (.i2l, 1) := by decide +kernel
theorem dHa_sharePart_86 : decode bHa_sharePart 86 = .ok (.lstore 9, 2) := by decide +kernel
theorem dHa_sharePart_88 : decode bHa_sharePart 88 = .ok (.aload_n 0, 1) := by decide +kernel
theorem dHa_sharePart_89 : decode bHa_sharePart 89 = .ok (.iload 5, 2) := by decide +kernel
theorem dHa_sharePart_91 : decode bHa_sharePart 91 = .ok (.invokevirtual 38, 3) := by decide +kernel
theorem dHa_sharePart_94 : decode bHa_sharePart 94 = .ok (.i2l, 1) := by decide +kernel
theorem dHa_sharePart_95 : decode bHa_sharePart 95 = .ok (.lstore 11, 2) := by decide +kernel
theorem dHa_sharePart_97 : decode bHa_sharePart 97 = .ok (.aload_n 0, 1) := by decide +kernel
theorem dHa_sharePart_98 : decode bHa_sharePart 98 = .ok (.iload 6, 2) := by decide +kernel
theorem dHa_sharePart_100 : decode bHa_sharePart 100 = .ok (.invokevirtual 38, 3) := by decide +kernel
theorem dHa_sharePart_103 : decode bHa_sharePart 103 = .ok (.i2l, 1) := by decide +kernel
theorem dHa_sharePart_104 : decode bHa_sharePart 104 = .ok (.lstore 13, 2) := by decide +kernel
theorem dHa_sharePart_106 : decode bHa_sharePart 106 = .ok (.aload_n 0, 1) := by decide +kernel
theorem dHa_sharePart_107 : decode bHa_sharePart 107 = .ok (.getfield 24, 3) := by decide +kernel
theorem dHa_sharePart_110 : decode bHa_sharePart 110 = .ok (.iload 5, 2) := by decide +kernel
theorem dHa_sharePart_112 : decode bHa_sharePart 112 = .ok (.aaload, 1) := by decide +kernel
theorem dHa_sharePart_113 : decode bHa_sharePart 113 = .ok (.iload_n 3, 1) := by decide +kernel
theorem dHa_sharePart_114 : decode bHa_sharePart 114 = .ok (.iaload, 1) := by decide +kernel
theorem dHa_sharePart_115 : decode bHa_sharePart 115 = .ok (.i2l, 1) := by decide +kernel
theorem dHa_sharePart_116 : decode bHa_sharePart 116 = .ok (.lload 13, 2) := by decide +kernel
theorem dHa_sharePart_118 : decode bHa_sharePart 118 = .ok (.lmul, 1) := by decide +kernel
theorem dHa_sharePart_119 : decode bHa_sharePart 119 = .ok (.lload 7, 2) := by decide +kernel
theorem dHa_sharePart_121 : decode bHa_sharePart 121 = .ok (.lmul, 1) := by decide +kernel
theorem dHa_sharePart_122 : decode bHa_sharePart 122 = .ok (.aload_n 0, 1) := by decide +kernel
theorem dHa_sharePart_123 : decode bHa_sharePart 123 = .ok (.getfield 24, 3) := by decide +kernel
theorem dHa_sharePart_126 : decode bHa_sharePart 126 = .ok (.iload 6, 2) := by decide +kernel
theorem dHa_sharePart_128 : decode bHa_sharePart 128 = .ok (.aaload, 1) := by decide +kernel
theorem dHa_sharePart_129 : decode bHa_sharePart 129 = .ok (.iload_n 3, 1) := by decide +kernel
theorem dHa_sharePart_130 : decode bHa_sharePart 130 = .ok (.iaload, 1) := by decide +kernel
theorem dHa_sharePart_131 : decode bHa_sharePart 131 = .ok (.i2l, 1) := by decide +kernel
theorem dHa_sharePart_132 : decode bHa_sharePart 132 = .ok (.lload 11, 2) := by decide +kernel
theorem dHa_sharePart_134 : decode bHa_sharePart 134 = .ok (.lmul, 1) := by decide +kernel
theorem dHa_sharePart_135 : decode bHa_sharePart 135 = .ok (.lload 9, 2) := by decide +kernel
theorem dHa_sharePart_137 : decode bHa_sharePart 137 = .ok (.lmul, 1) := by decide +kernel
theorem dHa_sharePart_138 : decode bHa_sharePart 138 = .ok (.ladd, 1) := by decide +kernel
theorem dHa_sharePart_139 : decode bHa_sharePart 139 = .ok (.lstore 15, 2) := by decide +kernel
theorem dHa_sharePart_141 : decode bHa_sharePart 141 = .ok (.lload 15, 2) := by decide +kernel
theorem dHa_sharePart_143 : decode bHa_sharePart 143 = .ok (.lload 11, 2) := by decide +kernel
theorem dHa_sharePart_145 : decode bHa_sharePart 145 = .ok (.lload 13, 2) := by decide +kernel
theorem dHa_sharePart_147 : decode bHa_sharePart 147 = .ok (.lmul, 1) := by decide +kernel
theorem dHa_sharePart_148 : decode bHa_sharePart 148 = .ok (.lload 7, 2) := by decide +kernel
theorem dHa_sharePart_150 : decode bHa_sharePart 150 = .ok (.lload 9, 2) := by decide +kernel
theorem dHa_sharePart_152 : decode bHa_sharePart 152 = .ok (.ladd, 1) := by decide +kernel
theorem dHa_sharePart_153 : decode bHa_sharePart 153 = .ok (.lmul, 1) := by decide +kernel
theorem dHa_sharePart_154 : decode bHa_sharePart 154 = .ok (.iload 4, 2) := by decide +kernel
theorem dHa_sharePart_156 : decode bHa_sharePart 156 = .ok (.invokestatic 34, 3) := by decide +kernel
theorem dHa_sharePart_159 : decode bHa_sharePart 159 = .ok (.lreturn, 1) := by decide +kernel
theorem dHa_nearestFilled_0 : decode bHa_nearestFilled 0 = .ok (.iconst (-1), 1) := by decide +kernel
theorem dHa_nearestFilled_1 : decode bHa_nearestFilled 1 = .ok (.istore 4, 2) := by decide +kernel
theorem dHa_nearestFilled_3 : decode bHa_nearestFilled 3 = .ok (.iconst 0, 1) := by decide +kernel
theorem dHa_nearestFilled_4 : decode bHa_nearestFilled 4 = .ok (.istore 5, 2) := by decide +kernel
theorem dHa_nearestFilled_6 : decode bHa_nearestFilled 6 = .ok (.iconst 0, 1) := by decide +kernel
theorem dHa_nearestFilled_7 : decode bHa_nearestFilled 7 = .ok (.istore 6, 2) := by decide +kernel
theorem dHa_nearestFilled_9 : decode bHa_nearestFilled 9 = .ok (.iload 6, 2) := by decide +kernel
theorem dHa_nearestFilled_11 : decode bHa_nearestFilled 11 = .ok (.aload_n 0, 1) := by decide +kernel
theorem dHa_nearestFilled_12 : decode bHa_nearestFilled 12 = .ok (.getfield 27, 3) := by decide +kernel
theorem dHa_nearestFilled_15 : decode bHa_nearestFilled 15 = .ok (.if_icmp .ge (55), 3) := by decide +kernel
theorem dHa_nearestFilled_18 : decode bHa_nearestFilled 18 = .ok (.iload 6, 2) := by decide +kernel
theorem dHa_nearestFilled_20 : decode bHa_nearestFilled 20 = .ok (.iload_n 3, 1) := by decide +kernel
theorem dHa_nearestFilled_21 : decode bHa_nearestFilled 21 = .ok (.if_icmp .eq (43), 3) := by decide +kernel
theorem dHa_nearestFilled_24 : decode bHa_nearestFilled 24 = .ok (.aload_n 0, 1) := by decide +kernel
theorem dHa_nearestFilled_25 : decode bHa_nearestFilled 25 = .ok (.iload 6, 2) := by decide +kernel
theorem dHa_nearestFilled_27 : decode bHa_nearestFilled 27 = .ok (.invokevirtual 38, 3) := by decide +kernel
theorem dHa_nearestFilled_30 : decode bHa_nearestFilled 30 = .ok (.ifCond .le (34), 3) := by decide +kernel
theorem dHa_nearestFilled_33 : decode bHa_nearestFilled 33 = .ok (.aload_n 0, 1) := by decide +kernel
theorem dHa_nearestFilled_34 : decode bHa_nearestFilled 34 = .ok (.iload 6, 2) := by decide +kernel
theorem dHa_nearestFilled_36 : decode bHa_nearestFilled 36 = .ok (.iload_n 1, 1) := by decide +kernel
theorem dHa_nearestFilled_37 : decode bHa_nearestFilled 37 = .ok (.iload_n 2, 1) := by decide +kernel
theorem dHa_nearestFilled_38 : decode bHa_nearestFilled 38 = .ok (.invokevirtual 42, 3) := by decide +kernel
theorem dHa_nearestFilled_41 : decode bHa_nearestFilled 41 = .ok (.istore 7, 2) := by decide +kernel
theorem dHa_nearestFilled_43 : decode bHa_nearestFilled 43 = .ok (.iload 4, 2) := by decide +kernel
theorem dHa_nearestFilled_45 : decode bHa_nearestFilled 45 = .ok (.iconst (-1), 1) := by decide +kernel
theorem dHa_nearestFilled_46 : decode bHa_nearestFilled 46 = .ok (.if_icmp .eq (10), 3) := by decide +kernel
theorem dHa_nearestFilled_49 : decode bHa_nearestFilled 49 = .ok (.iload 7, 2) := by decide +kernel
theorem dHa_nearestFilled_51 : decode bHa_nearestFilled 51 = .ok (.iload 5, 2) := by decide +kernel
theorem dHa_nearestFilled_53 : decode bHa_nearestFilled 53 = .ok (.if_icmp .ge (11), 3) := by decide +kernel
theorem dHa_nearestFilled_56 : decode bHa_nearestFilled 56 = .ok (.iload 6, 2) := by decide +kernel
theorem dHa_nearestFilled_58 : decode bHa_nearestFilled 58 = .ok (.istore 4, 2) := by decide +kernel
theorem dHa_nearestFilled_60 : decode bHa_nearestFilled 60 = .ok (.iload 7, 2) := by decide +kernel
theorem dHa_nearestFilled_62 : decode bHa_nearestFilled 62 = .ok (.istore 5, 2) := by decide +kernel
theorem dHa_nearestFilled_64 : decode bHa_nearestFilled 64 = .ok (.iinc 6 (1), 3) := by decide +kernel
theorem dHa_nearestFilled_67 : decode bHa_nearestFilled 67 = .ok (.goto (-58), 3) := by decide +kernel
theorem dHa_nearestFilled_70 : decode bHa_nearestFilled 70 = .ok (.iload 4, 2) := by decide +kernel
theorem dHa_nearestFilled_72 : decode bHa_nearestFilled 72 = .ok (.ireturn, 1) := by decide +kernel
theorem dHa_squareTo_0 : decode bHa_squareTo 0 = .ok (.aload_n 0, 1) := by decide +kernel
theorem dHa_squareTo_1 : decode bHa_squareTo 1 = .ok (.getfield 15, 3) := by decide +kernel
theorem dHa_squareTo_4 : decode bHa_squareTo 4 = .ok (.iload_n 1, 1) := by decide +kernel
theorem dHa_squareTo_5 : decode bHa_squareTo 5 = .ok (.iaload, 1) := by decide +kernel
theorem dHa_squareTo_6 : decode bHa_squareTo 6 = .ok (.iload_n 2, 1) := by decide +kernel
theorem dHa_squareTo_7 : decode bHa_squareTo 7 = .ok (.isub, 1) := by decide +kernel
theorem dHa_squareTo_8 : decode bHa_squareTo 8 = .ok (.invokestatic 45, 3) := by decide +kernel
theorem dHa_squareTo_11 : decode bHa_squareTo 11 = .ok (.aload_n 0, 1) := by decide +kernel
theorem dHa_squareTo_12 : decode bHa_squareTo 12 = .ok (.getfield 19, 3) := by decide +kernel
theorem dHa_squareTo_15 : decode bHa_squareTo 15 = .ok (.iload_n 1, 1) := by decide +kernel
theorem dHa_squareTo_16 : decode bHa_squareTo 16 = .ok (.iaload, 1) := by decide +kernel
theorem dHa_squareTo_17 : decode bHa_squareTo 17 = .ok (.iload_n 3, 1) := by decide +kernel
theorem dHa_squareTo_18 : decode bHa_squareTo 18 = .ok (.isub, 1) := by decide +kernel
theorem dHa_squareTo_19 : decode bHa_squareTo 19 = .ok (.invokestatic 45, 3) := by decide +kernel
theorem dHa_squareTo_22 : decode bHa_squareTo 22 = .ok (.iadd, 1) := by decide +kernel
theorem dHa_squareTo_23 : decode bHa_squareTo 23 = .ok (.ireturn, 1) := by decide +kernel
theorem dHa_allGrams_0 : decode bHa_allGrams 0 = .ok (.iconst 0, 1) := by decide +kernel
theorem dHa_allGrams_1 : decode bHa_allGrams 1 = .ok (.istore_n 2, 1) := by decide +kernel
theorem dHa_allGrams_2 : decode bHa_allGrams 2 = .ok (.iconst 0, 1) := by decide +kernel
theorem dHa_allGrams_3 : decode bHa_allGrams 3 = .ok (.istore_n 3, 1) := by decide +kernel
theorem dHa_allGrams_4 : decode bHa_allGrams 4 = .ok (.iload_n 3, 1) := by decide +kernel
theorem dHa_allGrams_5 : decode bHa_allGrams 5 = .ok (.aload_n 0, 1) := by decide +kernel
theorem dHa_allGrams_6 : decode bHa_allGrams 6 = .ok (.getfield 9, 3) := by decide +kernel
theorem dHa_allGrams_9 : decode bHa_allGrams 9 = .ok (.if_icmp .ge (20), 3) := by decide +kernel
theorem dHa_allGrams_12 : decode bHa_allGrams 12 = .ok (.iload_n 2, 1) := by decide +kernel
theorem dHa_allGrams_13 : decode bHa_allGrams 13 = .ok (.aload_n 0, 1) := by decide +kernel
theorem dHa_allGrams_14 : decode bHa_allGrams 14 = .ok (.getfield 24, 3) := by decide +kernel
theorem dHa_allGrams_17 : decode bHa_allGrams 17 = .ok (.iload_n 1, 1) := by decide +kernel
theorem dHa_allGrams_18 : decode bHa_allGrams 18 = .ok (.aaload, 1) := by decide +kernel
theorem dHa_allGrams_19 : decode bHa_allGrams 19 = .ok (.iload_n 3, 1) := by decide +kernel
theorem dHa_allGrams_20 : decode bHa_allGrams 20 = .ok (.iaload, 1) := by decide +kernel
theorem dHa_allGrams_21 : decode bHa_allGrams 21 = .ok (.iadd, 1) := by decide +kernel
theorem dHa_allGrams_22 : decode bHa_allGrams 22 = .ok (.istore_n 2, 1) := by decide +kernel
theorem dHa_allGrams_23 : decode bHa_allGrams 23 = .ok (.iinc 3 (1), 3) := by decide +kernel
theorem dHa_allGrams_26 : decode bHa_allGrams 26 = .ok (.goto (-22), 3) := by decide +kernel
theorem dHa_allGrams_29 : decode bHa_allGrams 29 = .ok (.iload_n 2, 1) := by decide +kernel
theorem dHa_allGrams_30 : decode bHa_allGrams 30 = .ok (.ireturn, 1) := by decide +kernel
theorem dLa_init_0 : decode bLa_init 0 = .ok (.aload_n 0, 1) := by decide +kernel
theorem dLa_init_1 : decode bLa_init 1 = .ok (.invokespecial 3, 3) := by decide +kernel
theorem dLa_init_4 : decode bLa_init 4 = .ok (.aload_n 0, 1) := by decide +kernel
theorem dLa_init_5 : decode bLa_init 5 = .ok (.bipush (6), 2) := by decide +kernel
theorem dLa_init_7 : decode bLa_init 7 = .ok (.newarray .int, 2) := by decide +kernel
theorem dLa_init_9 : decode bLa_init 9 = .ok (.putfield 9, 3) := by decide +kernel
theorem dLa_init_12 : decode bLa_init 12 = .ok (.aload_n 0, 1) := by decide +kernel
theorem dLa_init_13 : decode bLa_init 13 = .ok (.bipush (6), 2) := by decide +kernel
theorem dLa_init_15 : decode bLa_init 15 = .ok (.newarray .int, 2) := by decide +kernel
theorem dLa_init_17 : decode bLa_init 17 = .ok (.putfield 15, 3) := by decide +kernel
theorem dLa_init_20 : decode bLa_init 20 = .ok (.return_, 1) := by decide +kernel
theorem dLa_lastLength_0 : decode bLa_lastLength 0 = .ok (.aload_n 0, 1) := by decide +kernel
theorem dLa_lastLength_1 : decode bLa_lastLength 1 = .ok (.getfield 18, 3) := by decide +kernel
theorem dLa_lastLength_4 : decode bLa_lastLength 4 = .ok (.iconst 1, 1) := by decide +kernel
theorem dLa_lastLength_5 : decode bLa_lastLength 5 = .ok (.if_icmp .ge (7), 3) := by decide +kernel
theorem dLa_lastLength_8 : decode bLa_lastLength 8 = .ok (.iconst 0, 1) := by decide +kernel
theorem dLa_lastLength_9 : decode bLa_lastLength 9 = .ok (.goto (14), 3) := by decide +kernel
theorem dLa_lastLength_12 : decode bLa_lastLength 12 = .ok (.aload_n 0, 1) := by decide +kernel
theorem dLa_lastLength_13 : decode bLa_lastLength 13 = .ok (.getfield 9, 3) := by decide +kernel
theorem dLa_lastLength_16 : decode bLa_lastLength 16 = .ok (.aload_n 0, 1) := by decide +kernel
theorem dLa_lastLength_17 : decode bLa_lastLength 17 = .ok (.getfield 18, 3) := by decide +kernel
theorem dLa_lastLength_20 : decode bLa_lastLength 20 = .ok (.iconst 1, 1) := by decide +kernel
theorem dLa_lastLength_21 : decode bLa_lastLength 21 = .ok (.isub, 1) := by decide +kernel
theorem dLa_lastLength_22 : decode bLa_lastLength 22 = .ok (.iaload, 1) := by decide +kernel
theorem dLa_lastLength_23 : decode bLa_lastLength 23 = .ok (.ireturn, 1) := by decide +kernel
theorem dLa_add_0 : decode bLa_add 0 = .ok (.aload_n 0, 1) := by decide +kernel
theorem dLa_add_1 : decode bLa_add 1 = .ok (.getfield 9, 3) := by decide +kernel
theorem dLa_add_4 : decode bLa_add 4 = .ok (.aload_n 0, 1) := by decide +kernel
theorem dLa_add_5 : decode bLa_add 5 = .ok (.getfield 18, 3) := by decide +kernel
theorem dLa_add_8 : decode bLa_add 8 = .ok (.iload_n 1, 1) := by decide +kernel
theorem dLa_add_9 : decode bLa_add 9 = .ok (.iastore, 1) := by decide +kernel
theorem dLa_add_10 : decode bLa_add 10 = .ok (.aload_n 0, 1) := by decide +kernel
theorem dLa_add_11 : decode bLa_add 11 = .ok (.getfield 15, 3) := by decide +kernel
theorem dLa_add_14 : decode bLa_add 14 = .ok (.aload_n 0, 1) := by decide +kernel
theorem dLa_add_15 : decode bLa_add 15 = .ok (.getfield 18, 3) := by decide +kernel
theorem dLa_add_18 : decode bLa_add 18 = .ok (.iload_n 2, 1) := by decide +kernel
theorem dLa_add_19 : decode bLa_add 19 = .ok (.iastore, 1) := by decide +kernel
