theorem dEx_init_0 : decode bEx_init 0 = .ok (.aload_n 0, 1) := by decide +kernel
theorem dEx_init_1 : decode bEx_init 1 = .ok (.invokespecial 3, 3) := by decide +kernel
theorem dEx_init_4 : decode bEx_init 4 = .ok (.aload_n 0, 1) := by decide +kernel
theorem dEx_init_5 : decode bEx_init 5 = .ok (.iload_n 1, 1) := by decide +kernel
theorem dEx_init_6 : decode bEx_init 6 = .ok (.putfield 9, 3) := by decide +kernel
theorem dEx_init_9 : decode bEx_init 9 = .ok (.aload_n 0, 1) := by decide +kernel
theorem dEx_init_10 : decode bEx_init 10 = .ok (.bipush (24), 2) := by decide +kernel
theorem dEx_init_12 : decode bEx_init 12 = .ok (.iload_n 1, 1) := by decide +kernel
theorem dEx_init_13 : decode bEx_init 13 = .ok (.multianewarray 15 2, 4) := by decide +kernel
theorem dEx_init_17 : decode bEx_init 17 = .ok (.putfield 17, 3) := by decide +kernel
theorem dEx_init_20 : decode bEx_init 20 = .ok (.aload_n 0, 1) := by decide +kernel
theorem dEx_init_21 : decode bEx_init 21 = .ok (.bipush (24), 2) := by decide +kernel
theorem dEx_init_23 : decode bEx_init 23 = .ok (.newarray .int, 2) := by decide +kernel
theorem dEx_init_25 : decode bEx_init 25 = .ok (.putfield 20, 3) := by decide +kernel
theorem dEx_init_28 : decode bEx_init 28 = .ok (.aload_n 0, 1) := by decide +kernel
theorem dEx_init_29 : decode bEx_init 29 = .ok (.iload_n 1, 1) := by decide +kernel
theorem dEx_init_30 : decode bEx_init 30 = .ok (.newarray .int, 2) := by decide +kernel
theorem dEx_init_32 : decode bEx_init 32 = .ok (.putfield 24, 3) := by decide +kernel
theorem dEx_init_35 : decode bEx_init 35 = .ok (.aload_n 0, 1) := by decide +kernel
theorem dEx_init_36 : decode bEx_init 36 = .ok (.bipush (24), 2) := by decide +kernel
theorem dEx_init_38 : decode bEx_init 38 = .ok (.newarray .int, 2) := by decide +kernel
theorem dEx_init_40 : decode bEx_init 40 = .ok (.putfield 27, 3) := by decide +kernel
theorem dEx_init_43 : decode bEx_init 43 = .ok (.iconst 0, 1) := by decide +kernel
theorem dEx_init_44 : decode bEx_init 44 = .ok (.istore_n 2, 1) := by decide +kernel
theorem dEx_init_45 : decode bEx_init 45 = .ok (.iload_n 2, 1) := by decide +kernel
theorem dEx_init_46 : decode bEx_init 46 = .ok (.iload_n 1, 1) := by decide +kernel
theorem dEx_init_47 : decode bEx_init 47 = .ok (.if_icmp .ge (17), 3) := by decide +kernel
theorem dEx_init_50 : decode bEx_init 50 = .ok (.aload_n 0, 1) := by decide +kernel
theorem dEx_init_51 : decode bEx_init 51 = .ok (.getfield 24, 3) := by decide +kernel
theorem dEx_init_54 : decode bEx_init 54 = .ok (.iload_n 2, 1) := by decide +kernel
theorem dEx_init_55 : decode bEx_init 55 = .ok (.bipush (100), 2) := by decide +kernel
theorem dEx_init_57 : decode bEx_init 57 = .ok (.iastore, 1) := by decide +kernel
theorem dEx_init_58 : decode bEx_init 58 = .ok (.iinc 2 (1), 3) := by decide +kernel
theorem dEx_init_61 : decode bEx_init 61 = .ok (.goto (-16), 3) := by decide +kernel
theorem dEx_init_64 : decode bEx_init 64 = .ok (.return_, 1) := by decide +kernel
theorem dEx_add_0 : decode bEx_add 0 = .ok (.aload_n 0, 1) := by decide +kernel
theorem dEx_add_1 : decode bEx_add 1 = .ok (.getfield 20, 3) := by decide +kernel
theorem dEx_add_4 : decode bEx_add 4 = .ok (.aload_n 0, 1) := by decide +kernel
theorem dEx_add_5 : decode bEx_add 5 = .ok (.getfield 30, 3) := by decide +kernel
theorem dEx_add_8 : decode bEx_add 8 = .ok (.iload_n 1, 1) := by decide +kernel
theorem dEx_add_9 : decode bEx_add 9 = .ok (.iastore, 1) := by decide +kernel
theorem dEx_add_10 : decode bEx_add 10 = .ok (.aload_n 0, 1) := by decide +kernel
theorem dEx_add_11 : decode bEx_add 11 = .ok (.dup, 1) := by decide +kernel
theorem dEx_add_12 : decode bEx_add 12 = .ok (.getfield 30, 3) := by decide +kernel
theorem dEx_add_15 : decode bEx_add 15 = .ok (.iconst 1, 1) := by decide +kernel
theorem dEx_add_16 : decode bEx_add 16 = .ok (.iadd, 1) := by decide +kernel
theorem dEx_add_17 : decode bEx_add 17 = .ok (.putfield 30, 3) := by decide +kernel
theorem dEx_add_20 : decode bEx_add 20 = .ok (.aload_n 0, 1) := by decide +kernel
theorem dEx_add_21 : decode bEx_add 21 = .ok (.getfield 30, 3) := by decide +kernel
theorem dEx_add_24 : decode bEx_add 24 = .ok (.iconst 1, 1) := by decide +kernel
theorem dEx_add_25 : decode bEx_add 25 = .ok (.isub, 1) := by decide +kernel
theorem dEx_add_26 : decode bEx_add 26 = .ok (.ireturn, 1) := by decide +kernel
theorem dEx_cellOf_0 : decode bEx_cellOf 0 = .ok (.aload_n 0, 1) := by decide +kernel
theorem dEx_cellOf_1 : decode bEx_cellOf 1 = .ok (.getfield 24, 3) := by decide +kernel
theorem dEx_cellOf_4 : decode bEx_cellOf 4 = .ok (.iload_n 2, 1) := by decide +kernel
theorem dEx_cellOf_5 : decode bEx_cellOf 5 = .ok (.iaload, 1) := by decide +kernel
theorem dEx_cellOf_6 : decode bEx_cellOf 6 = .ok (.istore_n 3, 1) := by decide +kernel
theorem dEx_cellOf_7 : decode bEx_cellOf 7 = .ok (.iload_n 3, 1) := by decide +kernel
theorem dEx_cellOf_8 : decode bEx_cellOf 8 = .ok (.iconst 1, 1) := by decide +kernel
theorem dEx_cellOf_9 : decode bEx_cellOf 9 = .ok (.if_icmp .ge (7), 3) := by decide +kernel
theorem dEx_cellOf_12 : decode bEx_cellOf 12 = .ok (.iconst 0, 1) := by decide +kernel
theorem dEx_cellOf_13 : decode bEx_cellOf 13 = .ok (.goto (13), 3) := by decide +kernel
theorem dEx_cellOf_16 : decode bEx_cellOf 16 = .ok (.aload_n 0, 1) := by decide +kernel
theorem dEx_cellOf_17 : decode bEx_cellOf 17 = .ok (.getfield 17, 3) := by decide +kernel
theorem dEx_cellOf_20 : decode bEx_cellOf 20 = .ok (.iload_n 1, 1) := by decide +kernel
theorem dEx_cellOf_21 : decode bEx_cellOf 21 = .ok (.aaload, 1) := by decide +kernel
theorem dEx_cellOf_22 : decode bEx_cellOf 22 = .ok (.iload_n 2, 1) := by decide +kernel
theorem dEx_cellOf_23 : decode bEx_cellOf 23 = .ok (.iaload, 1) := by decide +kernel
theorem dEx_cellOf_24 : decode bEx_cellOf 24 = .ok (.iload_n 3, 1) := by decide +kernel
theorem dEx_cellOf_25 : decode bEx_cellOf 25 = .ok (.idiv, 1) := by decide +kernel
theorem dEx_cellOf_26 : decode bEx_cellOf 26 = .ok (.ireturn, 1) := by decide +kernel
theorem dEx_sameCells_0 : decode bEx_sameCells 0 = .ok (.iconst 0, 1) := by decide +kernel
theorem dEx_sameCells_1 : decode bEx_sameCells 1 = .ok (.istore 5, 2) := by decide +kernel
theorem dEx_sameCells_3 : decode bEx_sameCells 3 = .ok (.iload_n 3, 1) := by decide +kernel
theorem dEx_sameCells_4 : decode bEx_sameCells 4 = .ok (.istore 6, 2) := by decide +kernel
theorem dEx_sameCells_6 : decode bEx_sameCells 6 = .ok (.iload 6, 2) := by decide +kernel
theorem dEx_sameCells_8 : decode bEx_sameCells 8 = .ok (.iload 4, 2) := by decide +kernel
theorem dEx_sameCells_10 : decode bEx_sameCells 10 = .ok (.if_icmp .ge (29), 3) := by decide +kernel
theorem dEx_sameCells_13 : decode bEx_sameCells 13 = .ok (.aload_n 0, 1) := by decide +kernel
theorem dEx_sameCells_14 : decode bEx_sameCells 14 = .ok (.iload_n 1, 1) := by decide +kernel
theorem dEx_sameCells_15 : decode bEx_sameCells 15 = .ok (.iload 6, 2) := by decide +kernel
theorem dEx_sameCells_17 : decode bEx_sameCells 17 = .ok (.invokevirtual 33, 3) := by decide +kernel
theorem dEx_sameCells_20 : decode bEx_sameCells 20 = .ok (.aload_n 0, 1) := by decide +kernel
theorem dEx_sameCells_21 : decode bEx_sameCells 21 = .ok (.iload_n 2, 1) := by decide +kernel
theorem dEx_sameCells_22 : decode bEx_sameCells 22 = .ok (.iload 6, 2) := by decide +kernel
theorem dEx_sameCells_24 : decode bEx_sameCells 24 = .ok (.invokevirtual 33, 3) := by decide +kernel
theorem dEx_sameCells_27 : decode bEx_sameCells 27 = .ok (.if_icmp .ne (6), 3) := by decide +kernel
theorem dEx_sameCells_30 : decode bEx_sameCells 30 = .ok (.iinc 5 (1), 3) := by decide +kernel
theorem dEx_sameCells_33 : decode bEx_sameCells 33 = .ok (.iinc 6 (1), 3) := by decide +kernel
theorem dEx_sameCells_36 : decode bEx_sameCells 36 = .ok (.goto (-30), 3) := by decide +kernel
theorem dEx_sameCells_39 : decode bEx_sameCells 39 = .ok (.iload 5, 2) := by decide +kernel
theorem dEx_sameCells_41 : decode bEx_sameCells 41 = .ok (.ireturn, 1) := by decide +kernel
theorem dEx_countTaught_0 : decode bEx_countTaught 0 = .ok (.iconst 0, 1) := by decide +kernel
theorem dEx_countTaught_1 : decode bEx_countTaught 1 = .ok (.istore_n 2, 1) := by decide +kernel
theorem dEx_countTaught_2 : decode bEx_countTaught 2 = .ok (.iconst 0, 1) := by decide +kernel
theorem dEx_countTaught_3 : decode bEx_countTaught 3 = .ok (.istore_n 3, 1) := by decide +kernel
theorem dEx_countTaught_4 : decode bEx_countTaught 4 = .ok (.iload_n 3, 1) := by decide +kernel
theorem dEx_countTaught_5 : decode bEx_countTaught 5 = .ok (.aload_n 0, 1) := by decide +kernel
theorem dEx_countTaught_6 : decode bEx_countTaught 6 = .ok (.getfield 30, 3) := by decide +kernel
theorem dEx_countTaught_9 : decode bEx_countTaught 9 = .ok (.if_icmp .ge (22), 3) := by decide +kernel
theorem dEx_countTaught_12 : decode bEx_countTaught 12 = .ok (.aload_n 0, 1) := by decide +kernel
theorem dEx_countTaught_13 : decode bEx_countTaught 13 = .ok (.getfield 20, 3) := by decide +kernel
theorem dEx_countTaught_16 : decode bEx_countTaught 16 = .ok (.iload_n 3, 1) := by decide +kernel
theorem dEx_countTaught_17 : decode bEx_countTaught 17 = .ok (.iaload, 1) := by decide +kernel
theorem dEx_countTaught_18 : decode bEx_countTaught 18 = .ok (.iload_n 1, 1) := by decide +kernel
theorem dEx_countTaught_19 : decode bEx_countTaught 19 = .ok (.if_icmp .ne (6), 3) := by decide +kernel
theorem dEx_countTaught_22 : decode bEx_countTaught 22 = .ok (.iinc 2 (1), 3) := by decide +kernel
theorem dEx_countTaught_25 : decode bEx_countTaught 25 = .ok (.iinc 3 (1), 3) := by decide +kernel
theorem dEx_countTaught_28 : decode bEx_countTaught 28 = .ok (.goto (-24), 3) := by decide +kernel
theorem dEx_countTaught_31 : decode bEx_countTaught 31 = .ok (.iload_n 2, 1) := by decide +kernel
theorem dEx_countTaught_32 : decode bEx_countTaught 32 = .ok (.ireturn, 1) := by decide +kernel
theorem dEx_squares_0 : decode bEx_squares 0 = .ok (.iconst 0, 1) := by decide +kernel
theorem dEx_squares_1 : decode bEx_squares 1 = .ok (.istore_n 3, 1) := by decide +kernel
theorem dEx_squares_2 : decode bEx_squares 2 = .ok (.iconst 0, 1) := by decide +kernel
theorem dEx_squares_3 : decode bEx_squares 3 = .ok (.istore 4, 2) := by decide +kernel
theorem dEx_squares_5 : decode bEx_squares 5 = .ok (.iload 4, 2) := by decide +kernel
theorem dEx_squares_7 : decode bEx_squares 7 = .ok (.aload_n 0, 1) := by decide +kernel
theorem dEx_squares_8 : decode bEx_squares 8 = .ok (.getfield 9, 3) := by decide +kernel
theorem dEx_squares_11 : decode bEx_squares 11 = .ok (.if_icmp .ge (34), 3) := by decide +kernel
theorem dEx_squares_14 : decode bEx_squares 14 = .ok (.iload_n 3, 1) := by decide +kernel
theorem dEx_squares_15 : decode bEx_squares 15 = .ok (.aload_n 0, 1) := by decide +kernel
theorem dEx_squares_16 : decode bEx_squares 16 = .ok (.getfield 17, 3) := by decide +kernel
theorem dEx_squares_19 : decode bEx_squares 19 = .ok (.iload_n 1, 1) := by decide +kernel
theorem dEx_squares_20 : decode bEx_squares 20 = .ok (.aaload, 1) := by decide +kernel
theorem dEx_squares_21 : decode bEx_squares 21 = .ok (.iload 4, 2) := by decide +kernel
theorem dEx_squares_23 : decode bEx_squares 23 = .ok (.iaload, 1) := by decide +kernel
theorem dEx_squares_24 : decode bEx_squares 24 = .ok (.aload_n 0, 1) := by decide +kernel
theorem dEx_squares_25 : decode bEx_squares 25 = .ok (.getfield 17, 3) := by decide +kernel
theorem dEx_squares_28 : decode bEx_squares 28 = .ok (.iload_n 2, 1) := by decide +kernel
theorem dEx_squares_29 : decode bEx_squares 29 = .ok (.aaload, 1) := by decide +kernel
theorem dEx_squares_30 : decode bEx_squares 30 = .ok (.iload 4, 2) := by decide +kernel
theorem dEx_squares_32 : decode bEx_squares 32 = .ok (.iaload, 1) := by decide +kernel
theorem dEx_squares_33 : decode bEx_squares 33 = .ok (.isub, 1) := by decide +kernel
theorem dEx_squares_34 : decode bEx_squares 34 = .ok (.invokestatic 37, 3) := by decide +kernel
theorem dEx_squares_37 : decode bEx_squares 37 = .ok (.iadd, 1) := by decide +kernel
theorem dEx_squares_38 : decode bEx_squares 38 = .ok (.istore_n 3, 1) := by decide +kernel
theorem dEx_squares_39 : decode bEx_squares 39 = .ok (.iinc 4 (1), 3) := by decide +kernel
theorem dEx_squares_42 : decode bEx_squares 42 = .ok (.goto (-37), 3) := by decide +kernel
theorem dEx_squares_45 : decode bEx_squares 45 = .ok (.iload_n 3, 1) := by decide +kernel
theorem dEx_squares_46 : decode bEx_squares 46 = .ok (.ireturn, 1) := by decide +kernel
theorem dEx_neighbour_0 : decode bEx_neighbour 0 = .ok (.iconst 0, 1) := by decide +kernel
theorem dEx_neighbour_1 : decode bEx_neighbour 1 = .ok (.istore_n 3, 1) := by decide +kernel
theorem dEx_neighbour_2 : decode bEx_neighbour 2 = .ok (.iload_n 3, 1) := by decide +kernel
theorem dEx_neighbour_3 : decode bEx_neighbour 3 = .ok (.aload_n 0, 1) := by decide +kernel
theorem dEx_neighbour_4 : decode bEx_neighbour 4 = .ok (.getfield 30, 3) := by decide +kernel
theorem dEx_neighbour_7 : decode bEx_neighbour 7 = .ok (.if_icmp .ge (30), 3) := by decide +kernel
theorem dEx_neighbour_10 : decode bEx_neighbour 10 = .ok (.aload_n 0, 1) := by decide +kernel
theorem dEx_neighbour_11 : decode bEx_neighbour 11 = .ok (.iload_n 3, 1) := by decide +kernel
theorem dEx_neighbour_12 : decode bEx_neighbour 12 = .ok (.iload_n 1, 1) := by decide +kernel
theorem dEx_neighbour_13 : decode bEx_neighbour 13 = .ok (.invokevirtual 41, 3) := by decide +kernel
theorem dEx_neighbour_16 : decode bEx_neighbour 16 = .ok (.ifCond .eq (15), 3) := by decide +kernel
theorem dEx_neighbour_19 : decode bEx_neighbour 19 = .ok (.aload_n 0, 1) := by decide +kernel
theorem dEx_neighbour_20 : decode bEx_neighbour 20 = .ok (.iload_n 3, 1) := by decide +kernel
theorem dEx_neighbour_21 : decode bEx_neighbour 21 = .ok (.iload_n 1, 1) := by decide +kernel
theorem dEx_neighbour_22 : decode bEx_neighbour 22 = .ok (.invokevirtual 45, 3) := by decide +kernel
theorem dEx_neighbour_25 : decode bEx_neighbour 25 = .ok (.iload_n 2, 1) := by decide +kernel
theorem dEx_neighbour_26 : decode bEx_neighbour 26 = .ok (.if_icmp .ne (5), 3) := by decide +kernel
theorem dEx_neighbour_29 : decode bEx_neighbour 29 = .ok (.iload_n 3, 1) := by decide +kernel
theorem dEx_neighbour_30 : decode bEx_neighbour 30 = .ok (.ireturn, 1) := by decide +kernel
theorem dEx_neighbour_31 : decode bEx_neighbour 31 = .ok (.iinc 3 (1), 3) := by decide +kernel
theorem dEx_neighbour_34 : decode bEx_neighbour 34 = .ok (.goto (-32), 3) := by decide +kernel
theorem dEx_neighbour_37 : decode bEx_neighbour 37 = .ok (.iconst (-1), 1) := by decide +kernel
theorem dEx_neighbour_38 : decode bEx_neighbour 38 = .ok (.ireturn, 1) := by decide +kernel
theorem dEx_isCandidate_0 : decode bEx_isCandidate 0 = .ok (.iload_n 1, 1) := by decide +kernel
theorem dEx_isCandidate_1 : decode bEx_isCandidate 1 = .ok (.iload_n 2, 1) := by decide +kernel
theorem dEx_isCandidate_2 : decode bEx_isCandidate 2 = .ok (.if_icmp .eq (17), 3) := by decide +kernel
theorem dEx_isCandidate_5 : decode bEx_isCandidate 5 = .ok (.aload_n 0, 1) := by decide +kernel
theorem dEx_isCandidate_6 : decode bEx_isCandidate 6 = .ok (.getfield 20, 3) := by decide +kernel
theorem dEx_isCandidate_9 : decode bEx_isCandidate 9 = .ok (.iload_n 1, 1) := by decide +kernel
theorem dEx_isCandidate_10 : decode bEx_isCandidate 10 = .ok (.iaload, 1) := by decide +kernel
theorem dEx_isCandidate_11 : decode bEx_isCandidate 11 = .ok (.iconst (-1), 1) := by decide +kernel
theorem dEx_isCandidate_12 : decode bEx_isCandidate 12 = .ok (.if_icmp .eq (7), 3) := by decide +kernel
theorem dEx_isCandidate_15 : decode bEx_isCandidate 15 = .ok (.iconst 1, 1) := by decide +kernel
theorem dEx_isCandidate_16 : decode bEx_isCandidate 16 = .ok (.goto (4), 3) := by decide +kernel
theorem dEx_isCandidate_19 : decode bEx_isCandidate 19 = .ok (.iconst 0, 1) := by decide +kernel
theorem dEx_isCandidate_20 : decode bEx_isCandidate 20 = .ok (.ireturn, 1) := by decide +kernel
theorem dEx_countNearer_0 : decode bEx_countNearer 0 = .ok (.aload_n 0, 1) := by decide +kernel
theorem dEx_countNearer_1 : decode bEx_countNearer 1 = .ok (.iload_n 1, 1) := by decide +kernel
theorem dEx_countNearer_2 : decode bEx_countNearer 2 = .ok (.iload_n 2, 1) := by decide +kernel
theorem dEx_countNearer_3 : decode bEx_countNearer 3 = .ok (.invokevirtual 48, 3) := by decide +kernel
theorem dEx_countNearer_6 : decode bEx_countNearer 6 = .ok (.istore_n 3, 1) := by decide +kernel
theorem dEx_countNearer_7 : decode bEx_countNearer 7 = .ok (.iconst 0, 1) := by decide +kernel
theorem dEx_countNearer_8 : decode bEx_countNearer 8 = .ok (.istore 4, 2) := by decide +kernel
theorem dEx_countNearer_10 : decode bEx_countNearer 10 = .ok (.iconst 0, 1) := by decide +kernel
theorem dEx_countNearer_11 : decode bEx_countNearer 11 = .ok (.istore 5, 2) := by decide +kernel
theorem dEx_countNearer_13 : decode bEx_countNearer 13 = .ok (.iload 5, 2) := by decide +kernel
theorem dEx_countNearer_15 : decode bEx_countNearer 15 = .ok (.aload_n 0, 1) := by decide +kernel
theorem dEx_countNearer_16 : decode bEx_countNearer 16 = .ok (.getfield 30, 3) := by decide +kernel
theorem dEx_countNearer_19 : decode bEx_countNearer 19 = .ok (.if_icmp .ge (49), 3) := by decide +kernel
theorem dEx_countNearer_22 : decode bEx_countNearer 22 = .ok (.aload_n 0, 1) := by decide +kernel
theorem dEx_countNearer_23 : decode bEx_countNearer 23 = .ok (.iload 5, 2) := by decide +kernel
theorem dEx_countNearer_25 : decode bEx_countNearer 25 = .ok (.iload_n 2, 1) := by decide +kernel
theorem dEx_countNearer_26 : decode bEx_countNearer 26 = .ok (.invokevirtual 41, 3) := by decide +kernel
theorem dEx_countNearer_29 : decode bEx_countNearer 29 = .ok (.ifCond .eq (33), 3) := by decide +kernel
theorem dEx_countNearer_32 : decode bEx_countNearer 32 = .ok (.aload_n 0, 1) := by decide +kernel
theorem dEx_countNearer_33 : decode bEx_countNearer 33 = .ok (.iload 5, 2) := by decide +kernel
theorem dEx_countNearer_35 : decode bEx_countNearer 35 = .ok (.iload_n 2, 1) := by decide +kernel
theorem dEx_countNearer_36 : decode bEx_countNearer 36 = .ok (.invokevirtual 48, 3) := by decide +kernel
theorem dEx_countNearer_39 : decode bEx_countNearer 39 = .ok (.istore 6, 2) := by decide +kernel
theorem dEx_countNearer_41 : decode bEx_countNearer 41 = .ok (.iload 6, 2) := by decide +kernel
theorem dEx_countNearer_43 : decode bEx_countNearer 43 = .ok (.iload_n 3, 1) := by decide +kernel
theorem dEx_countNearer_44 : decode bEx_countNearer 44 = .ok (.if_icmp .lt (15), 3) := by decide +kernel
theorem dEx_countNearer_47 : decode bEx_countNearer 47 = .ok (.iload 6, 2) := by decide +kernel
theorem dEx_countNearer_49 : decode bEx_countNearer 49 = .ok (.iload_n 3, 1) := by decide +kernel
theorem dEx_countNearer_50 : decode bEx_countNearer 50 = .ok (.if_icmp .ne (12), 3) := by decide +kernel
theorem dEx_countNearer_53 : decode bEx_countNearer 53 = .ok (.iload 5, 2) := by decide +kernel
theorem dEx_countNearer_55 : decode bEx_countNearer 55 = .ok (.iload_n 1, 1) := by decide +kernel
theorem dEx_countNearer_56 : decode bEx_countNearer 56 = .ok (.if_icmp .ge (6), 3) := by decide +kernel
theorem dEx_countNearer_59 : decode bEx_countNearer 59 = .ok (.iinc 4 (1), 3) := by decide +kernel
theorem dEx_countNearer_62 : decode bEx_countNearer 62 = .ok (.iinc 5 (1), 3) := by decide +kernel
theorem dEx_countNearer_65 : decode bEx_countNearer 65 = .ok (.goto (-52), 3) := by decide +kernel
theorem dEx_countNearer_68 : decode bEx_countNearer 68 = .ok (.iload 4, 2) := by decide +kernel
theorem dEx_countNearer_70 : decode bEx_countNearer 70 = .ok (.ireturn, 1) := by decide +kernel
theorem dEx_countGroups_0 : decode bEx_countGroups 0 = .ok (.iconst 0, 1) := by decide +kernel
theorem dEx_countGroups_1 : decode bEx_countGroups 1 = .ok (.istore_n 2, 1) := by decide +kernel
theorem dEx_countGroups_2 : decode bEx_countGroups 2 = .ok (.iload_n 2, 1) := by decide +kernel
theorem dEx_countGroups_3 : decode bEx_countGroups 3 = .ok (.aload_n 0, 1) := by decide +kernel
theorem dEx_countGroups_4 : decode bEx_countGroups 4 = .ok (.getfield 30, 3) := by decide +kernel
theorem dEx_countGroups_7 : decode bEx_countGroups 7 = .ok (.if_icmp .ge (16), 3) := by decide +kernel
theorem dEx_countGroups_10 : decode bEx_countGroups 10 = .ok (.aload_n 0, 1) := by decide +kernel
theorem dEx_countGroups_11 : decode bEx_countGroups 11 = .ok (.getfield 27, 3) := by decide +kernel
theorem dEx_countGroups_14 : decode bEx_countGroups 14 = .ok (.iload_n 2, 1) := by decide +kernel
theorem dEx_countGroups_15 : decode bEx_countGroups 15 = .ok (.iload_n 2, 1) := by decide +kernel
theorem dEx_countGroups_16 : decode bEx_countGroups 16 = .ok (.iastore, 1) := by decide +kernel
theorem dEx_countGroups_17 : decode bEx_countGroups 17 = .ok (.iinc 2 (1), 3) := by decide +kernel
theorem dEx_countGroups_20 : decode bEx_countGroups 20 = .ok (.goto (-18), 3) := by decide +kernel
theorem dEx_countGroups_23 : decode bEx_countGroups 23 = .ok (.aload_n 0, 1) := by decide +kernel
theorem dEx_countGroups_24 : decode bEx_countGroups 24 = .ok (.getfield 30, 3) := by decide +kernel
theorem dEx_countGroups_27 : decode bEx_countGroups 27 = .ok (.istore_n 2, 1) := by decide +kernel
theorem dEx_countGroups_28 : decode bEx_countGroups 28 = .ok (.iconst 0, 1) := by decide +kernel
theorem dEx_countGroups_29 : decode bEx_countGroups 29 = .ok (.istore_n 3, 1) := by decide +kernel
theorem dEx_countGroups_30 : decode bEx_countGroups 30 = .ok (.iload_n 3, 1) := by decide +kernel
theorem dEx_countGroups_31 : decode bEx_countGroups 31 = .ok (.aload_n 0, 1) := by decide +kernel
theorem dEx_countGroups_32 : decode bEx_countGroups 32 = .ok (.getfield 30, 3) := by decide +kernel
theorem dEx_countGroups_35 : decode bEx_countGroups 35 = .ok (.if_icmp .ge (81), 3) := by decide +kernel
theorem dEx_countGroups_38 : decode bEx_countGroups 38 = .ok (.iload_n 3, 1) := by decide +kernel
theorem dEx_countGroups_39 : decode bEx_countGroups 39 = .ok (.iconst 1, 1) := by decide +kernel
theorem dEx_countGroups_40 : decode bEx_countGroups 40 = .ok (.iadd, 1) := by decide +kernel
theorem dEx_countGroups_41 : decode bEx_countGroups 41 = .ok (.istore 4, 2) := by decide +kernel
theorem dEx_countGroups_43 : decode bEx_countGroups 43 = .ok (.iload 4, 2) := by decide +kernel
theorem dEx_countGroups_45 : decode bEx_countGroups 45 = .ok (.aload_n 0, 1) := by decide +kernel
theorem dEx_countGroups_46 : decode bEx_countGroups 46 = .ok (.getfield 30, 3) := by decide +kernel
theorem dEx_countGroups_49 : decode bEx_countGroups 49 = .ok (.if_icmp .ge (61), 3) := by decide +kernel
theorem dEx_countGroups_52 : decode bEx_countGroups 52 = .ok (.aload_n 0, 1) := by decide +kernel
theorem dEx_countGroups_53 : decode bEx_countGroups 53 = .ok (.getfield 27, 3) := by decide +kernel
theorem dEx_countGroups_56 : decode bEx_countGroups 56 = .ok (.iload_n 3, 1) := by decide +kernel
theorem dEx_countGroups_57 : decode bEx_countGroups 57 = .ok (.iaload, 1) := by decide +kernel
theorem dEx_countGroups_58 : decode bEx_countGroups 58 = .ok (.aload_n 0, 1) := by decide +kernel
theorem dEx_countGroups_59 : decode bEx_countGroups 59 = .ok (.getfield 27, 3) := by decide +kernel
theorem dEx_countGroups_62 : decode bEx_countGroups 62 = .ok (.iload 4, 2) := by decide +kernel
theorem dEx_countGroups_64 : decode bEx_countGroups 64 = .ok (.iaload, 1) := by decide +kernel
theorem dEx_countGroups_65 : decode bEx_countGroups 65 = .ok (.if_icmp .eq (39), 3) := by decide +kernel
theorem dEx_countGroups_68 : decode bEx_countGroups 68 = .ok (.aload_n 0, 1) := by decide +kernel
theorem dEx_countGroups_69 : decode bEx_countGroups 69 = .ok (.iload_n 3, 1) := by decide +kernel
theorem dEx_countGroups_70 : decode bEx_countGroups 70 = .ok (.iload 4, 2) := by decide +kernel
theorem dEx_countGroups_72 : decode bEx_countGroups 72 = .ok (.iconst 0, 1) := by decide +kernel
theorem dEx_countGroups_73 : decode bEx_countGroups 73 = .ok (.aload_n 0, 1) := by decide +kernel
theorem dEx_countGroups_74 : decode bEx_countGroups 74 = .ok (.getfield 9, 3) := by decide +kernel
theorem dEx_countGroups_77 : decode bEx_countGroups 77 = .ok (.invokevirtual 51, 3) := by decide +kernel
theorem dEx_countGroups_80 : decode bEx_countGroups 80 = .ok (.iload_n 1, 1) := by decide +kernel
theorem dEx_countGroups_81 : decode bEx_countGroups 81 = .ok (.if_icmp .lt (23), 3) := by decide +kernel
theorem dEx_countGroups_84 : decode bEx_countGroups 84 = .ok (.aload_n 0, 1) := by decide +kernel
theorem dEx_countGroups_85 : decode bEx_countGroups 85 = .ok (.aload_n 0, 1) := by decide +kernel
theorem dEx_countGroups_86 : decode bEx_countGroups 86 = .ok (.getfield 27, 3) := by decide +kernel
theorem dEx_countGroups_89 : decode bEx_countGroups 89 = .ok (.iload_n 3, 1) := by decide +kernel
theorem dEx_countGroups_90 : decode bEx_countGroups 90 = .ok (.iaload, 1) := by decide +kernel
theorem dEx_countGroups_91 : decode bEx_countGroups 91 = .ok (.aload_n 0, 1) := by decide +kernel
theorem dEx_countGroups_92 : decode bEx_countGroups 92 = .ok (.getfield 27, 3) := by decide +kernel
theorem dEx_countGroups_95 : decode bEx_countGroups 95 = .ok (.iload 4, 2) := by decide +kernel
theorem dEx_countGroups_97 : decode bEx_countGroups 97 = .ok (.iaload, 1) := by decide +kernel
theorem dEx_countGroups_98 : decode bEx_countGroups 98 = .ok (.invokevirtual 55, 3) := by decide +kernel
theorem dEx_countGroups_101 : decode bEx_countGroups 101 = .ok (.iinc 2 (-1), 3) := by decide +kernel
theorem dEx_countGroups_104 : decode bEx_countGroups 104 = .ok (.iinc 4 (1), 3) := by decide +kernel
theorem dEx_countGroups_107 : decode bEx_countGroups 107 = .ok (.goto (-64), 3) := by decide +kernel
theorem dEx_countGroups_110 : decode bEx_countGroups 110 = .ok (.iinc 3 (1), 3) := by decide +kernel
theorem dEx_countGroups_113 : decode bEx_countGroups 113 = .ok (.goto (-83), 3) := by decide +kernel
theorem dEx_countGroups_116 : decode bEx_countGroups 116 = .ok (.iload_n 2, 1) := by decide +kernel
theorem dEx_countGroups_117 : decode bEx_countGroups 117 = .ok (.ireturn, 1) := by decide +kernel
theorem dEx_joinGroups_0 : decode bEx_joinGroups 0 = .ok (.iconst 0, 1) := by decide +kernel
theorem dEx_joinGroups_1 : decode bEx_joinGroups 1 = .ok (.istore_n 3, 1) := by decide +kernel
theorem dEx_joinGroups_2 : decode bEx_joinGroups 2 = .ok (.iload_n 3, 1) := by decide +kernel
theorem dEx_joinGroups_3 : decode bEx_joinGroups 3 = .ok (.aload_n 0, 1) := by decide +kernel
theorem dEx_joinGroups_4 : decode bEx_joinGroups 4 = .ok (.getfield 30, 3) := by decide +kernel
theorem dEx_joinGroups_7 : decode bEx_joinGroups 7 = .ok (.if_icmp .ge (26), 3) := by decide +kernel
theorem dEx_joinGroups_10 : decode bEx_joinGroups 10 = .ok (.aload_n 0, 1) := by decide +kernel
theorem dEx_joinGroups_11 : decode bEx_joinGroups 11 = .ok (.getfield 27, 3) := by decide +kernel
theorem dEx_joinGroups_14 : decode bEx_joinGroups 14 = .ok (.iload_n 3, 1) := by decide +kernel
theorem dEx_joinGroups_15 : decode bEx_joinGroups 15 = .ok (.iaload, 1) := by decide +kernel
theorem dEx_joinGroups_16 : decode bEx_joinGroups 16 = .ok (.iload_n 2, 1) := by decide +kernel
theorem dEx_joinGroups_17 : decode bEx_joinGroups 17 = .ok (.if_icmp .ne (10), 3) := by decide +kernel
theorem dEx_joinGroups_20 : decode bEx_joinGroups 20 = .ok (.aload_n 0, 1) := by decide +kernel
theorem dEx_joinGroups_21 : decode bEx_joinGroups 21 = .ok (.getfield 27, 3) := by decide +kernel
theorem dEx_joinGroups_24 : decode bEx_joinGroups 24 = .ok (.iload_n 3, 1) := by decide +kernel
theorem dEx_joinGroups_25 : decode bEx_joinGroups 25 = .ok (.iload_n 1, 1) := by decide +kernel
theorem dEx_joinGroups_26 : decode bEx_joinGroups 26 = .ok (.iastore, 1) := by decide +kernel
theorem dEx_joinGroups_27 : decode bEx_joinGroups 27 = .ok (.iinc 3 (1), 3) := by decide +kernel
theorem dEx_joinGroups_30 : decode bEx_joinGroups 30 = .ok (.goto (-28), 3) := by decide +kernel
theorem dEx_joinGroups_33 : decode bEx_joinGroups 33 = .ok (.return_, 1) := by decide +kernel
theorem dTe_init_0 : decode bTe_init 0 = .ok (.aload_n 0, 1) := by decide +kernel
theorem dTe_init_1 : decode bTe_init 1 = .ok (.invokespecial 3, 3) := by decide +kernel
theorem dTe_init_4 : decode bTe_init 4 = .ok (.aload_n 0, 1) := by decide +kernel
theorem dTe_init_5 : decode bTe_init 5 = .ok (.aload_n 1, 1) := by decide +kernel
theorem dTe_init_6 : decode bTe_init 6 = .ok (.putfield 9, 3) := by decide +kernel
theorem dTe_init_9 : decode bTe_init 9 = .ok (.aload_n 0, 1) := by decide +kernel
theorem dTe_init_10 : decode bTe_init 10 = .ok (.iload_n 2, 1) := by decide +kernel
theorem dTe_init_11 : decode bTe_init 11 = .ok (.putfield 15, 3) := by decide +kernel
theorem dTe_init_14 : decode bTe_init 14 = .ok (.aload_n 0, 1) := by decide +kernel
theorem dTe_init_15 : decode bTe_init 15 = .ok (.iload_n 2, 1) := by decide +kernel
theorem dTe_init_16 : decode bTe_init 16 = .ok (.newarray .int, 2) := by decide +kernel
theorem dTe_init_18 : decode bTe_init 18 = .ok (.putfield 19, 3) := by decide +kernel
theorem dTe_init_21 : decode bTe_init 21 = .ok (.aload_n 0, 1) := by decide +kernel
theorem dTe_init_22 : decode bTe_init 22 = .ok (.iload_n 2, 1) := by decide +kernel
theorem dTe_init_23 : decode bTe_init 23 = .ok (.newarray .int, 2) := by decide +kernel
theorem dTe_init_25 : decode bTe_init 25 = .ok (.putfield 23, 3) := by decide +kernel
theorem dTe_init_28 : decode bTe_init 28 = .ok (.aload_n 0, 1) := by decide +kernel
theorem dTe_init_29 : decode bTe_init 29 = .ok (.aload_n 1, 1) := by decide +kernel
theorem dTe_init_30 : decode bTe_init 30 = .ok (.getfield 26, 3) := by decide +kernel
theorem dTe_init_33 : decode bTe_init 33 = .ok (.newarray .int, 2) := by decide +kernel
theorem dTe_init_35 : decode bTe_init 35 = .ok (.putfield 31, 3) := by decide +kernel
theorem dTe_init_38 : decode bTe_init 38 = .ok (.aload_n 0, 1) := by decide +kernel
theorem dTe_init_39 : decode bTe_init 39 = .ok (.iconst 1, 1) := by decide +kernel
theorem dTe_init_40 : decode bTe_init 40 = .ok (.putfield 34, 3) := by decide +kernel
theorem dTe_init_43 : decode bTe_init 43 = .ok (.iconst 0, 1) := by decide +kernel
theorem dTe_init_44 : decode bTe_init 44 = .ok (.istore_n 3, 1) := by decide +kernel
theorem dTe_init_45 : decode bTe_init 45 = .ok (.iload_n 3, 1) := by decide +kernel
theorem dTe_init_46 : decode bTe_init 46 = .ok (.iload_n 2, 1) := by decide +kernel
theorem dTe_init_47 : decode bTe_init 47 = .ok (.if_icmp .ge (16), 3) := by decide +kernel
theorem dTe_init_50 : decode bTe_init 50 = .ok (.aload_n 0, 1) := by decide +kernel
theorem dTe_init_51 : decode bTe_init 51 = .ok (.getfield 19, 3) := by decide +kernel
theorem dTe_init_54 : decode bTe_init 54 = .ok (.iload_n 3, 1) := by decide +kernel
theorem dTe_init_55 : decode bTe_init 55 = .ok (.iload_n 3, 1) := by decide +kernel
theorem dTe_init_56 : decode bTe_init 56 = .ok (.iastore, 1) := by decide +kernel
theorem dTe_init_57 : decode bTe_init 57 = .ok (.iinc 3 (1), 3) := by decide +kernel
theorem dTe_init_60 : decode bTe_init 60 = .ok (.goto (-15), 3) := by decide +kernel
theorem dTe_init_63 : decode bTe_init 63 = .ok (.return_, 1) := by decide +kernel
theorem dTe_bringToFront_0 : decode bTe_bringToFront 0 = .ok (.aload_n 0, 1) := by decide +kernel
theorem dTe_bringToFront_1 : decode bTe_bringToFront 1 = .ok (.iload_n 1, 1) := by decide +kernel
theorem dTe_bringToFront_2 : decode bTe_bringToFront 2 = .ok (.invokevirtual 37, 3) := by decide +kernel
theorem dTe_bringToFront_5 : decode bTe_bringToFront 5 = .ok (.istore_n 2, 1) := by decide +kernel
theorem dTe_bringToFront_6 : decode bTe_bringToFront 6 = .ok (.iload_n 2, 1) := by decide +kernel
theorem dTe_bringToFront_7 : decode bTe_bringToFront 7 = .ok (.istore_n 3, 1) := by decide +kernel
theorem dTe_bringToFront_8 : decode bTe_bringToFront 8 = .ok (.iload_n 3, 1) := by decide +kernel
theorem dTe_bringToFront_9 : decode bTe_bringToFront 9 = .ok (.ifCond .le (23), 3) := by decide +kernel
theorem dTe_bringToFront_12 : decode bTe_bringToFront 12 = .ok (.aload_n 0, 1) := by decide +kernel
theorem dTe_bringToFront_13 : decode bTe_bringToFront 13 = .ok (.getfield 19, 3) := by decide +kernel
theorem dTe_bringToFront_16 : decode bTe_bringToFront 16 = .ok (.iload_n 3, 1) := by decide +kernel
theorem dTe_bringToFront_17 : decode bTe_bringToFront 17 = .ok (.aload_n 0, 1) := by decide +kernel
theorem dTe_bringToFront_18 : decode bTe_bringToFront 18 = .ok (.getfield 19, 3) := by decide +kernel
theorem dTe_bringToFront_21 : decode bTe_bringToFront 21 = .ok (.iload_n 3, 1) := by decide +kernel
theorem dTe_bringToFront_22 : decode bTe_bringToFront 22 = .ok (.iconst 1, 1) := by decide +kernel
theorem dTe_bringToFront_23 : decode bTe_bringToFront 23 = .ok (.isub, 1) := by decide +kernel
theorem dTe_bringToFront_24 : decode bTe_bringToFront 24 = .ok (.iaload, 1) := by decide +kernel
theorem dTe_bringToFront_25 : decode bTe_bringToFront 25 = .ok (.iastore, 1) := by decide +kernel
theorem dTe_bringToFront_26 : decode bTe_bringToFront 26 = .ok (.iinc 3 (-1), 3) := by decide +kernel
theorem dTe_bringToFront_29 : decode bTe_bringToFront 29 = .ok (.goto (-21), 3) := by decide +kernel
theorem dTe_bringToFront_32 : decode bTe_bringToFront 32 = .ok (.aload_n 0, 1) := by decide +kernel
theorem dTe_bringToFront_33 : decode bTe_bringToFront 33 = .ok (.getfield 19, 3) := by decide +kernel
theorem dTe_bringToFront_36 : decode bTe_bringToFront 36 = .ok (.iconst 0, 1) := by decide +kernel
theorem dTe_bringToFront_37 : decode bTe_bringToFront 37 = .ok (.iload_n 1, 1) := by decide +kernel
theorem dTe_bringToFront_38 : decode bTe_bringToFront 38 = .ok (.iastore, 1) := by decide +kernel
theorem dTe_bringToFront_39 : decode bTe_bringToFront 39 = .ok (.iload_n 2, 1) := by decide +kernel
theorem dTe_bringToFront_40 : decode bTe_bringToFront 40 = .ok (.ireturn, 1) := by decide +kernel
theorem dTe_placeOf_0 : decode bTe_placeOf 0 = .ok (.iconst 0, 1) := by decide +kernel
theorem dTe_placeOf_1 : decode bTe_placeOf 1 = .ok (.istore_n 2, 1) := by decide +kernel
theorem dTe_placeOf_2 : decode bTe_placeOf 2 = .ok (.iload_n 2, 1) := by decide +kernel
theorem dTe_placeOf_3 : decode bTe_placeOf 3 = .ok (.aload_n 0, 1) := by decide +kernel
theorem dTe_placeOf_4 : decode bTe_placeOf 4 = .ok (.getfield 15, 3) := by decide +kernel
theorem dTe_placeOf_7 : decode bTe_placeOf 7 = .ok (.iconst 1, 1) := by decide +kernel
theorem dTe_placeOf_8 : decode bTe_placeOf 8 = .ok (.isub, 1) := by decide +kernel
theorem dTe_placeOf_9 : decode bTe_placeOf 9 = .ok (.if_icmp .ge (19), 3) := by decide +kernel
theorem dTe_placeOf_12 : decode bTe_placeOf 12 = .ok (.aload_n 0, 1) := by decide +kernel
theorem dTe_placeOf_13 : decode bTe_placeOf 13 = .ok (.getfield 19, 3) := by decide +kernel
theorem dTe_placeOf_16 : decode bTe_placeOf 16 = .ok (.iload_n 2, 1) := by decide +kernel
theorem dTe_placeOf_17 : decode bTe_placeOf 17 = .ok (.iaload, 1) := by decide +kernel
theorem dTe_placeOf_18 : decode bTe_placeOf 18 = .ok (.iload_n 1, 1) := by decide +kernel
theorem dTe_placeOf_19 : decode bTe_placeOf 19 = .ok (.if_icmp .eq (9), 3) := by decide +kernel
theorem dTe_placeOf_22 : decode bTe_placeOf 22 = .ok (.iinc 2 (1), 3) := by decide +kernel
theorem dTe_placeOf_25 : decode bTe_placeOf 25 = .ok (.goto (-23), 3) := by decide +kernel
theorem dTe_placeOf_28 : decode bTe_placeOf 28 = .ok (.iload_n 2, 1) := by decide +kernel
theorem dTe_placeOf_29 : decode bTe_placeOf 29 = .ok (.ireturn, 1) := by decide +kernel
theorem dTe_votesFor_0 : decode bTe_votesFor 0 = .ok (.aload_n 0, 1) := by decide +kernel
theorem dTe_votesFor_1 : decode bTe_votesFor 1 = .ok (.iload_n 1, 1) := by decide +kernel
theorem dTe_votesFor_2 : decode bTe_votesFor 2 = .ok (.iconst 0, 1) := by decide +kernel
theorem dTe_votesFor_3 : decode bTe_votesFor 3 = .ok (.aload_n 0, 1) := by decide +kernel
theorem dTe_votesFor_4 : decode bTe_votesFor 4 = .ok (.getfield 9, 3) := by decide +kernel
theorem dTe_votesFor_7 : decode bTe_votesFor 7 = .ok (.getfield 26, 3) := by decide +kernel
theorem dTe_votesFor_10 : decode bTe_votesFor 10 = .ok (.invokevirtual 41, 3) := by decide +kernel
theorem dTe_votesFor_13 : decode bTe_votesFor 13 = .ok (.aload_n 0, 1) := by decide +kernel
theorem dTe_votesFor_14 : decode bTe_votesFor 14 = .ok (.getfield 23, 3) := by decide +kernel
theorem dTe_votesFor_17 : decode bTe_votesFor 17 = .ok (.iload_n 2, 1) := by decide +kernel
theorem dTe_votesFor_18 : decode bTe_votesFor 18 = .ok (.iaload, 1) := by decide +kernel
theorem dTe_votesFor_19 : decode bTe_votesFor 19 = .ok (.ireturn, 1) := by decide +kernel
theorem dTe_told_0 : decode bTe_told 0 = .ok (.aload_n 0, 1) := by decide +kernel
theorem dTe_told_1 : decode bTe_told 1 = .ok (.iload_n 1, 1) := by decide +kernel
theorem dTe_told_2 : decode bTe_told 2 = .ok (.iconst 0, 1) := by decide +kernel
theorem dTe_told_3 : decode bTe_told 3 = .ok (.aload_n 0, 1) := by decide +kernel
theorem dTe_told_4 : decode bTe_told 4 = .ok (.getfield 9, 3) := by decide +kernel
theorem dTe_told_7 : decode bTe_told 7 = .ok (.getfield 26, 3) := by decide +kernel
theorem dTe_told_10 : decode bTe_told 10 = .ok (.invokevirtual 45, 3) := by decide +kernel
theorem dTe_told_13 : decode bTe_told 13 = .ok (.ireturn, 1) := by decide +kernel
theorem dTe_takeVotes_0 : decode bTe_takeVotes 0 = .ok (.iconst 0, 1) := by decide +kernel
theorem dTe_takeVotes_1 : decode bTe_takeVotes 1 = .ok (.istore 4, 2) := by decide +kernel
theorem dTe_takeVotes_3 : decode bTe_takeVotes 3 = .ok (.iload 4, 2) := by decide +kernel
theorem dTe_takeVotes_5 : decode bTe_takeVotes 5 = .ok (.aload_n 0, 1) := by decide +kernel
theorem dTe_takeVotes_6 : decode bTe_takeVotes 6 = .ok (.getfield 15, 3) := by decide +kernel
theorem dTe_takeVotes_9 : decode bTe_takeVotes 9 = .ok (.if_icmp .ge (17), 3) := by decide +kernel
theorem dTe_takeVotes_12 : decode bTe_takeVotes 12 = .ok (.aload_n 0, 1) := by decide +kernel
theorem dTe_takeVotes_13 : decode bTe_takeVotes 13 = .ok (.getfield 23, 3) := by decide +kernel
theorem dTe_takeVotes_16 : decode bTe_takeVotes 16 = .ok (.iload 4, 2) := by decide +kernel
theorem dTe_takeVotes_18 : decode bTe_takeVotes 18 = .ok (.iconst 0, 1) := by decide +kernel
theorem dTe_takeVotes_19 : decode bTe_takeVotes 19 = .ok (.iastore, 1) := by decide +kernel
theorem dTe_takeVotes_20 : decode bTe_takeVotes 20 = .ok (.iinc 4 (1), 3) := by decide +kernel
theorem dTe_takeVotes_23 : decode bTe_takeVotes 23 = .ok (.goto (-20), 3) := by decide +kernel
theorem dTe_takeVotes_26 : decode bTe_takeVotes 26 = .ok (.iconst 0, 1) := by decide +kernel
theorem dTe_takeVotes_27 : decode bTe_takeVotes 27 = .ok (.istore 4, 2) := by decide +kernel
theorem dTe_takeVotes_29 : decode bTe_takeVotes 29 = .ok (.iload 4, 2) := by decide +kernel
theorem dTe_takeVotes_31 : decode bTe_takeVotes 31 = .ok (.aload_n 0, 1) := by decide +kernel
theorem dTe_takeVotes_32 : decode bTe_takeVotes 32 = .ok (.getfield 9, 3) := by decide +kernel
theorem dTe_takeVotes_35 : decode bTe_takeVotes 35 = .ok (.getfield 49, 3) := by decide +kernel
theorem dTe_takeVotes_38 : decode bTe_takeVotes 38 = .ok (.if_icmp .ge (55), 3) := by decide +kernel
theorem dTe_takeVotes_41 : decode bTe_takeVotes 41 = .ok (.aload_n 0, 1) := by decide +kernel
theorem dTe_takeVotes_42 : decode bTe_takeVotes 42 = .ok (.getfield 9, 3) := by decide +kernel
theorem dTe_takeVotes_45 : decode bTe_takeVotes 45 = .ok (.getfield 52, 3) := by decide +kernel
theorem dTe_takeVotes_48 : decode bTe_takeVotes 48 = .ok (.iload 4, 2) := by decide +kernel
theorem dTe_takeVotes_50 : decode bTe_takeVotes 50 = .ok (.iaload, 1) := by decide +kernel
theorem dTe_takeVotes_51 : decode bTe_takeVotes 51 = .ok (.istore 5, 2) := by decide +kernel
theorem dTe_takeVotes_53 : decode bTe_takeVotes 53 = .ok (.iload 4, 2) := by decide +kernel
theorem dTe_takeVotes_55 : decode bTe_takeVotes 55 = .ok (.iload_n 1, 1) := by decide +kernel
theorem dTe_takeVotes_56 : decode bTe_takeVotes 56 = .ok (.if_icmp .eq (31), 3) := by decide +kernel
theorem dTe_takeVotes_59 : decode bTe_takeVotes 59 = .ok (.iload 5, 2) := by decide +kernel
theorem dTe_takeVotes_61 : decode bTe_takeVotes 61 = .ok (.iconst (-1), 1) := by decide +kernel
theorem dTe_takeVotes_62 : decode bTe_takeVotes 62 = .ok (.if_icmp .eq (25), 3) := by decide +kernel
theorem dTe_takeVotes_65 : decode bTe_takeVotes 65 = .ok (.aload_n 0, 1) := by decide +kernel
theorem dTe_takeVotes_66 : decode bTe_takeVotes 66 = .ok (.getfield 23, 3) := by decide +kernel
theorem dTe_takeVotes_69 : decode bTe_takeVotes 69 = .ok (.iload 5, 2) := by decide +kernel
theorem dTe_takeVotes_71 : decode bTe_takeVotes 71 = .ok (.dup2, 1) := by decide +kernel
theorem dTe_takeVotes_72 : decode bTe_takeVotes 72 = .ok (.iaload, 1) := by decide +kernel
theorem dTe_takeVotes_73 : decode bTe_takeVotes 73 = .ok (.aload_n 0, 1) := by decide +kernel
theorem dTe_takeVotes_74 : decode bTe_takeVotes 74 = .ok (.getfield 9, 3) := by decide +kernel
theorem dTe_takeVotes_77 : decode bTe_takeVotes 77 = .ok (.iload_n 1, 1) := by decide +kernel
theorem dTe_takeVotes_78 : decode bTe_takeVotes 78 = .ok (.iload 4, 2) := by decide +kernel
theorem dTe_takeVotes_80 : decode bTe_takeVotes 80 = .ok (.iload_n 2, 1) := by decide +kernel
theorem dTe_takeVotes_81 : decode bTe_takeVotes 81 = .ok (.iload_n 3, 1) := by decide +kernel
theorem dTe_takeVotes_82 : decode bTe_takeVotes 82 = .ok (.invokevirtual 55, 3) := by decide +kernel
theorem dTe_takeVotes_85 : decode bTe_takeVotes 85 = .ok (.iadd, 1) := by decide +kernel
theorem dTe_takeVotes_86 : decode bTe_takeVotes 86 = .ok (.iastore, 1) := by decide +kernel
theorem dTe_takeVotes_87 : decode bTe_takeVotes 87 = .ok (.iinc 4 (1), 3) := by decide +kernel
theorem dTe_takeVotes_90 : decode bTe_takeVotes 90 = .ok (.goto (-61), 3) := by decide +kernel
theorem dTe_takeVotes_93 : decode bTe_takeVotes 93 = .ok (.return_, 1) := by decide +kernel
theorem dTe_toldBy_0 : decode bTe_toldBy 0 = .ok (.aload_n 0, 1) := by decide +kernel
