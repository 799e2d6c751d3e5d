theorem dMo_count_1 : decode bMo_count 1 = .ok (.iconst 0, 1) := by decide +kernel
theorem dMo_count_2 : decode bMo_count 2 = .ok (.putfield 53, 3) := by decide +kernel
theorem dMo_count_5 : decode bMo_count 5 = .ok (.iconst 0, 1) := by decide +kernel
theorem dMo_count_6 : decode bMo_count 6 = .ok (.istore_n 2, 1) := by decide +kernel
theorem dMo_count_7 : decode bMo_count 7 = .ok (.iconst 0, 1) := by decide +kernel
theorem dMo_count_8 : decode bMo_count 8 = .ok (.istore_n 3, 1) := by decide +kernel
theorem dMo_count_9 : decode bMo_count 9 = .ok (.iload_n 3, 1) := by decide +kernel
theorem dMo_count_10 : decode bMo_count 10 = .ok (.aload_n 0, 1) := by decide +kernel
theorem dMo_count_11 : decode bMo_count 11 = .ok (.getfield 60, 3) := by decide +kernel
theorem dMo_count_14 : decode bMo_count 14 = .ok (.if_icmp .ge (27), 3) := by decide +kernel
theorem dMo_count_17 : decode bMo_count 17 = .ok (.aload_n 0, 1) := by decide +kernel
theorem dMo_count_18 : decode bMo_count 18 = .ok (.getfield 13, 3) := by decide +kernel
theorem dMo_count_21 : decode bMo_count 21 = .ok (.iload_n 3, 1) := by decide +kernel
theorem dMo_count_22 : decode bMo_count 22 = .ok (.iaload, 1) := by decide +kernel
theorem dMo_count_23 : decode bMo_count 23 = .ok (.iconst (-1), 1) := by decide +kernel
theorem dMo_count_24 : decode bMo_count 24 = .ok (.if_icmp .eq (9), 3) := by decide +kernel
theorem dMo_count_27 : decode bMo_count 27 = .ok (.iload_n 2, 1) := by decide +kernel
theorem dMo_count_28 : decode bMo_count 28 = .ok (.iconst 1, 1) := by decide +kernel
theorem dMo_count_29 : decode bMo_count 29 = .ok (.iadd, 1) := by decide +kernel
theorem dMo_count_30 : decode bMo_count 30 = .ok (.goto (4), 3) := by decide +kernel
theorem dMo_count_33 : decode bMo_count 33 = .ok (.iload_n 2, 1) := by decide +kernel
theorem dMo_count_34 : decode bMo_count 34 = .ok (.istore_n 2, 1) := by decide +kernel
theorem dMo_count_35 : decode bMo_count 35 = .ok (.iinc 3 (1), 3) := by decide +kernel
theorem dMo_count_38 : decode bMo_count 38 = .ok (.goto (-29), 3) := by decide +kernel
theorem dMo_count_41 : decode bMo_count 41 = .ok (.iload_n 1, 1) := by decide +kernel
theorem dMo_count_42 : decode bMo_count 42 = .ok (.tableswitch (56) (0) (4) #[34, 39, 41, 46, 51], 34) := by decide +kernel
theorem dMo_count_76 : decode bMo_count 76 = .ok (.aload_n 0, 1) := by decide +kernel
theorem dMo_count_77 : decode bMo_count 77 = .ok (.getfield 60, 3) := by decide +kernel
theorem dMo_count_80 : decode bMo_count 80 = .ok (.ireturn, 1) := by decide +kernel
theorem dMo_count_81 : decode bMo_count 81 = .ok (.iload_n 2, 1) := by decide +kernel
theorem dMo_count_82 : decode bMo_count 82 = .ok (.ireturn, 1) := by decide +kernel
theorem dMo_count_83 : decode bMo_count 83 = .ok (.aload_n 0, 1) := by decide +kernel
theorem dMo_count_84 : decode bMo_count 84 = .ok (.getfield 107, 3) := by decide +kernel
theorem dMo_count_87 : decode bMo_count 87 = .ok (.ireturn, 1) := by decide +kernel
theorem dMo_count_88 : decode bMo_count 88 = .ok (.aload_n 0, 1) := by decide +kernel
theorem dMo_count_89 : decode bMo_count 89 = .ok (.getfield 47, 3) := by decide +kernel
theorem dMo_count_92 : decode bMo_count 92 = .ok (.ireturn, 1) := by decide +kernel
theorem dMo_count_93 : decode bMo_count 93 = .ok (.aload_n 0, 1) := by decide +kernel
theorem dMo_count_94 : decode bMo_count 94 = .ok (.getfield 50, 3) := by decide +kernel
theorem dMo_count_97 : decode bMo_count 97 = .ok (.ireturn, 1) := by decide +kernel
theorem dMo_count_98 : decode bMo_count 98 = .ok (.iconst (-1), 1) := by decide +kernel
theorem dMo_count_99 : decode bMo_count 99 = .ok (.ireturn, 1) := by decide +kernel
