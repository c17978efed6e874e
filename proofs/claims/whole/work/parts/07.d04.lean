/-! decode rows -/
theorem dX7_find_0 : decode cX7_find 0 = .ok (.aload_n 0, 1) := by decide +kernel
theorem dX7_find_1 : decode cX7_find 1 = .ok (.aload_n 1, 1) := by decide +kernel
theorem dX7_find_2 : decode cX7_find 2 = .ok (.getfield 25, 3) := by decide +kernel
theorem dX7_find_5 : decode cX7_find 5 = .ok (.aload_n 1, 1) := by decide +kernel
theorem dX7_find_6 : decode cX7_find 6 = .ok (.getfield 25, 3) := by decide +kernel
theorem dX7_find_9 : decode cX7_find 9 = .ok (.imul, 1) := by decide +kernel
theorem dX7_find_10 : decode cX7_find 10 = .ok (.putfield 9, 3) := by decide +kernel
theorem dX7_find_13 : decode cX7_find 13 = .ok (.iconst 0, 1) := by decide +kernel
theorem dX7_find_14 : decode cX7_find 14 = .ok (.istore_n 3, 1) := by decide +kernel
theorem dX7_find_15 : decode cX7_find 15 = .ok (.iload_n 3, 1) := by decide +kernel
theorem dX7_find_16 : decode cX7_find 16 = .ok (.aload_n 1, 1) := by decide +kernel
theorem dX7_find_17 : decode cX7_find 17 = .ok (.getfield 25, 3) := by decide +kernel
theorem dX7_find_20 : decode cX7_find 20 = .ok (.if_icmp .ge 49, 3) := by decide +kernel
theorem dX7_find_23 : decode cX7_find 23 = .ok (.aload_n 0, 1) := by decide +kernel
theorem dX7_find_24 : decode cX7_find 24 = .ok (.aload_n 1, 1) := by decide +kernel
theorem dX7_find_25 : decode cX7_find 25 = .ok (.iload_n 2, 1) := by decide +kernel
theorem dX7_find_26 : decode cX7_find 26 = .ok (.iload_n 3, 1) := by decide +kernel
theorem dX7_find_27 : decode cX7_find 27 = .ok (.invokevirtual 30, 3) := by decide +kernel
theorem dX7_find_30 : decode cX7_find 30 = .ok (.iconst 0, 1) := by decide +kernel
theorem dX7_find_31 : decode cX7_find 31 = .ok (.istore 4, 2) := by decide +kernel
theorem dX7_find_33 : decode cX7_find 33 = .ok (.iload 4, 2) := by decide +kernel
theorem dX7_find_35 : decode cX7_find 35 = .ok (.aload_n 1, 1) := by decide +kernel
theorem dX7_find_36 : decode cX7_find 36 = .ok (.getfield 25, 3) := by decide +kernel
theorem dX7_find_39 : decode cX7_find 39 = .ok (.if_icmp .ge 24, 3) := by decide +kernel
theorem dX7_find_42 : decode cX7_find 42 = .ok (.aload_n 0, 1) := by decide +kernel
theorem dX7_find_43 : decode cX7_find 43 = .ok (.aload_n 1, 1) := by decide +kernel
theorem dX7_find_44 : decode cX7_find 44 = .ok (.iload_n 2, 1) := by decide +kernel
theorem dX7_find_45 : decode cX7_find 45 = .ok (.iload 4, 2) := by decide +kernel
theorem dX7_find_47 : decode cX7_find 47 = .ok (.aload_n 1, 1) := by decide +kernel
theorem dX7_find_48 : decode cX7_find 48 = .ok (.iload 4, 2) := by decide +kernel
theorem dX7_find_50 : decode cX7_find 50 = .ok (.iload_n 3, 1) := by decide +kernel
theorem dX7_find_51 : decode cX7_find 51 = .ok (.invokevirtual 34, 3) := by decide +kernel
theorem dX7_find_54 : decode cX7_find 54 = .ok (.invokevirtual 38, 3) := by decide +kernel
theorem dX7_find_57 : decode cX7_find 57 = .ok (.iinc 4 1, 3) := by decide +kernel
theorem dX7_find_60 : decode cX7_find 60 = .ok (.goto (-27), 3) := by decide +kernel
theorem dX7_find_63 : decode cX7_find 63 = .ok (.iinc 3 1, 3) := by decide +kernel
theorem dX7_find_66 : decode cX7_find 66 = .ok (.goto (-51), 3) := by decide +kernel
theorem dX7_find_69 : decode cX7_find 69 = .ok (.return_, 1) := by decide +kernel
theorem dX7_isRouted_0 : decode cX7_isRouted 0 = .ok (.aload_n 0, 1) := by decide +kernel
theorem dX7_isRouted_1 : decode cX7_isRouted 1 = .ok (.getfield 15, 3) := by decide +kernel
theorem dX7_isRouted_4 : decode cX7_isRouted 4 = .ok (.iload_n 1, 1) := by decide +kernel
theorem dX7_isRouted_5 : decode cX7_isRouted 5 = .ok (.iaload, 1) := by decide +kernel
theorem dX7_isRouted_6 : decode cX7_isRouted 6 = .ok (.ifCond .le 7, 3) := by decide +kernel
theorem dX7_isRouted_9 : decode cX7_isRouted 9 = .ok (.iconst 1, 1) := by decide +kernel
theorem dX7_isRouted_10 : decode cX7_isRouted 10 = .ok (.goto 4, 3) := by decide +kernel
theorem dX7_isRouted_13 : decode cX7_isRouted 13 = .ok (.iconst 0, 1) := by decide +kernel
theorem dX7_isRouted_14 : decode cX7_isRouted 14 = .ok (.ireturn, 1) := by decide +kernel
theorem dX7_lineAt_0 : decode cX7_lineAt 0 = .ok (.aload_n 0, 1) := by decide +kernel
theorem dX7_lineAt_1 : decode cX7_lineAt 1 = .ok (.getfield 19, 3) := by decide +kernel
theorem dX7_lineAt_4 : decode cX7_lineAt 4 = .ok (.iload_n 1, 1) := by decide +kernel
theorem dX7_lineAt_5 : decode cX7_lineAt 5 = .ok (.iconst 5, 1) := by decide +kernel
theorem dX7_lineAt_6 : decode cX7_lineAt 6 = .ok (.imul, 1) := by decide +kernel
theorem dX7_lineAt_7 : decode cX7_lineAt 7 = .ok (.iload_n 2, 1) := by decide +kernel
theorem dX7_lineAt_8 : decode cX7_lineAt 8 = .ok (.iadd, 1) := by decide +kernel
theorem dX7_lineAt_9 : decode cX7_lineAt 9 = .ok (.iaload, 1) := by decide +kernel
theorem dX7_lineAt_10 : decode cX7_lineAt 10 = .ok (.ireturn, 1) := by decide +kernel
theorem dX7_goesBy_0 : decode cX7_goesBy 0 = .ok (.iconst 0, 1) := by decide +kernel
theorem dX7_goesBy_1 : decode cX7_goesBy 1 = .ok (.istore_n 3, 1) := by decide +kernel
theorem dX7_goesBy_2 : decode cX7_goesBy 2 = .ok (.iload_n 3, 1) := by decide +kernel
theorem dX7_goesBy_3 : decode cX7_goesBy 3 = .ok (.aload_n 0, 1) := by decide +kernel
theorem dX7_goesBy_4 : decode cX7_goesBy 4 = .ok (.getfield 15, 3) := by decide +kernel
theorem dX7_goesBy_7 : decode cX7_goesBy 7 = .ok (.iload_n 1, 1) := by decide +kernel
theorem dX7_goesBy_8 : decode cX7_goesBy 8 = .ok (.iaload, 1) := by decide +kernel
theorem dX7_goesBy_9 : decode cX7_goesBy 9 = .ok (.if_icmp .ge 21, 3) := by decide +kernel
theorem dX7_goesBy_12 : decode cX7_goesBy 12 = .ok (.aload_n 0, 1) := by decide +kernel
theorem dX7_goesBy_13 : decode cX7_goesBy 13 = .ok (.iload_n 1, 1) := by decide +kernel
theorem dX7_goesBy_14 : decode cX7_goesBy 14 = .ok (.iload_n 3, 1) := by decide +kernel
theorem dX7_goesBy_15 : decode cX7_goesBy 15 = .ok (.invokevirtual 42, 3) := by decide +kernel
theorem dX7_goesBy_18 : decode cX7_goesBy 18 = .ok (.iload_n 2, 1) := by decide +kernel
theorem dX7_goesBy_19 : decode cX7_goesBy 19 = .ok (.if_icmp .ne 5, 3) := by decide +kernel
theorem dX7_goesBy_22 : decode cX7_goesBy 22 = .ok (.iconst 1, 1) := by decide +kernel
theorem dX7_goesBy_23 : decode cX7_goesBy 23 = .ok (.ireturn, 1) := by decide +kernel
theorem dX7_goesBy_24 : decode cX7_goesBy 24 = .ok (.iinc 3 1, 3) := by decide +kernel
theorem dX7_goesBy_27 : decode cX7_goesBy 27 = .ok (.goto (-25), 3) := by decide +kernel
theorem dX7_goesBy_30 : decode cX7_goesBy 30 = .ok (.iconst 0, 1) := by decide +kernel
theorem dX7_goesBy_31 : decode cX7_goesBy 31 = .ok (.ireturn, 1) := by decide +kernel
theorem dX7_pairsOn_0 : decode cX7_pairsOn 0 = .ok (.iconst 0, 1) := by decide +kernel
theorem dX7_pairsOn_1 : decode cX7_pairsOn 1 = .ok (.istore_n 2, 1) := by decide +kernel
theorem dX7_pairsOn_2 : decode cX7_pairsOn 2 = .ok (.iconst 0, 1) := by decide +kernel
theorem dX7_pairsOn_3 : decode cX7_pairsOn 3 = .ok (.istore_n 3, 1) := by decide +kernel
theorem dX7_pairsOn_4 : decode cX7_pairsOn 4 = .ok (.iload_n 3, 1) := by decide +kernel
theorem dX7_pairsOn_5 : decode cX7_pairsOn 5 = .ok (.aload_n 0, 1) := by decide +kernel
theorem dX7_pairsOn_6 : decode cX7_pairsOn 6 = .ok (.getfield 9, 3) := by decide +kernel
theorem dX7_pairsOn_9 : decode cX7_pairsOn 9 = .ok (.if_icmp .ge 21, 3) := by decide +kernel
theorem dX7_pairsOn_12 : decode cX7_pairsOn 12 = .ok (.aload_n 0, 1) := by decide +kernel
theorem dX7_pairsOn_13 : decode cX7_pairsOn 13 = .ok (.iload_n 3, 1) := by decide +kernel
theorem dX7_pairsOn_14 : decode cX7_pairsOn 14 = .ok (.iload_n 1, 1) := by decide +kernel
theorem dX7_pairsOn_15 : decode cX7_pairsOn 15 = .ok (.invokevirtual 45, 3) := by decide +kernel
theorem dX7_pairsOn_18 : decode cX7_pairsOn 18 = .ok (.ifCond .eq 6, 3) := by decide +kernel
theorem dX7_pairsOn_21 : decode cX7_pairsOn 21 = .ok (.iinc 2 1, 3) := by decide +kernel
theorem dX7_pairsOn_24 : decode cX7_pairsOn 24 = .ok (.iinc 3 1, 3) := by decide +kernel
theorem dX7_pairsOn_27 : decode cX7_pairsOn 27 = .ok (.goto (-23), 3) := by decide +kernel
theorem dX7_pairsOn_30 : decode cX7_pairsOn 30 = .ok (.iload_n 2, 1) := by decide +kernel
theorem dX7_pairsOn_31 : decode cX7_pairsOn 31 = .ok (.ireturn, 1) := by decide +kernel
theorem dX7_pairsCut_0 : decode cX7_pairsCut 0 = .ok (.iconst 0, 1) := by decide +kernel
theorem dX7_pairsCut_1 : decode cX7_pairsCut 1 = .ok (.istore_n 1, 1) := by decide +kernel
theorem dX7_pairsCut_2 : decode cX7_pairsCut 2 = .ok (.iconst 0, 1) := by decide +kernel
theorem dX7_pairsCut_3 : decode cX7_pairsCut 3 = .ok (.istore_n 2, 1) := by decide +kernel
theorem dX7_pairsCut_4 : decode cX7_pairsCut 4 = .ok (.iload_n 2, 1) := by decide +kernel
theorem dX7_pairsCut_5 : decode cX7_pairsCut 5 = .ok (.aload_n 0, 1) := by decide +kernel
theorem dX7_pairsCut_6 : decode cX7_pairsCut 6 = .ok (.getfield 9, 3) := by decide +kernel
theorem dX7_pairsCut_9 : decode cX7_pairsCut 9 = .ok (.if_icmp .ge 22, 3) := by decide +kernel
theorem dX7_pairsCut_12 : decode cX7_pairsCut 12 = .ok (.aload_n 0, 1) := by decide +kernel
theorem dX7_pairsCut_13 : decode cX7_pairsCut 13 = .ok (.getfield 15, 3) := by decide +kernel
theorem dX7_pairsCut_16 : decode cX7_pairsCut 16 = .ok (.iload_n 2, 1) := by decide +kernel
theorem dX7_pairsCut_17 : decode cX7_pairsCut 17 = .ok (.iaload, 1) := by decide +kernel
theorem dX7_pairsCut_18 : decode cX7_pairsCut 18 = .ok (.iconst (-1), 1) := by decide +kernel
theorem dX7_pairsCut_19 : decode cX7_pairsCut 19 = .ok (.if_icmp .ne 6, 3) := by decide +kernel
theorem dX7_pairsCut_22 : decode cX7_pairsCut 22 = .ok (.iinc 1 1, 3) := by decide +kernel
theorem dX7_pairsCut_25 : decode cX7_pairsCut 25 = .ok (.iinc 2 1, 3) := by decide +kernel
theorem dX7_pairsCut_28 : decode cX7_pairsCut 28 = .ok (.goto (-24), 3) := by decide +kernel
theorem dX7_pairsCut_31 : decode cX7_pairsCut 31 = .ok (.iload_n 1, 1) := by decide +kernel
theorem dX7_pairsCut_32 : decode cX7_pairsCut 32 = .ok (.ireturn, 1) := by decide +kernel
theorem dX7_measure_0 : decode cX7_measure 0 = .ok (.aload_n 0, 1) := by decide +kernel
theorem dX7_measure_1 : decode cX7_measure 1 = .ok (.getfield 22, 3) := by decide +kernel
theorem dX7_measure_4 : decode cX7_measure 4 = .ok (.bipush 6, 2) := by decide +kernel
theorem dX7_measure_6 : decode cX7_measure 6 = .ok (.invokestatic 49, 3) := by decide +kernel
theorem dX7_measure_9 : decode cX7_measure 9 = .ok (.aload_n 0, 1) := by decide +kernel
theorem dX7_measure_10 : decode cX7_measure 10 = .ok (.getfield 22, 3) := by decide +kernel
theorem dX7_measure_13 : decode cX7_measure 13 = .ok (.iload_n 3, 1) := by decide +kernel
theorem dX7_measure_14 : decode cX7_measure 14 = .ok (.iconst 0, 1) := by decide +kernel
theorem dX7_measure_15 : decode cX7_measure 15 = .ok (.iastore, 1) := by decide +kernel
theorem dX7_measure_16 : decode cX7_measure 16 = .ok (.iconst 0, 1) := by decide +kernel
theorem dX7_measure_17 : decode cX7_measure 17 = .ok (.istore 4, 2) := by decide +kernel
theorem dX7_measure_19 : decode cX7_measure 19 = .ok (.iload 4, 2) := by decide +kernel
theorem dX7_measure_21 : decode cX7_measure 21 = .ok (.aload_n 1, 1) := by decide +kernel
theorem dX7_measure_22 : decode cX7_measure 22 = .ok (.getfield 25, 3) := by decide +kernel
theorem dX7_measure_25 : decode cX7_measure 25 = .ok (.if_icmp .ge 86, 3) := by decide +kernel
theorem dX7_measure_28 : decode cX7_measure 28 = .ok (.iconst 0, 1) := by decide +kernel
theorem dX7_measure_29 : decode cX7_measure 29 = .ok (.istore 5, 2) := by decide +kernel
theorem dX7_measure_31 : decode cX7_measure 31 = .ok (.iload 5, 2) := by decide +kernel
theorem dX7_measure_33 : decode cX7_measure 33 = .ok (.aload_n 1, 1) := by decide +kernel
theorem dX7_measure_34 : decode cX7_measure 34 = .ok (.getfield 55, 3) := by decide +kernel
theorem dX7_measure_37 : decode cX7_measure 37 = .ok (.if_icmp .ge 68, 3) := by decide +kernel
theorem dX7_measure_40 : decode cX7_measure 40 = .ok (.aload_n 1, 1) := by decide +kernel
theorem dX7_measure_41 : decode cX7_measure 41 = .ok (.iload_n 2, 1) := by decide +kernel
theorem dX7_measure_42 : decode cX7_measure 42 = .ok (.iload 5, 2) := by decide +kernel
theorem dX7_measure_44 : decode cX7_measure 44 = .ok (.invokestatic 58, 3) := by decide +kernel
theorem dX7_measure_47 : decode cX7_measure 47 = .ok (.ifCond .eq 6, 3) := by decide +kernel
theorem dX7_measure_50 : decode cX7_measure 50 = .ok (.goto 49, 3) := by decide +kernel
theorem dX7_measure_53 : decode cX7_measure 53 = .ok (.aload_n 1, 1) := by decide +kernel
theorem dX7_measure_54 : decode cX7_measure 54 = .ok (.getfield 62, 3) := by decide +kernel
theorem dX7_measure_57 : decode cX7_measure 57 = .ok (.iload 5, 2) := by decide +kernel
theorem dX7_measure_59 : decode cX7_measure 59 = .ok (.aaload, 1) := by decide +kernel
theorem dX7_measure_60 : decode cX7_measure 60 = .ok (.getfield 66, 3) := by decide +kernel
theorem dX7_measure_63 : decode cX7_measure 63 = .ok (.istore 6, 2) := by decide +kernel
theorem dX7_measure_65 : decode cX7_measure 65 = .ok (.aload_n 0, 1) := by decide +kernel
theorem dX7_measure_66 : decode cX7_measure 66 = .ok (.getfield 22, 3) := by decide +kernel
theorem dX7_measure_69 : decode cX7_measure 69 = .ok (.iload 6, 2) := by decide +kernel
theorem dX7_measure_71 : decode cX7_measure 71 = .ok (.aload_n 0, 1) := by decide +kernel
theorem dX7_measure_72 : decode cX7_measure 72 = .ok (.getfield 22, 3) := by decide +kernel
theorem dX7_measure_75 : decode cX7_measure 75 = .ok (.iload 6, 2) := by decide +kernel
theorem dX7_measure_77 : decode cX7_measure 77 = .ok (.iaload, 1) := by decide +kernel
theorem dX7_measure_78 : decode cX7_measure 78 = .ok (.aload_n 0, 1) := by decide +kernel
theorem dX7_measure_79 : decode cX7_measure 79 = .ok (.getfield 22, 3) := by decide +kernel
theorem dX7_measure_82 : decode cX7_measure 82 = .ok (.aload_n 1, 1) := by decide +kernel
theorem dX7_measure_83 : decode cX7_measure 83 = .ok (.getfield 62, 3) := by decide +kernel
theorem dX7_measure_86 : decode cX7_measure 86 = .ok (.iload 5, 2) := by decide +kernel
theorem dX7_measure_88 : decode cX7_measure 88 = .ok (.aaload, 1) := by decide +kernel
theorem dX7_measure_89 : decode cX7_measure 89 = .ok (.getfield 71, 3) := by decide +kernel
theorem dX7_measure_92 : decode cX7_measure 92 = .ok (.iaload, 1) := by decide +kernel
theorem dX7_measure_93 : decode cX7_measure 93 = .ok (.iconst 1, 1) := by decide +kernel
theorem dX7_measure_94 : decode cX7_measure 94 = .ok (.iadd, 1) := by decide +kernel
theorem dX7_measure_95 : decode cX7_measure 95 = .ok (.invokestatic 74, 3) := by decide +kernel
theorem dX7_measure_98 : decode cX7_measure 98 = .ok (.iastore, 1) := by decide +kernel
theorem dX7_measure_99 : decode cX7_measure 99 = .ok (.iinc 5 1, 3) := by decide +kernel
theorem dX7_measure_102 : decode cX7_measure 102 = .ok (.goto (-71), 3) := by decide +kernel
theorem dX7_measure_105 : decode cX7_measure 105 = .ok (.iinc 4 1, 3) := by decide +kernel
theorem dX7_measure_108 : decode cX7_measure 108 = .ok (.goto (-89), 3) := by decide +kernel
theorem dX7_measure_111 : decode cX7_measure 111 = .ok (.return_, 1) := by decide +kernel
theorem dX7_isShut_0 : decode cX7_isShut 0 = .ok (.iload_n 2, 1) := by decide +kernel
theorem dX7_isShut_1 : decode cX7_isShut 1 = .ok (.iload_n 1, 1) := by decide +kernel
theorem dX7_isShut_2 : decode cX7_isShut 2 = .ok (.if_icmp .eq 15, 3) := by decide +kernel
theorem dX7_isShut_5 : decode cX7_isShut 5 = .ok (.aload_n 0, 1) := by decide +kernel
theorem dX7_isShut_6 : decode cX7_isShut 6 = .ok (.getfield 62, 3) := by decide +kernel
theorem dX7_isShut_9 : decode cX7_isShut 9 = .ok (.iload_n 2, 1) := by decide +kernel
theorem dX7_isShut_10 : decode cX7_isShut 10 = .ok (.aaload, 1) := by decide +kernel
theorem dX7_isShut_11 : decode cX7_isShut 11 = .ok (.getfield 79, 3) := by decide +kernel
theorem dX7_isShut_14 : decode cX7_isShut 14 = .ok (.ifCond .eq 7, 3) := by decide +kernel
theorem dX7_isShut_17 : decode cX7_isShut 17 = .ok (.iconst 1, 1) := by decide +kernel
theorem dX7_isShut_18 : decode cX7_isShut 18 = .ok (.goto 4, 3) := by decide +kernel
theorem dX7_isShut_21 : decode cX7_isShut 21 = .ok (.iconst 0, 1) := by decide +kernel
theorem dX7_isShut_22 : decode cX7_isShut 22 = .ok (.ireturn, 1) := by decide +kernel
theorem dX7_walk_0 : decode cX7_walk 0 = .ok (.aload_n 0, 1) := by decide +kernel
theorem dX7_walk_1 : decode cX7_walk 1 = .ok (.getfield 15, 3) := by decide +kernel
theorem dX7_walk_4 : decode cX7_walk 4 = .ok (.iload 4, 2) := by decide +kernel
theorem dX7_walk_6 : decode cX7_walk 6 = .ok (.aload_n 0, 1) := by decide +kernel
theorem dX7_walk_7 : decode cX7_walk 7 = .ok (.getfield 22, 3) := by decide +kernel
theorem dX7_walk_10 : decode cX7_walk 10 = .ok (.iload_n 3, 1) := by decide +kernel
theorem dX7_walk_11 : decode cX7_walk 11 = .ok (.iaload, 1) := by decide +kernel
theorem dX7_walk_12 : decode cX7_walk 12 = .ok (.bipush 6, 2) := by decide +kernel
theorem dX7_walk_14 : decode cX7_walk 14 = .ok (.if_icmp .ge 12, 3) := by decide +kernel
theorem dX7_walk_17 : decode cX7_walk 17 = .ok (.aload_n 0, 1) := by decide +kernel
theorem dX7_walk_18 : decode cX7_walk 18 = .ok (.getfield 22, 3) := by decide +kernel
theorem dX7_walk_21 : decode cX7_walk 21 = .ok (.iload_n 3, 1) := by decide +kernel
theorem dX7_walk_22 : decode cX7_walk 22 = .ok (.iaload, 1) := by decide +kernel
theorem dX7_walk_23 : decode cX7_walk 23 = .ok (.goto 4, 3) := by decide +kernel
theorem dX7_walk_26 : decode cX7_walk 26 = .ok (.iconst (-1), 1) := by decide +kernel
theorem dX7_walk_27 : decode cX7_walk 27 = .ok (.iastore, 1) := by decide +kernel
theorem dX7_walk_28 : decode cX7_walk 28 = .ok (.iload_n 3, 1) := by decide +kernel
theorem dX7_walk_29 : decode cX7_walk 29 = .ok (.istore 5, 2) := by decide +kernel
theorem dX7_walk_31 : decode cX7_walk 31 = .ok (.iconst 0, 1) := by decide +kernel
theorem dX7_walk_32 : decode cX7_walk 32 = .ok (.istore 6, 2) := by decide +kernel
theorem dX7_walk_34 : decode cX7_walk 34 = .ok (.iload 6, 2) := by decide +kernel
theorem dX7_walk_36 : decode cX7_walk 36 = .ok (.aload_n 0, 1) := by decide +kernel
theorem dX7_walk_37 : decode cX7_walk 37 = .ok (.getfield 15, 3) := by decide +kernel
theorem dX7_walk_40 : decode cX7_walk 40 = .ok (.iload 4, 2) := by decide +kernel
theorem dX7_walk_42 : decode cX7_walk 42 = .ok (.iaload, 1) := by decide +kernel
theorem dX7_walk_43 : decode cX7_walk 43 = .ok (.if_icmp .ge 114, 3) := by decide +kernel
theorem dX7_walk_46 : decode cX7_walk 46 = .ok (.iconst 0, 1) := by decide +kernel
theorem dX7_walk_47 : decode cX7_walk 47 = .ok (.istore 7, 2) := by decide +kernel
theorem dX7_walk_49 : decode cX7_walk 49 = .ok (.iload 7, 2) := by decide +kernel
theorem dX7_walk_51 : decode cX7_walk 51 = .ok (.aload_n 1, 1) := by decide +kernel
theorem dX7_walk_52 : decode cX7_walk 52 = .ok (.getfield 55, 3) := by decide +kernel
theorem dX7_walk_55 : decode cX7_walk 55 = .ok (.if_icmp .ge 96, 3) := by decide +kernel
theorem dX7_walk_58 : decode cX7_walk 58 = .ok (.aload_n 1, 1) := by decide +kernel
theorem dX7_walk_59 : decode cX7_walk 59 = .ok (.iload_n 2, 1) := by decide +kernel
theorem dX7_walk_60 : decode cX7_walk 60 = .ok (.iload 7, 2) := by decide +kernel
theorem dX7_walk_62 : decode cX7_walk 62 = .ok (.invokestatic 58, 3) := by decide +kernel
theorem dX7_walk_65 : decode cX7_walk 65 = .ok (.ifCond .ne 80, 3) := by decide +kernel
theorem dX7_walk_68 : decode cX7_walk 68 = .ok (.aload_n 1, 1) := by decide +kernel
theorem dX7_walk_69 : decode cX7_walk 69 = .ok (.getfield 62, 3) := by decide +kernel
theorem dX7_walk_72 : decode cX7_walk 72 = .ok (.iload 7, 2) := by decide +kernel
theorem dX7_walk_74 : decode cX7_walk 74 = .ok (.aaload, 1) := by decide +kernel
theorem dX7_walk_75 : decode cX7_walk 75 = .ok (.getfield 66, 3) := by decide +kernel
theorem dX7_walk_78 : decode cX7_walk 78 = .ok (.iload 5, 2) := by decide +kernel
theorem dX7_walk_80 : decode cX7_walk 80 = .ok (.if_icmp .eq 6, 3) := by decide +kernel
theorem dX7_walk_83 : decode cX7_walk 83 = .ok (.goto 62, 3) := by decide +kernel
theorem dX7_walk_86 : decode cX7_walk 86 = .ok (.aload_n 0, 1) := by decide +kernel
theorem dX7_walk_87 : decode cX7_walk 87 = .ok (.getfield 22, 3) := by decide +kernel
theorem dX7_walk_90 : decode cX7_walk 90 = .ok (.aload_n 1, 1) := by decide +kernel
theorem dX7_walk_91 : decode cX7_walk 91 = .ok (.getfield 62, 3) := by decide +kernel
theorem dX7_walk_94 : decode cX7_walk 94 = .ok (.iload 7, 2) := by decide +kernel
theorem dX7_walk_96 : decode cX7_walk 96 = .ok (.aaload, 1) := by decide +kernel
theorem dX7_walk_97 : decode cX7_walk 97 = .ok (.getfield 71, 3) := by decide +kernel
theorem dX7_walk_100 : decode cX7_walk 100 = .ok (.iaload, 1) := by decide +kernel
theorem dX7_walk_101 : decode cX7_walk 101 = .ok (.aload_n 0, 1) := by decide +kernel
theorem dX7_walk_102 : decode cX7_walk 102 = .ok (.getfield 22, 3) := by decide +kernel
theorem dX7_walk_105 : decode cX7_walk 105 = .ok (.iload 5, 2) := by decide +kernel
theorem dX7_walk_107 : decode cX7_walk 107 = .ok (.iaload, 1) := by decide +kernel
theorem dX7_walk_108 : decode cX7_walk 108 = .ok (.iconst 1, 1) := by decide +kernel
theorem dX7_walk_109 : decode cX7_walk 109 = .ok (.isub, 1) := by decide +kernel
theorem dX7_walk_110 : decode cX7_walk 110 = .ok (.if_icmp .eq 6, 3) := by decide +kernel
theorem dX7_walk_113 : decode cX7_walk 113 = .ok (.goto 32, 3) := by decide +kernel
theorem dX7_walk_116 : decode cX7_walk 116 = .ok (.aload_n 0, 1) := by decide +kernel
theorem dX7_walk_117 : decode cX7_walk 117 = .ok (.getfield 19, 3) := by decide +kernel
theorem dX7_walk_120 : decode cX7_walk 120 = .ok (.iload 4, 2) := by decide +kernel
theorem dX7_walk_122 : decode cX7_walk 122 = .ok (.iconst 5, 1) := by decide +kernel
theorem dX7_walk_123 : decode cX7_walk 123 = .ok (.imul, 1) := by decide +kernel
theorem dX7_walk_124 : decode cX7_walk 124 = .ok (.iload 6, 2) := by decide +kernel
theorem dX7_walk_126 : decode cX7_walk 126 = .ok (.iadd, 1) := by decide +kernel
theorem dX7_walk_127 : decode cX7_walk 127 = .ok (.iload 7, 2) := by decide +kernel
theorem dX7_walk_129 : decode cX7_walk 129 = .ok (.iastore, 1) := by decide +kernel
theorem dX7_walk_130 : decode cX7_walk 130 = .ok (.aload_n 1, 1) := by decide +kernel
theorem dX7_walk_131 : decode cX7_walk 131 = .ok (.getfield 62, 3) := by decide +kernel
theorem dX7_walk_134 : decode cX7_walk 134 = .ok (.iload 7, 2) := by decide +kernel
theorem dX7_walk_136 : decode cX7_walk 136 = .ok (.aaload, 1) := by decide +kernel
theorem dX7_walk_137 : decode cX7_walk 137 = .ok (.getfield 71, 3) := by decide +kernel
theorem dX7_walk_140 : decode cX7_walk 140 = .ok (.istore 5, 2) := by decide +kernel
theorem dX7_walk_142 : decode cX7_walk 142 = .ok (.goto 9, 3) := by decide +kernel
theorem dX7_walk_145 : decode cX7_walk 145 = .ok (.iinc 7 1, 3) := by decide +kernel
theorem dX7_walk_148 : decode cX7_walk 148 = .ok (.goto (-99), 3) := by decide +kernel
theorem dX7_walk_151 : decode cX7_walk 151 = .ok (.iinc 6 1, 3) := by decide +kernel
theorem dX7_walk_154 : decode cX7_walk 154 = .ok (.goto (-120), 3) := by decide +kernel
theorem dX7_walk_157 : decode cX7_walk 157 = .ok (.return_, 1) := by decide +kernel
theorem dX8_init_0 : decode cX8_init 0 = .ok (.aload_n 0, 1) := by decide +kernel
theorem dX8_init_1 : decode cX8_init 1 = .ok (.invokespecial 3, 3) := by decide +kernel
theorem dX8_init_4 : decode cX8_init 4 = .ok (.aload_n 0, 1) := by decide +kernel
theorem dX8_init_5 : decode cX8_init 5 = .ok (.bipush 36, 2) := by decide +kernel
theorem dX8_init_7 : decode cX8_init 7 = .ok (.newarray .int, 2) := by decide +kernel
theorem dX8_init_9 : decode cX8_init 9 = .ok (.putfield 9, 3) := by decide +kernel
theorem dX8_init_12 : decode cX8_init 12 = .ok (.aload_n 0, 1) := by decide +kernel
theorem dX8_init_13 : decode cX8_init 13 = .ok (.bipush 36, 2) := by decide +kernel
theorem dX8_init_15 : decode cX8_init 15 = .ok (.newarray .int, 2) := by decide +kernel
theorem dX8_init_17 : decode cX8_init 17 = .ok (.putfield 15, 3) := by decide +kernel
theorem dX8_init_20 : decode cX8_init 20 = .ok (.aload_n 0, 1) := by decide +kernel
theorem dX8_init_21 : decode cX8_init 21 = .ok (.bipush 12, 2) := by decide +kernel
theorem dX8_init_23 : decode cX8_init 23 = .ok (.newarray .int, 2) := by decide +kernel
theorem dX8_init_25 : decode cX8_init 25 = .ok (.putfield 18, 3) := by decide +kernel
theorem dX8_init_28 : decode cX8_init 28 = .ok (.aload_n 0, 1) := by decide +kernel
theorem dX8_init_29 : decode cX8_init 29 = .ok (.bipush 12, 2) := by decide +kernel
theorem dX8_init_31 : decode cX8_init 31 = .ok (.newarray .int, 2) := by decide +kernel
theorem dX8_init_33 : decode cX8_init 33 = .ok (.putfield 21, 3) := by decide +kernel
theorem dX8_init_36 : decode cX8_init 36 = .ok (.aload_n 0, 1) := by decide +kernel
theorem dX8_init_37 : decode cX8_init 37 = .ok (.bipush 36, 2) := by decide +kernel
theorem dX8_init_39 : decode cX8_init 39 = .ok (.newarray .int, 2) := by decide +kernel
theorem dX8_init_41 : decode cX8_init 41 = .ok (.putfield 24, 3) := by decide +kernel
theorem dX8_init_44 : decode cX8_init 44 = .ok (.aload_n 0, 1) := by decide +kernel
theorem dX8_init_45 : decode cX8_init 45 = .ok (.bipush 36, 2) := by decide +kernel
theorem dX8_init_47 : decode cX8_init 47 = .ok (.newarray .int, 2) := by decide +kernel
theorem dX8_init_49 : decode cX8_init 49 = .ok (.putfield 27, 3) := by decide +kernel
theorem dX8_init_52 : decode cX8_init 52 = .ok (.aload_n 0, 1) := by decide +kernel
theorem dX8_init_53 : decode cX8_init 53 = .ok (.iconst 0, 1) := by decide +kernel
theorem dX8_init_54 : decode cX8_init 54 = .ok (.putfield 30, 3) := by decide +kernel
theorem dX8_init_57 : decode cX8_init 57 = .ok (.aload_n 0, 1) := by decide +kernel
theorem dX8_init_58 : decode cX8_init 58 = .ok (.iconst 0, 1) := by decide +kernel
theorem dX8_init_59 : decode cX8_init 59 = .ok (.putfield 34, 3) := by decide +kernel
theorem dX8_init_62 : decode cX8_init 62 = .ok (.aload_n 0, 1) := by decide +kernel
theorem dX8_init_63 : decode cX8_init 63 = .ok (.iconst 0, 1) := by decide +kernel
theorem dX8_init_64 : decode cX8_init 64 = .ok (.putfield 37, 3) := by decide +kernel
theorem dX8_init_67 : decode cX8_init 67 = .ok (.aload_n 0, 1) := by decide +kernel
theorem dX8_init_68 : decode cX8_init 68 = .ok (.iconst 0, 1) := by decide +kernel
theorem dX8_init_69 : decode cX8_init 69 = .ok (.putfield 40, 3) := by decide +kernel
theorem dX8_init_72 : decode cX8_init 72 = .ok (.aload_n 0, 1) := by decide +kernel
theorem dX8_init_73 : decode cX8_init 73 = .ok (.aload_n 1, 1) := by decide +kernel
theorem dX8_init_74 : decode cX8_init 74 = .ok (.putfield 44, 3) := by decide +kernel
theorem dX8_init_77 : decode cX8_init 77 = .ok (.aload_n 0, 1) := by decide +kernel
theorem dX8_init_78 : decode cX8_init 78 = .ok (.aload_n 2, 1) := by decide +kernel
theorem dX8_init_79 : decode cX8_init 79 = .ok (.putfield 48, 3) := by decide +kernel
theorem dX8_init_82 : decode cX8_init 82 = .ok (.return_, 1) := by decide +kernel
theorem dX8_begin_0 : decode cX8_begin 0 = .ok (.aload_n 0, 1) := by decide +kernel
theorem dX8_begin_1 : decode cX8_begin 1 = .ok (.iload_n 1, 1) := by decide +kernel
theorem dX8_begin_2 : decode cX8_begin 2 = .ok (.putfield 34, 3) := by decide +kernel
theorem dX8_begin_5 : decode cX8_begin 5 = .ok (.aload_n 0, 1) := by decide +kernel
theorem dX8_begin_6 : decode cX8_begin 6 = .ok (.iconst 0, 1) := by decide +kernel
theorem dX8_begin_7 : decode cX8_begin 7 = .ok (.putfield 37, 3) := by decide +kernel
theorem dX8_begin_10 : decode cX8_begin 10 = .ok (.aload_n 0, 1) := by decide +kernel
theorem dX8_begin_11 : decode cX8_begin 11 = .ok (.iconst 0, 1) := by decide +kernel
theorem dX8_begin_12 : decode cX8_begin 12 = .ok (.putfield 40, 3) := by decide +kernel
theorem dX8_begin_15 : decode cX8_begin 15 = .ok (.aload_n 0, 1) := by decide +kernel
theorem dX8_begin_16 : decode cX8_begin 16 = .ok (.iconst 0, 1) := by decide +kernel
theorem dX8_begin_17 : decode cX8_begin 17 = .ok (.putfield 30, 3) := by decide +kernel
theorem dX8_begin_20 : decode cX8_begin 20 = .ok (.aload_n 0, 1) := by decide +kernel
theorem dX8_begin_21 : decode cX8_begin 21 = .ok (.getfield 27, 3) := by decide +kernel
theorem dX8_begin_24 : decode cX8_begin 24 = .ok (.iconst 0, 1) := by decide +kernel
theorem dX8_begin_25 : decode cX8_begin 25 = .ok (.invokestatic 52, 3) := by decide +kernel
theorem dX8_begin_28 : decode cX8_begin 28 = .ok (.aload_n 0, 1) := by decide +kernel
theorem dX8_begin_29 : decode cX8_begin 29 = .ok (.getfield 44, 3) := by decide +kernel
theorem dX8_begin_32 : decode cX8_begin 32 = .ok (.getfield 58, 3) := by decide +kernel
theorem dX8_begin_35 : decode cX8_begin 35 = .ok (.iconst 0, 1) := by decide +kernel
theorem dX8_begin_36 : decode cX8_begin 36 = .ok (.aload_n 0, 1) := by decide +kernel
theorem dX8_begin_37 : decode cX8_begin 37 = .ok (.getfield 24, 3) := by decide +kernel
theorem dX8_begin_40 : decode cX8_begin 40 = .ok (.iconst 0, 1) := by decide +kernel
theorem dX8_begin_41 : decode cX8_begin 41 = .ok (.bipush 36, 2) := by decide +kernel
theorem dX8_begin_43 : decode cX8_begin 43 = .ok (.invokestatic 63, 3) := by decide +kernel
theorem dX8_begin_46 : decode cX8_begin 46 = .ok (.iconst 0, 1) := by decide +kernel
theorem dX8_begin_47 : decode cX8_begin 47 = .ok (.istore_n 2, 1) := by decide +kernel
theorem dX8_begin_48 : decode cX8_begin 48 = .ok (.iload_n 2, 1) := by decide +kernel
theorem dX8_begin_49 : decode cX8_begin 49 = .ok (.aload_n 0, 1) := by decide +kernel
theorem dX8_begin_50 : decode cX8_begin 50 = .ok (.getfield 44, 3) := by decide +kernel
theorem dX8_begin_53 : decode cX8_begin 53 = .ok (.getfield 69, 3) := by decide +kernel
theorem dX8_begin_56 : decode cX8_begin 56 = .ok (.if_icmp .ge 35, 3) := by decide +kernel
theorem dX8_begin_59 : decode cX8_begin 59 = .ok (.aload_n 0, 1) := by decide +kernel
theorem dX8_begin_60 : decode cX8_begin 60 = .ok (.getfield 21, 3) := by decide +kernel
theorem dX8_begin_63 : decode cX8_begin 63 = .ok (.iload_n 2, 1) := by decide +kernel
theorem dX8_begin_64 : decode cX8_begin 64 = .ok (.aload_n 0, 1) := by decide +kernel
theorem dX8_begin_65 : decode cX8_begin 65 = .ok (.getfield 44, 3) := by decide +kernel
theorem dX8_begin_68 : decode cX8_begin 68 = .ok (.getfield 72, 3) := by decide +kernel
theorem dX8_begin_71 : decode cX8_begin 71 = .ok (.iload_n 2, 1) := by decide +kernel
theorem dX8_begin_72 : decode cX8_begin 72 = .ok (.aaload, 1) := by decide +kernel
theorem dX8_begin_73 : decode cX8_begin 73 = .ok (.getfield 76, 3) := by decide +kernel
theorem dX8_begin_76 : decode cX8_begin 76 = .ok (.iastore, 1) := by decide +kernel
theorem dX8_begin_77 : decode cX8_begin 77 = .ok (.aload_n 0, 1) := by decide +kernel
theorem dX8_begin_78 : decode cX8_begin 78 = .ok (.getfield 18, 3) := by decide +kernel
theorem dX8_begin_81 : decode cX8_begin 81 = .ok (.iload_n 2, 1) := by decide +kernel
theorem dX8_begin_82 : decode cX8_begin 82 = .ok (.bipush (-9), 2) := by decide +kernel
theorem dX8_begin_84 : decode cX8_begin 84 = .ok (.iastore, 1) := by decide +kernel
theorem dX8_begin_85 : decode cX8_begin 85 = .ok (.iinc 2 1, 3) := by decide +kernel
theorem dX8_begin_88 : decode cX8_begin 88 = .ok (.goto (-40), 3) := by decide +kernel
theorem dX8_begin_91 : decode cX8_begin 91 = .ok (.iconst 0, 1) := by decide +kernel
theorem dX8_begin_92 : decode cX8_begin 92 = .ok (.istore_n 2, 1) := by decide +kernel
theorem dX8_begin_93 : decode cX8_begin 93 = .ok (.iload_n 2, 1) := by decide +kernel
theorem dX8_begin_94 : decode cX8_begin 94 = .ok (.aload_n 0, 1) := by decide +kernel
theorem dX8_begin_95 : decode cX8_begin 95 = .ok (.getfield 48, 3) := by decide +kernel
theorem dX8_begin_98 : decode cX8_begin 98 = .ok (.getfield 81, 3) := by decide +kernel
theorem dX8_begin_101 : decode cX8_begin 101 = .ok (.if_icmp .ge 22, 3) := by decide +kernel
theorem dX8_begin_104 : decode cX8_begin 104 = .ok (.aload_n 0, 1) := by decide +kernel
theorem dX8_begin_105 : decode cX8_begin 105 = .ok (.iload_n 2, 1) := by decide +kernel
theorem dX8_begin_106 : decode cX8_begin 106 = .ok (.invokevirtual 86, 3) := by decide +kernel
theorem dX8_begin_109 : decode cX8_begin 109 = .ok (.ifCond .eq 8, 3) := by decide +kernel
theorem dX8_begin_112 : decode cX8_begin 112 = .ok (.aload_n 0, 1) := by decide +kernel
theorem dX8_begin_113 : decode cX8_begin 113 = .ok (.iload_n 2, 1) := by decide +kernel
theorem dX8_begin_114 : decode cX8_begin 114 = .ok (.invokevirtual 90, 3) := by decide +kernel
theorem dX8_begin_117 : decode cX8_begin 117 = .ok (.iinc 2 1, 3) := by decide +kernel
theorem dX8_begin_120 : decode cX8_begin 120 = .ok (.goto (-27), 3) := by decide +kernel
theorem dX8_begin_123 : decode cX8_begin 123 = .ok (.return_, 1) := by decide +kernel
theorem dX8_seek_0 : decode cX8_seek 0 = .ok (.aload_n 0, 1) := by decide +kernel
theorem dX8_seek_1 : decode cX8_seek 1 = .ok (.iconst 0, 1) := by decide +kernel
theorem dX8_seek_2 : decode cX8_seek 2 = .ok (.aload_n 1, 1) := by decide +kernel
theorem dX8_seek_3 : decode cX8_seek 3 = .ok (.invokevirtual 94, 3) := by decide +kernel
theorem dX8_seek_6 : decode cX8_seek 6 = .ok (.pop, 1) := by decide +kernel
theorem dX8_seek_7 : decode cX8_seek 7 = .ok (.return_, 1) := by decide +kernel
theorem dX8_fewestMeters_0 : decode cX8_fewestMeters 0 = .ok (.aload_n 0, 1) := by decide +kernel
theorem dX8_fewestMeters_1 : decode cX8_fewestMeters 1 = .ok (.invokevirtual 98, 3) := by decide +kernel
theorem dX8_fewestMeters_4 : decode cX8_fewestMeters 4 = .ok (.istore_n 2, 1) := by decide +kernel
theorem dX8_fewestMeters_5 : decode cX8_fewestMeters 5 = .ok (.lconst 1, 1) := by decide +kernel
theorem dX8_fewestMeters_6 : decode cX8_fewestMeters 6 = .ok (.iload_n 2, 1) := by decide +kernel
theorem dX8_fewestMeters_7 : decode cX8_fewestMeters 7 = .ok (.lshl, 1) := by decide +kernel
theorem dX8_fewestMeters_8 : decode cX8_fewestMeters 8 = .ok (.lstore_n 3, 1) := by decide +kernel
theorem dX8_fewestMeters_9 : decode cX8_fewestMeters 9 = .ok (.iconst 0, 1) := by decide +kernel
theorem dX8_fewestMeters_10 : decode cX8_fewestMeters 10 = .ok (.istore 5, 2) := by decide +kernel
theorem dX8_fewestMeters_12 : decode cX8_fewestMeters 12 = .ok (.iload 5, 2) := by decide +kernel
theorem dX8_fewestMeters_14 : decode cX8_fewestMeters 14 = .ok (.iload_n 2, 1) := by decide +kernel
theorem dX8_fewestMeters_15 : decode cX8_fewestMeters 15 = .ok (.if_icmp .gt 94, 3) := by decide +kernel
theorem dX8_fewestMeters_18 : decode cX8_fewestMeters 18 = .ok (.lconst 1, 1) := by decide +kernel
theorem dX8_fewestMeters_19 : decode cX8_fewestMeters 19 = .ok (.iload 5, 2) := by decide +kernel
theorem dX8_fewestMeters_21 : decode cX8_fewestMeters 21 = .ok (.lshl, 1) := by decide +kernel
theorem dX8_fewestMeters_22 : decode cX8_fewestMeters 22 = .ok (.lconst 1, 1) := by decide +kernel
theorem dX8_fewestMeters_23 : decode cX8_fewestMeters 23 = .ok (.lsub, 1) := by decide +kernel
theorem dX8_fewestMeters_24 : decode cX8_fewestMeters 24 = .ok (.lstore 6, 2) := by decide +kernel
theorem dX8_fewestMeters_26 : decode cX8_fewestMeters 26 = .ok (.iconst 0, 1) := by decide +kernel
theorem dX8_fewestMeters_27 : decode cX8_fewestMeters 27 = .ok (.istore 8, 2) := by decide +kernel
theorem dX8_fewestMeters_29 : decode cX8_fewestMeters 29 = .ok (.iload 8, 2) := by decide +kernel
theorem dX8_fewestMeters_31 : decode cX8_fewestMeters 31 = .ok (.sipush 20000, 3) := by decide +kernel
theorem dX8_fewestMeters_34 : decode cX8_fewestMeters 34 = .ok (.if_icmp .gt 69, 3) := by decide +kernel
theorem dX8_fewestMeters_37 : decode cX8_fewestMeters 37 = .ok (.lload 6, 2) := by decide +kernel
theorem dX8_fewestMeters_39 : decode cX8_fewestMeters 39 = .ok (.lload_n 3, 1) := by decide +kernel
theorem dX8_fewestMeters_40 : decode cX8_fewestMeters 40 = .ok (.lcmp, 1) := by decide +kernel
theorem dX8_fewestMeters_41 : decode cX8_fewestMeters 41 = .ok (.ifCond .ge 62, 3) := by decide +kernel
theorem dX8_fewestMeters_44 : decode cX8_fewestMeters 44 = .ok (.aload_n 0, 1) := by decide +kernel
theorem dX8_fewestMeters_45 : decode cX8_fewestMeters 45 = .ok (.lload 6, 2) := by decide +kernel
theorem dX8_fewestMeters_47 : decode cX8_fewestMeters 47 = .ok (.iload_n 2, 1) := by decide +kernel
theorem dX8_fewestMeters_48 : decode cX8_fewestMeters 48 = .ok (.aload_n 1, 1) := by decide +kernel
theorem dX8_fewestMeters_49 : decode cX8_fewestMeters 49 = .ok (.getfield 102, 3) := by decide +kernel
theorem dX8_fewestMeters_52 : decode cX8_fewestMeters 52 = .ok (.invokevirtual 107, 3) := by decide +kernel
theorem dX8_fewestMeters_55 : decode cX8_fewestMeters 55 = .ok (.aload_n 1, 1) := by decide +kernel
theorem dX8_fewestMeters_56 : decode cX8_fewestMeters 56 = .ok (.iconst 2, 1) := by decide +kernel
theorem dX8_fewestMeters_57 : decode cX8_fewestMeters 57 = .ok (.invokevirtual 111, 3) := by decide +kernel
theorem dX8_fewestMeters_60 : decode cX8_fewestMeters 60 = .ok (.aload_n 0, 1) := by decide +kernel
theorem dX8_fewestMeters_61 : decode cX8_fewestMeters 61 = .ok (.aload_n 1, 1) := by decide +kernel
theorem dX8_fewestMeters_62 : decode cX8_fewestMeters 62 = .ok (.invokevirtual 114, 3) := by decide +kernel
theorem dX8_fewestMeters_65 : decode cX8_fewestMeters 65 = .ok (.aload_n 0, 1) := by decide +kernel
theorem dX8_fewestMeters_66 : decode cX8_fewestMeters 66 = .ok (.getfield 40, 3) := by decide +kernel
theorem dX8_fewestMeters_69 : decode cX8_fewestMeters 69 = .ok (.ifCond .eq 5, 3) := by decide +kernel
theorem dX8_fewestMeters_72 : decode cX8_fewestMeters 72 = .ok (.lconst 0, 1) := by decide +kernel
theorem dX8_fewestMeters_73 : decode cX8_fewestMeters 73 = .ok (.lreturn, 1) := by decide +kernel
theorem dX8_fewestMeters_74 : decode cX8_fewestMeters 74 = .ok (.aload_n 1, 1) := by decide +kernel
theorem dX8_fewestMeters_75 : decode cX8_fewestMeters 75 = .ok (.getfield 118, 3) := by decide +kernel
theorem dX8_fewestMeters_78 : decode cX8_fewestMeters 78 = .ok (.iconst 1, 1) := by decide +kernel
theorem dX8_fewestMeters_79 : decode cX8_fewestMeters 79 = .ok (.if_icmp .ne 11, 3) := by decide +kernel
theorem dX8_fewestMeters_82 : decode cX8_fewestMeters 82 = .ok (.aload_n 0, 1) := by decide +kernel
theorem dX8_fewestMeters_83 : decode cX8_fewestMeters 83 = .ok (.lload 6, 2) := by decide +kernel
theorem dX8_fewestMeters_85 : decode cX8_fewestMeters 85 = .ok (.iload_n 2, 1) := by decide +kernel
theorem dX8_fewestMeters_86 : decode cX8_fewestMeters 86 = .ok (.invokevirtual 121, 3) := by decide +kernel
theorem dX8_fewestMeters_89 : decode cX8_fewestMeters 89 = .ok (.lreturn, 1) := by decide +kernel
theorem dX8_fewestMeters_90 : decode cX8_fewestMeters 90 = .ok (.lload 6, 2) := by decide +kernel
theorem dX8_fewestMeters_92 : decode cX8_fewestMeters 92 = .ok (.invokestatic 125, 3) := by decide +kernel
theorem dX8_fewestMeters_95 : decode cX8_fewestMeters 95 = .ok (.lstore 6, 2) := by decide +kernel
theorem dX8_fewestMeters_97 : decode cX8_fewestMeters 97 = .ok (.iinc 8 1, 3) := by decide +kernel
theorem dX8_fewestMeters_100 : decode cX8_fewestMeters 100 = .ok (.goto (-71), 3) := by decide +kernel
theorem dX8_fewestMeters_103 : decode cX8_fewestMeters 103 = .ok (.iinc 5 1, 3) := by decide +kernel
theorem dX8_fewestMeters_106 : decode cX8_fewestMeters 106 = .ok (.goto (-94), 3) := by decide +kernel
theorem dX8_fewestMeters_109 : decode cX8_fewestMeters 109 = .ok (.lconst 0, 1) := by decide +kernel
theorem dX8_fewestMeters_110 : decode cX8_fewestMeters 110 = .ok (.lreturn, 1) := by decide +kernel
theorem dX8_isSought_0 : decode cX8_isSought 0 = .ok (.aload_n 0, 1) := by decide +kernel
theorem dX8_isSought_1 : decode cX8_isSought 1 = .ok (.getfield 48, 3) := by decide +kernel
theorem dX8_isSought_4 : decode cX8_isSought 4 = .ok (.iload_n 1, 1) := by decide +kernel
theorem dX8_isSought_5 : decode cX8_isSought 5 = .ok (.invokevirtual 129, 3) := by decide +kernel
theorem dX8_isSought_8 : decode cX8_isSought 8 = .ok (.ifCond .ne 5, 3) := by decide +kernel
theorem dX8_isSought_11 : decode cX8_isSought 11 = .ok (.iconst 0, 1) := by decide +kernel
theorem dX8_isSought_12 : decode cX8_isSought 12 = .ok (.ireturn, 1) := by decide +kernel
theorem dX8_isSought_13 : decode cX8_isSought 13 = .ok (.aload_n 0, 1) := by decide +kernel
theorem dX8_isSought_14 : decode cX8_isSought 14 = .ok (.getfield 24, 3) := by decide +kernel
theorem dX8_isSought_17 : decode cX8_isSought 17 = .ok (.iload_n 1, 1) := by decide +kernel
theorem dX8_isSought_18 : decode cX8_isSought 18 = .ok (.iaload, 1) := by decide +kernel
theorem dX8_isSought_19 : decode cX8_isSought 19 = .ok (.bipush (-9), 2) := by decide +kernel
theorem dX8_isSought_21 : decode cX8_isSought 21 = .ok (.if_icmp .eq 5, 3) := by decide +kernel
theorem dX8_isSought_24 : decode cX8_isSought 24 = .ok (.iconst 1, 1) := by decide +kernel
theorem dX8_isSought_25 : decode cX8_isSought 25 = .ok (.ireturn, 1) := by decide +kernel
theorem dX8_isSought_26 : decode cX8_isSought 26 = .ok (.iconst 0, 1) := by decide +kernel
theorem dX8_isSought_27 : decode cX8_isSought 27 = .ok (.istore_n 2, 1) := by decide +kernel
theorem dX8_isSought_28 : decode cX8_isSought 28 = .ok (.iload_n 2, 1) := by decide +kernel
theorem dX8_isSought_29 : decode cX8_isSought 29 = .ok (.aload_n 0, 1) := by decide +kernel
theorem dX8_isSought_30 : decode cX8_isSought 30 = .ok (.getfield 48, 3) := by decide +kernel
theorem dX8_isSought_33 : decode cX8_isSought 33 = .ok (.getfield 132, 3) := by decide +kernel
theorem dX8_isSought_36 : decode cX8_isSought 36 = .ok (.iload_n 1, 1) := by decide +kernel
theorem dX8_isSought_37 : decode cX8_isSought 37 = .ok (.iaload, 1) := by decide +kernel
theorem dX8_isSought_38 : decode cX8_isSought 38 = .ok (.if_icmp .ge 30, 3) := by decide +kernel
theorem dX8_isSought_41 : decode cX8_isSought 41 = .ok (.aload_n 0, 1) := by decide +kernel
theorem dX8_isSought_42 : decode cX8_isSought 42 = .ok (.getfield 21, 3) := by decide +kernel
theorem dX8_isSought_45 : decode cX8_isSought 45 = .ok (.aload_n 0, 1) := by decide +kernel
theorem dX8_isSought_46 : decode cX8_isSought 46 = .ok (.getfield 48, 3) := by decide +kernel
theorem dX8_isSought_49 : decode cX8_isSought 49 = .ok (.iload_n 1, 1) := by decide +kernel
theorem dX8_isSought_50 : decode cX8_isSought 50 = .ok (.iload_n 2, 1) := by decide +kernel
theorem dX8_isSought_51 : decode cX8_isSought 51 = .ok (.invokevirtual 135, 3) := by decide +kernel
theorem dX8_isSought_54 : decode cX8_isSought 54 = .ok (.iaload, 1) := by decide +kernel
theorem dX8_isSought_55 : decode cX8_isSought 55 = .ok (.bipush (-9), 2) := by decide +kernel
theorem dX8_isSought_57 : decode cX8_isSought 57 = .ok (.if_icmp .eq 5, 3) := by decide +kernel
theorem dX8_isSought_60 : decode cX8_isSought 60 = .ok (.iconst 1, 1) := by decide +kernel
theorem dX8_isSought_61 : decode cX8_isSought 61 = .ok (.ireturn, 1) := by decide +kernel
theorem dX8_isSought_62 : decode cX8_isSought 62 = .ok (.iinc 2 1, 3) := by decide +kernel
theorem dX8_isSought_65 : decode cX8_isSought 65 = .ok (.goto (-37), 3) := by decide +kernel
theorem dX8_isSought_68 : decode cX8_isSought 68 = .ok (.iconst 0, 1) := by decide +kernel
theorem dX8_isSought_69 : decode cX8_isSought 69 = .ok (.ireturn, 1) := by decide +kernel
theorem dX8_addSought_0 : decode cX8_addSought 0 = .ok (.aload_n 0, 1) := by decide +kernel
theorem dX8_addSought_1 : decode cX8_addSought 1 = .ok (.getfield 9, 3) := by decide +kernel
theorem dX8_addSought_4 : decode cX8_addSought 4 = .ok (.aload_n 0, 1) := by decide +kernel
theorem dX8_addSought_5 : decode cX8_addSought 5 = .ok (.getfield 30, 3) := by decide +kernel
theorem dX8_addSought_8 : decode cX8_addSought 8 = .ok (.iload_n 1, 1) := by decide +kernel
theorem dX8_addSought_9 : decode cX8_addSought 9 = .ok (.iastore, 1) := by decide +kernel
theorem dX8_addSought_10 : decode cX8_addSought 10 = .ok (.iconst 0, 1) := by decide +kernel
theorem dX8_addSought_11 : decode cX8_addSought 11 = .ok (.istore_n 2, 1) := by decide +kernel
theorem dX8_addSought_12 : decode cX8_addSought 12 = .ok (.iload_n 2, 1) := by decide +kernel
theorem dX8_addSought_13 : decode cX8_addSought 13 = .ok (.aload_n 0, 1) := by decide +kernel
theorem dX8_addSought_14 : decode cX8_addSought 14 = .ok (.getfield 48, 3) := by decide +kernel
theorem dX8_addSought_17 : decode cX8_addSought 17 = .ok (.getfield 132, 3) := by decide +kernel
theorem dX8_addSought_20 : decode cX8_addSought 20 = .ok (.iload_n 1, 1) := by decide +kernel
theorem dX8_addSought_21 : decode cX8_addSought 21 = .ok (.iaload, 1) := by decide +kernel
theorem dX8_addSought_22 : decode cX8_addSought 22 = .ok (.if_icmp .ge 27, 3) := by decide +kernel
theorem dX8_addSought_25 : decode cX8_addSought 25 = .ok (.aload_n 0, 1) := by decide +kernel
theorem dX8_addSought_26 : decode cX8_addSought 26 = .ok (.getfield 18, 3) := by decide +kernel
theorem dX8_addSought_29 : decode cX8_addSought 29 = .ok (.aload_n 0, 1) := by decide +kernel
theorem dX8_addSought_30 : decode cX8_addSought 30 = .ok (.getfield 48, 3) := by decide +kernel
theorem dX8_addSought_33 : decode cX8_addSought 33 = .ok (.iload_n 1, 1) := by decide +kernel
theorem dX8_addSought_34 : decode cX8_addSought 34 = .ok (.iload_n 2, 1) := by decide +kernel
theorem dX8_addSought_35 : decode cX8_addSought 35 = .ok (.invokevirtual 135, 3) := by decide +kernel
theorem dX8_addSought_38 : decode cX8_addSought 38 = .ok (.aload_n 0, 1) := by decide +kernel
theorem dX8_addSought_39 : decode cX8_addSought 39 = .ok (.getfield 30, 3) := by decide +kernel
theorem dX8_addSought_42 : decode cX8_addSought 42 = .ok (.iastore, 1) := by decide +kernel
theorem dX8_addSought_43 : decode cX8_addSought 43 = .ok (.iinc 2 1, 3) := by decide +kernel
theorem dX8_addSought_46 : decode cX8_addSought 46 = .ok (.goto (-34), 3) := by decide +kernel
theorem dX8_addSought_49 : decode cX8_addSought 49 = .ok (.aload_n 0, 1) := by decide +kernel
theorem dX8_addSought_50 : decode cX8_addSought 50 = .ok (.dup, 1) := by decide +kernel
theorem dX8_addSought_51 : decode cX8_addSought 51 = .ok (.getfield 30, 3) := by decide +kernel
theorem dX8_addSought_54 : decode cX8_addSought 54 = .ok (.iconst 1, 1) := by decide +kernel
theorem dX8_addSought_55 : decode cX8_addSought 55 = .ok (.iadd, 1) := by decide +kernel
theorem dX8_addSought_56 : decode cX8_addSought 56 = .ok (.putfield 30, 3) := by decide +kernel
theorem dX8_addSought_59 : decode cX8_addSought 59 = .ok (.return_, 1) := by decide +kernel
theorem dX8_goesOn_0 : decode cX8_goesOn 0 = .ok (.iload_n 1, 1) := by decide +kernel
theorem dX8_goesOn_1 : decode cX8_goesOn 1 = .ok (.aload_n 0, 1) := by decide +kernel
theorem dX8_goesOn_2 : decode cX8_goesOn 2 = .ok (.getfield 30, 3) := by decide +kernel
theorem dX8_goesOn_5 : decode cX8_goesOn 5 = .ok (.if_icmp .lt 27, 3) := by decide +kernel
theorem dX8_goesOn_8 : decode cX8_goesOn 8 = .ok (.aload_n 0, 1) := by decide +kernel
theorem dX8_goesOn_9 : decode cX8_goesOn 9 = .ok (.invokevirtual 139, 3) := by decide +kernel
theorem dX8_goesOn_12 : decode cX8_goesOn 12 = .ok (.ifCond .eq 14, 3) := by decide +kernel
theorem dX8_goesOn_15 : decode cX8_goesOn 15 = .ok (.aload_n 2, 1) := by decide +kernel
theorem dX8_goesOn_16 : decode cX8_goesOn 16 = .ok (.aload_n 0, 1) := by decide +kernel
theorem dX8_goesOn_17 : decode cX8_goesOn 17 = .ok (.getfield 27, 3) := by decide +kernel
theorem dX8_goesOn_20 : decode cX8_goesOn 20 = .ok (.invokevirtual 143, 3) := by decide +kernel
theorem dX8_goesOn_23 : decode cX8_goesOn 23 = .ok (.ifCond .ne 7, 3) := by decide +kernel
theorem dX8_goesOn_26 : decode cX8_goesOn 26 = .ok (.iconst 1, 1) := by decide +kernel
theorem dX8_goesOn_27 : decode cX8_goesOn 27 = .ok (.goto 4, 3) := by decide +kernel
theorem dX8_goesOn_30 : decode cX8_goesOn 30 = .ok (.iconst 0, 1) := by decide +kernel
theorem dX8_goesOn_31 : decode cX8_goesOn 31 = .ok (.ireturn, 1) := by decide +kernel
theorem dX8_goesOn_32 : decode cX8_goesOn 32 = .ok (.aload_n 0, 1) := by decide +kernel
theorem dX8_goesOn_33 : decode cX8_goesOn 33 = .ok (.getfield 9, 3) := by decide +kernel
theorem dX8_goesOn_36 : decode cX8_goesOn 36 = .ok (.iload_n 1, 1) := by decide +kernel
theorem dX8_goesOn_37 : decode cX8_goesOn 37 = .ok (.iaload, 1) := by decide +kernel
theorem dX8_goesOn_38 : decode cX8_goesOn 38 = .ok (.istore_n 3, 1) := by decide +kernel
theorem dX8_goesOn_39 : decode cX8_goesOn 39 = .ok (.aload_n 0, 1) := by decide +kernel
theorem dX8_goesOn_40 : decode cX8_goesOn 40 = .ok (.iload_n 1, 1) := by decide +kernel
theorem dX8_goesOn_41 : decode cX8_goesOn 41 = .ok (.iload_n 3, 1) := by decide +kernel
theorem dX8_goesOn_42 : decode cX8_goesOn 42 = .ok (.invokevirtual 149, 3) := by decide +kernel
theorem dX8_goesOn_45 : decode cX8_goesOn 45 = .ok (.istore 4, 2) := by decide +kernel
theorem dX8_goesOn_47 : decode cX8_goesOn 47 = .ok (.aload_n 0, 1) := by decide +kernel
theorem dX8_goesOn_48 : decode cX8_goesOn 48 = .ok (.iload_n 3, 1) := by decide +kernel
theorem dX8_goesOn_49 : decode cX8_goesOn 49 = .ok (.invokevirtual 152, 3) := by decide +kernel
theorem dX8_goesOn_52 : decode cX8_goesOn 52 = .ok (.istore 5, 2) := by decide +kernel
theorem dX8_goesOn_54 : decode cX8_goesOn 54 = .ok (.iload 4, 2) := by decide +kernel
theorem dX8_goesOn_56 : decode cX8_goesOn 56 = .ok (.istore 6, 2) := by decide +kernel
theorem dX8_goesOn_58 : decode cX8_goesOn 58 = .ok (.iload 6, 2) := by decide +kernel
theorem dX8_goesOn_60 : decode cX8_goesOn 60 = .ok (.iload 5, 2) := by decide +kernel
theorem dX8_goesOn_62 : decode cX8_goesOn 62 = .ok (.if_icmp .gt 77, 3) := by decide +kernel
theorem dX8_goesOn_65 : decode cX8_goesOn 65 = .ok (.aload_n 0, 1) := by decide +kernel
theorem dX8_goesOn_66 : decode cX8_goesOn 66 = .ok (.getfield 37, 3) := by decide +kernel
theorem dX8_goesOn_69 : decode cX8_goesOn 69 = .ok (.aload_n 0, 1) := by decide +kernel
theorem dX8_goesOn_70 : decode cX8_goesOn 70 = .ok (.getfield 34, 3) := by decide +kernel
theorem dX8_goesOn_73 : decode cX8_goesOn 73 = .ok (.if_icmp .lt 10, 3) := by decide +kernel
theorem dX8_goesOn_76 : decode cX8_goesOn 76 = .ok (.aload_n 0, 1) := by decide +kernel
theorem dX8_goesOn_77 : decode cX8_goesOn 77 = .ok (.iconst 1, 1) := by decide +kernel
theorem dX8_goesOn_78 : decode cX8_goesOn 78 = .ok (.putfield 40, 3) := by decide +kernel
theorem dX8_goesOn_81 : decode cX8_goesOn 81 = .ok (.iconst 0, 1) := by decide +kernel
theorem dX8_goesOn_82 : decode cX8_goesOn 82 = .ok (.ireturn, 1) := by decide +kernel
theorem dX8_goesOn_83 : decode cX8_goesOn 83 = .ok (.aload_n 0, 1) := by decide +kernel
theorem dX8_goesOn_84 : decode cX8_goesOn 84 = .ok (.dup, 1) := by decide +kernel
theorem dX8_goesOn_85 : decode cX8_goesOn 85 = .ok (.getfield 37, 3) := by decide +kernel
theorem dX8_goesOn_88 : decode cX8_goesOn 88 = .ok (.iconst 1, 1) := by decide +kernel
theorem dX8_goesOn_89 : decode cX8_goesOn 89 = .ok (.iadd, 1) := by decide +kernel
theorem dX8_goesOn_90 : decode cX8_goesOn 90 = .ok (.putfield 37, 3) := by decide +kernel
theorem dX8_goesOn_93 : decode cX8_goesOn 93 = .ok (.aload_n 0, 1) := by decide +kernel
theorem dX8_goesOn_94 : decode cX8_goesOn 94 = .ok (.getfield 27, 3) := by decide +kernel
theorem dX8_goesOn_97 : decode cX8_goesOn 97 = .ok (.iload_n 3, 1) := by decide +kernel
theorem dX8_goesOn_98 : decode cX8_goesOn 98 = .ok (.iload 6, 2) := by decide +kernel
theorem dX8_goesOn_100 : decode cX8_goesOn 100 = .ok (.iastore, 1) := by decide +kernel
theorem dX8_goesOn_101 : decode cX8_goesOn 101 = .ok (.aload_n 0, 1) := by decide +kernel
theorem dX8_goesOn_102 : decode cX8_goesOn 102 = .ok (.iload_n 3, 1) := by decide +kernel
theorem dX8_goesOn_103 : decode cX8_goesOn 103 = .ok (.iload 6, 2) := by decide +kernel
theorem dX8_goesOn_105 : decode cX8_goesOn 105 = .ok (.invokevirtual 156, 3) := by decide +kernel
theorem dX8_goesOn_108 : decode cX8_goesOn 108 = .ok (.aload_n 0, 1) := by decide +kernel
theorem dX8_goesOn_109 : decode cX8_goesOn 109 = .ok (.iload_n 1, 1) := by decide +kernel
theorem dX8_goesOn_110 : decode cX8_goesOn 110 = .ok (.iconst 1, 1) := by decide +kernel
theorem dX8_goesOn_111 : decode cX8_goesOn 111 = .ok (.iadd, 1) := by decide +kernel
theorem dX8_goesOn_112 : decode cX8_goesOn 112 = .ok (.aload_n 2, 1) := by decide +kernel
theorem dX8_goesOn_113 : decode cX8_goesOn 113 = .ok (.invokevirtual 94, 3) := by decide +kernel
theorem dX8_goesOn_116 : decode cX8_goesOn 116 = .ok (.istore 7, 2) := by decide +kernel
theorem dX8_goesOn_118 : decode cX8_goesOn 118 = .ok (.aload_n 0, 1) := by decide +kernel
theorem dX8_goesOn_119 : decode cX8_goesOn 119 = .ok (.iload_n 3, 1) := by decide +kernel
theorem dX8_goesOn_120 : decode cX8_goesOn 120 = .ok (.iload 6, 2) := by decide +kernel
theorem dX8_goesOn_122 : decode cX8_goesOn 122 = .ok (.ineg, 1) := by decide +kernel
theorem dX8_goesOn_123 : decode cX8_goesOn 123 = .ok (.invokevirtual 156, 3) := by decide +kernel
theorem dX8_goesOn_126 : decode cX8_goesOn 126 = .ok (.iload 7, 2) := by decide +kernel
theorem dX8_goesOn_128 : decode cX8_goesOn 128 = .ok (.ifCond .ne 5, 3) := by decide +kernel
theorem dX8_goesOn_131 : decode cX8_goesOn 131 = .ok (.iconst 0, 1) := by decide +kernel
theorem dX8_goesOn_132 : decode cX8_goesOn 132 = .ok (.ireturn, 1) := by decide +kernel
theorem dX8_goesOn_133 : decode cX8_goesOn 133 = .ok (.iinc 6 1, 3) := by decide +kernel
theorem dX8_goesOn_136 : decode cX8_goesOn 136 = .ok (.goto (-78), 3) := by decide +kernel
theorem dX8_goesOn_139 : decode cX8_goesOn 139 = .ok (.iconst 1, 1) := by decide +kernel
theorem dX8_goesOn_140 : decode cX8_goesOn 140 = .ok (.ireturn, 1) := by decide +kernel
theorem dX8_leastNumber_0 : decode cX8_leastNumber 0 = .ok (.aload_n 0, 1) := by decide +kernel
theorem dX8_leastNumber_1 : decode cX8_leastNumber 1 = .ok (.getfield 24, 3) := by decide +kernel
theorem dX8_leastNumber_4 : decode cX8_leastNumber 4 = .ok (.iload_n 2, 1) := by decide +kernel
theorem dX8_leastNumber_5 : decode cX8_leastNumber 5 = .ok (.iaload, 1) := by decide +kernel
theorem dX8_leastNumber_6 : decode cX8_leastNumber 6 = .ok (.iconst 0, 1) := by decide +kernel
theorem dX8_leastNumber_7 : decode cX8_leastNumber 7 = .ok (.invokestatic 160, 3) := by decide +kernel
theorem dX8_leastNumber_10 : decode cX8_leastNumber 10 = .ok (.istore_n 3, 1) := by decide +kernel
theorem dX8_leastNumber_11 : decode cX8_leastNumber 11 = .ok (.iconst 0, 1) := by decide +kernel
theorem dX8_leastNumber_12 : decode cX8_leastNumber 12 = .ok (.istore 4, 2) := by decide +kernel
theorem dX8_leastNumber_14 : decode cX8_leastNumber 14 = .ok (.iload 4, 2) := by decide +kernel
theorem dX8_leastNumber_16 : decode cX8_leastNumber 16 = .ok (.aload_n 0, 1) := by decide +kernel
theorem dX8_leastNumber_17 : decode cX8_leastNumber 17 = .ok (.getfield 48, 3) := by decide +kernel
theorem dX8_leastNumber_20 : decode cX8_leastNumber 20 = .ok (.getfield 132, 3) := by decide +kernel
theorem dX8_leastNumber_23 : decode cX8_leastNumber 23 = .ok (.iload_n 2, 1) := by decide +kernel
theorem dX8_leastNumber_24 : decode cX8_leastNumber 24 = .ok (.iaload, 1) := by decide +kernel
theorem dX8_leastNumber_25 : decode cX8_leastNumber 25 = .ok (.if_icmp .ge 56, 3) := by decide +kernel
theorem dX8_leastNumber_28 : decode cX8_leastNumber 28 = .ok (.aload_n 0, 1) := by decide +kernel
theorem dX8_leastNumber_29 : decode cX8_leastNumber 29 = .ok (.getfield 48, 3) := by decide +kernel
theorem dX8_leastNumber_32 : decode cX8_leastNumber 32 = .ok (.iload_n 2, 1) := by decide +kernel
theorem dX8_leastNumber_33 : decode cX8_leastNumber 33 = .ok (.iload 4, 2) := by decide +kernel
theorem dX8_leastNumber_35 : decode cX8_leastNumber 35 = .ok (.invokevirtual 135, 3) := by decide +kernel
theorem dX8_leastNumber_38 : decode cX8_leastNumber 38 = .ok (.istore 5, 2) := by decide +kernel
theorem dX8_leastNumber_40 : decode cX8_leastNumber 40 = .ok (.aload_n 0, 1) := by decide +kernel
theorem dX8_leastNumber_41 : decode cX8_leastNumber 41 = .ok (.getfield 21, 3) := by decide +kernel
theorem dX8_leastNumber_44 : decode cX8_leastNumber 44 = .ok (.iload 5, 2) := by decide +kernel
theorem dX8_leastNumber_46 : decode cX8_leastNumber 46 = .ok (.iaload, 1) := by decide +kernel
theorem dX8_leastNumber_47 : decode cX8_leastNumber 47 = .ok (.bipush (-9), 2) := by decide +kernel
theorem dX8_leastNumber_49 : decode cX8_leastNumber 49 = .ok (.if_icmp .eq 26, 3) := by decide +kernel
theorem dX8_leastNumber_52 : decode cX8_leastNumber 52 = .ok (.aload_n 0, 1) := by decide +kernel
theorem dX8_leastNumber_53 : decode cX8_leastNumber 53 = .ok (.getfield 18, 3) := by decide +kernel
theorem dX8_leastNumber_56 : decode cX8_leastNumber 56 = .ok (.iload 5, 2) := by decide +kernel
theorem dX8_leastNumber_58 : decode cX8_leastNumber 58 = .ok (.iaload, 1) := by decide +kernel
theorem dX8_leastNumber_59 : decode cX8_leastNumber 59 = .ok (.iload_n 1, 1) := by decide +kernel
theorem dX8_leastNumber_60 : decode cX8_leastNumber 60 = .ok (.if_icmp .ne 15, 3) := by decide +kernel
theorem dX8_leastNumber_63 : decode cX8_leastNumber 63 = .ok (.iload_n 3, 1) := by decide +kernel
theorem dX8_leastNumber_64 : decode cX8_leastNumber 64 = .ok (.aload_n 0, 1) := by decide +kernel
theorem dX8_leastNumber_65 : decode cX8_leastNumber 65 = .ok (.getfield 21, 3) := by decide +kernel
theorem dX8_leastNumber_68 : decode cX8_leastNumber 68 = .ok (.iload 5, 2) := by decide +kernel
theorem dX8_leastNumber_70 : decode cX8_leastNumber 70 = .ok (.iaload, 1) := by decide +kernel
theorem dX8_leastNumber_71 : decode cX8_leastNumber 71 = .ok (.invokestatic 160, 3) := by decide +kernel
theorem dX8_leastNumber_74 : decode cX8_leastNumber 74 = .ok (.istore_n 3, 1) := by decide +kernel
theorem dX8_leastNumber_75 : decode cX8_leastNumber 75 = .ok (.iinc 4 1, 3) := by decide +kernel
theorem dX8_leastNumber_78 : decode cX8_leastNumber 78 = .ok (.goto (-64), 3) := by decide +kernel
theorem dX8_leastNumber_81 : decode cX8_leastNumber 81 = .ok (.iload_n 3, 1) := by decide +kernel
theorem dX8_leastNumber_82 : decode cX8_leastNumber 82 = .ok (.ireturn, 1) := by decide +kernel
theorem dX8_mostNumber_0 : decode cX8_mostNumber 0 = .ok (.aload_n 0, 1) := by decide +kernel
theorem dX8_mostNumber_1 : decode cX8_mostNumber 1 = .ok (.getfield 24, 3) := by decide +kernel
theorem dX8_mostNumber_4 : decode cX8_mostNumber 4 = .ok (.iload_n 1, 1) := by decide +kernel
theorem dX8_mostNumber_5 : decode cX8_mostNumber 5 = .ok (.iaload, 1) := by decide +kernel
theorem dX8_mostNumber_6 : decode cX8_mostNumber 6 = .ok (.bipush (-9), 2) := by decide +kernel
theorem dX8_mostNumber_8 : decode cX8_mostNumber 8 = .ok (.if_icmp .eq 12, 3) := by decide +kernel
theorem dX8_mostNumber_11 : decode cX8_mostNumber 11 = .ok (.aload_n 0, 1) := by decide +kernel
theorem dX8_mostNumber_12 : decode cX8_mostNumber 12 = .ok (.getfield 24, 3) := by decide +kernel
theorem dX8_mostNumber_15 : decode cX8_mostNumber 15 = .ok (.iload_n 1, 1) := by decide +kernel
theorem dX8_mostNumber_16 : decode cX8_mostNumber 16 = .ok (.iaload, 1) := by decide +kernel
theorem dX8_mostNumber_17 : decode cX8_mostNumber 17 = .ok (.goto 6, 3) := by decide +kernel
theorem dX8_mostNumber_20 : decode cX8_mostNumber 20 = .ok (.sipush 200, 3) := by decide +kernel
theorem dX8_mostNumber_23 : decode cX8_mostNumber 23 = .ok (.istore_n 2, 1) := by decide +kernel
theorem dX8_mostNumber_24 : decode cX8_mostNumber 24 = .ok (.iconst 0, 1) := by decide +kernel
theorem dX8_mostNumber_25 : decode cX8_mostNumber 25 = .ok (.istore_n 3, 1) := by decide +kernel
theorem dX8_mostNumber_26 : decode cX8_mostNumber 26 = .ok (.iload_n 3, 1) := by decide +kernel
theorem dX8_mostNumber_27 : decode cX8_mostNumber 27 = .ok (.aload_n 0, 1) := by decide +kernel
theorem dX8_mostNumber_28 : decode cX8_mostNumber 28 = .ok (.getfield 48, 3) := by decide +kernel
theorem dX8_mostNumber_31 : decode cX8_mostNumber 31 = .ok (.getfield 132, 3) := by decide +kernel
theorem dX8_mostNumber_34 : decode cX8_mostNumber 34 = .ok (.iload_n 1, 1) := by decide +kernel
theorem dX8_mostNumber_35 : decode cX8_mostNumber 35 = .ok (.iaload, 1) := by decide +kernel
theorem dX8_mostNumber_36 : decode cX8_mostNumber 36 = .ok (.if_icmp .ge 44, 3) := by decide +kernel
theorem dX8_mostNumber_39 : decode cX8_mostNumber 39 = .ok (.aload_n 0, 1) := by decide +kernel
theorem dX8_mostNumber_40 : decode cX8_mostNumber 40 = .ok (.getfield 48, 3) := by decide +kernel
theorem dX8_mostNumber_43 : decode cX8_mostNumber 43 = .ok (.iload_n 1, 1) := by decide +kernel
theorem dX8_mostNumber_44 : decode cX8_mostNumber 44 = .ok (.iload_n 3, 1) := by decide +kernel
theorem dX8_mostNumber_45 : decode cX8_mostNumber 45 = .ok (.invokevirtual 135, 3) := by decide +kernel
theorem dX8_mostNumber_48 : decode cX8_mostNumber 48 = .ok (.istore 4, 2) := by decide +kernel
theorem dX8_mostNumber_50 : decode cX8_mostNumber 50 = .ok (.aload_n 0, 1) := by decide +kernel
theorem dX8_mostNumber_51 : decode cX8_mostNumber 51 = .ok (.getfield 21, 3) := by decide +kernel
theorem dX8_mostNumber_54 : decode cX8_mostNumber 54 = .ok (.iload 4, 2) := by decide +kernel
theorem dX8_mostNumber_56 : decode cX8_mostNumber 56 = .ok (.iaload, 1) := by decide +kernel
theorem dX8_mostNumber_57 : decode cX8_mostNumber 57 = .ok (.bipush (-9), 2) := by decide +kernel
theorem dX8_mostNumber_59 : decode cX8_mostNumber 59 = .ok (.if_icmp .eq 15, 3) := by decide +kernel
theorem dX8_mostNumber_62 : decode cX8_mostNumber 62 = .ok (.iload_n 2, 1) := by decide +kernel
theorem dX8_mostNumber_63 : decode cX8_mostNumber 63 = .ok (.aload_n 0, 1) := by decide +kernel
theorem dX8_mostNumber_64 : decode cX8_mostNumber 64 = .ok (.getfield 21, 3) := by decide +kernel
theorem dX8_mostNumber_67 : decode cX8_mostNumber 67 = .ok (.iload 4, 2) := by decide +kernel
theorem dX8_mostNumber_69 : decode cX8_mostNumber 69 = .ok (.iaload, 1) := by decide +kernel
theorem dX8_mostNumber_70 : decode cX8_mostNumber 70 = .ok (.invokestatic 165, 3) := by decide +kernel
theorem dX8_mostNumber_73 : decode cX8_mostNumber 73 = .ok (.istore_n 2, 1) := by decide +kernel
theorem dX8_mostNumber_74 : decode cX8_mostNumber 74 = .ok (.iinc 3 1, 3) := by decide +kernel
theorem dX8_mostNumber_77 : decode cX8_mostNumber 77 = .ok (.goto (-51), 3) := by decide +kernel
theorem dX8_mostNumber_80 : decode cX8_mostNumber 80 = .ok (.iload_n 2, 1) := by decide +kernel
theorem dX8_mostNumber_81 : decode cX8_mostNumber 81 = .ok (.ireturn, 1) := by decide +kernel
theorem dX8_take_0 : decode cX8_take 0 = .ok (.iconst 0, 1) := by decide +kernel
theorem dX8_take_1 : decode cX8_take 1 = .ok (.istore_n 3, 1) := by decide +kernel
theorem dX8_take_2 : decode cX8_take 2 = .ok (.iload_n 3, 1) := by decide +kernel
theorem dX8_take_3 : decode cX8_take 3 = .ok (.aload_n 0, 1) := by decide +kernel
theorem dX8_take_4 : decode cX8_take 4 = .ok (.getfield 48, 3) := by decide +kernel
theorem dX8_take_7 : decode cX8_take 7 = .ok (.getfield 132, 3) := by decide +kernel
theorem dX8_take_10 : decode cX8_take 10 = .ok (.iload_n 1, 1) := by decide +kernel
theorem dX8_take_11 : decode cX8_take 11 = .ok (.iaload, 1) := by decide +kernel
theorem dX8_take_12 : decode cX8_take 12 = .ok (.if_icmp .ge 43, 3) := by decide +kernel
theorem dX8_take_15 : decode cX8_take 15 = .ok (.aload_n 0, 1) := by decide +kernel
theorem dX8_take_16 : decode cX8_take 16 = .ok (.getfield 48, 3) := by decide +kernel
theorem dX8_take_19 : decode cX8_take 19 = .ok (.iload_n 1, 1) := by decide +kernel
theorem dX8_take_20 : decode cX8_take 20 = .ok (.iload_n 3, 1) := by decide +kernel
theorem dX8_take_21 : decode cX8_take 21 = .ok (.invokevirtual 135, 3) := by decide +kernel
theorem dX8_take_24 : decode cX8_take 24 = .ok (.istore 4, 2) := by decide +kernel
theorem dX8_take_26 : decode cX8_take 26 = .ok (.aload_n 0, 1) := by decide +kernel
theorem dX8_take_27 : decode cX8_take 27 = .ok (.getfield 21, 3) := by decide +kernel
theorem dX8_take_30 : decode cX8_take 30 = .ok (.iload 4, 2) := by decide +kernel
theorem dX8_take_32 : decode cX8_take 32 = .ok (.iaload, 1) := by decide +kernel
theorem dX8_take_33 : decode cX8_take 33 = .ok (.bipush (-9), 2) := by decide +kernel
theorem dX8_take_35 : decode cX8_take 35 = .ok (.if_icmp .eq 14, 3) := by decide +kernel
theorem dX8_take_38 : decode cX8_take 38 = .ok (.aload_n 0, 1) := by decide +kernel
theorem dX8_take_39 : decode cX8_take 39 = .ok (.getfield 21, 3) := by decide +kernel
theorem dX8_take_42 : decode cX8_take 42 = .ok (.iload 4, 2) := by decide +kernel
theorem dX8_take_44 : decode cX8_take 44 = .ok (.dup2, 1) := by decide +kernel
theorem dX8_take_45 : decode cX8_take 45 = .ok (.iaload, 1) := by decide +kernel
theorem dX8_take_46 : decode cX8_take 46 = .ok (.iload_n 2, 1) := by decide +kernel
theorem dX8_take_47 : decode cX8_take 47 = .ok (.isub, 1) := by decide +kernel
theorem dX8_take_48 : decode cX8_take 48 = .ok (.iastore, 1) := by decide +kernel
theorem dX8_take_49 : decode cX8_take 49 = .ok (.iinc 3 1, 3) := by decide +kernel
theorem dX8_take_52 : decode cX8_take 52 = .ok (.goto (-50), 3) := by decide +kernel
theorem dX8_take_55 : decode cX8_take 55 = .ok (.return_, 1) := by decide +kernel
theorem dX8_isNothingLeft_0 : decode cX8_isNothingLeft 0 = .ok (.iconst 0, 1) := by decide +kernel
theorem dX8_isNothingLeft_1 : decode cX8_isNothingLeft 1 = .ok (.istore_n 1, 1) := by decide +kernel
theorem dX8_isNothingLeft_2 : decode cX8_isNothingLeft 2 = .ok (.iload_n 1, 1) := by decide +kernel
theorem dX8_isNothingLeft_3 : decode cX8_isNothingLeft 3 = .ok (.aload_n 0, 1) := by decide +kernel
theorem dX8_isNothingLeft_4 : decode cX8_isNothingLeft 4 = .ok (.getfield 44, 3) := by decide +kernel
theorem dX8_isNothingLeft_7 : decode cX8_isNothingLeft 7 = .ok (.getfield 69, 3) := by decide +kernel
theorem dX8_isNothingLeft_10 : decode cX8_isNothingLeft 10 = .ok (.if_icmp .ge 20, 3) := by decide +kernel
theorem dX8_isNothingLeft_13 : decode cX8_isNothingLeft 13 = .ok (.aload_n 0, 1) := by decide +kernel
theorem dX8_isNothingLeft_14 : decode cX8_isNothingLeft 14 = .ok (.getfield 21, 3) := by decide +kernel
theorem dX8_isNothingLeft_17 : decode cX8_isNothingLeft 17 = .ok (.iload_n 1, 1) := by decide +kernel
theorem dX8_isNothingLeft_18 : decode cX8_isNothingLeft 18 = .ok (.iaload, 1) := by decide +kernel
theorem dX8_isNothingLeft_19 : decode cX8_isNothingLeft 19 = .ok (.ifCond .le 5, 3) := by decide +kernel
theorem dX8_isNothingLeft_22 : decode cX8_isNothingLeft 22 = .ok (.iconst 0, 1) := by decide +kernel
theorem dX8_isNothingLeft_23 : decode cX8_isNothingLeft 23 = .ok (.ireturn, 1) := by decide +kernel
theorem dX8_isNothingLeft_24 : decode cX8_isNothingLeft 24 = .ok (.iinc 1 1, 3) := by decide +kernel
theorem dX8_isNothingLeft_27 : decode cX8_isNothingLeft 27 = .ok (.goto (-25), 3) := by decide +kernel
theorem dX8_isNothingLeft_30 : decode cX8_isNothingLeft 30 = .ok (.iconst 1, 1) := by decide +kernel
theorem dX8_isNothingLeft_31 : decode cX8_isNothingLeft 31 = .ok (.ireturn, 1) := by decide +kernel
theorem dX8_findFree_0 : decode cX8_findFree 0 = .ok (.iconst 0, 1) := by decide +kernel
theorem dX8_findFree_1 : decode cX8_findFree 1 = .ok (.istore_n 1, 1) := by decide +kernel
theorem dX8_findFree_2 : decode cX8_findFree 2 = .ok (.iconst 0, 1) := by decide +kernel
theorem dX8_findFree_3 : decode cX8_findFree 3 = .ok (.istore_n 2, 1) := by decide +kernel
theorem dX8_findFree_4 : decode cX8_findFree 4 = .ok (.iload_n 2, 1) := by decide +kernel
theorem dX8_findFree_5 : decode cX8_findFree 5 = .ok (.aload_n 0, 1) := by decide +kernel
theorem dX8_findFree_6 : decode cX8_findFree 6 = .ok (.getfield 30, 3) := by decide +kernel
theorem dX8_findFree_9 : decode cX8_findFree 9 = .ok (.if_icmp .ge 46, 3) := by decide +kernel
theorem dX8_findFree_12 : decode cX8_findFree 12 = .ok (.aload_n 0, 1) := by decide +kernel
theorem dX8_findFree_13 : decode cX8_findFree 13 = .ok (.getfield 44, 3) := by decide +kernel
theorem dX8_findFree_16 : decode cX8_findFree 16 = .ok (.getfield 58, 3) := by decide +kernel
theorem dX8_findFree_19 : decode cX8_findFree 19 = .ok (.aload_n 0, 1) := by decide +kernel
theorem dX8_findFree_20 : decode cX8_findFree 20 = .ok (.getfield 9, 3) := by decide +kernel
theorem dX8_findFree_23 : decode cX8_findFree 23 = .ok (.iload_n 2, 1) := by decide +kernel
theorem dX8_findFree_24 : decode cX8_findFree 24 = .ok (.iaload, 1) := by decide +kernel
theorem dX8_findFree_25 : decode cX8_findFree 25 = .ok (.iaload, 1) := by decide +kernel
theorem dX8_findFree_26 : decode cX8_findFree 26 = .ok (.bipush (-9), 2) := by decide +kernel
theorem dX8_findFree_28 : decode cX8_findFree 28 = .ok (.if_icmp .eq 6, 3) := by decide +kernel
theorem dX8_findFree_31 : decode cX8_findFree 31 = .ok (.goto 18, 3) := by decide +kernel
theorem dX8_findFree_34 : decode cX8_findFree 34 = .ok (.aload_n 0, 1) := by decide +kernel
theorem dX8_findFree_35 : decode cX8_findFree 35 = .ok (.getfield 15, 3) := by decide +kernel
theorem dX8_findFree_38 : decode cX8_findFree 38 = .ok (.iload_n 1, 1) := by decide +kernel
theorem dX8_findFree_39 : decode cX8_findFree 39 = .ok (.aload_n 0, 1) := by decide +kernel
theorem dX8_findFree_40 : decode cX8_findFree 40 = .ok (.getfield 9, 3) := by decide +kernel
theorem dX8_findFree_43 : decode cX8_findFree 43 = .ok (.iload_n 2, 1) := by decide +kernel
theorem dX8_findFree_44 : decode cX8_findFree 44 = .ok (.iaload, 1) := by decide +kernel
theorem dX8_findFree_45 : decode cX8_findFree 45 = .ok (.iastore, 1) := by decide +kernel
theorem dX8_findFree_46 : decode cX8_findFree 46 = .ok (.iinc 1 1, 3) := by decide +kernel
theorem dX8_findFree_49 : decode cX8_findFree 49 = .ok (.iinc 2 1, 3) := by decide +kernel
theorem dX8_findFree_52 : decode cX8_findFree 52 = .ok (.goto (-48), 3) := by decide +kernel
theorem dX8_findFree_55 : decode cX8_findFree 55 = .ok (.iload_n 1, 1) := by decide +kernel
theorem dX8_findFree_56 : decode cX8_findFree 56 = .ok (.ireturn, 1) := by decide +kernel
theorem dX8_fix_0 : decode cX8_fix 0 = .ok (.iconst 0, 1) := by decide +kernel
theorem dX8_fix_1 : decode cX8_fix 1 = .ok (.istore 5, 2) := by decide +kernel
theorem dX8_fix_3 : decode cX8_fix 3 = .ok (.iload 5, 2) := by decide +kernel
theorem dX8_fix_5 : decode cX8_fix 5 = .ok (.iload_n 3, 1) := by decide +kernel
theorem dX8_fix_6 : decode cX8_fix 6 = .ok (.if_icmp .ge 47, 3) := by decide +kernel
theorem dX8_fix_9 : decode cX8_fix 9 = .ok (.aload_n 0, 1) := by decide +kernel
theorem dX8_fix_10 : decode cX8_fix 10 = .ok (.getfield 24, 3) := by decide +kernel
theorem dX8_fix_13 : decode cX8_fix 13 = .ok (.aload_n 0, 1) := by decide +kernel
theorem dX8_fix_14 : decode cX8_fix 14 = .ok (.getfield 15, 3) := by decide +kernel
theorem dX8_fix_17 : decode cX8_fix 17 = .ok (.iload 5, 2) := by decide +kernel
theorem dX8_fix_19 : decode cX8_fix 19 = .ok (.iaload, 1) := by decide +kernel
theorem dX8_fix_20 : decode cX8_fix 20 = .ok (.lload_n 1, 1) := by decide +kernel
theorem dX8_fix_21 : decode cX8_fix 21 = .ok (.iload 5, 2) := by decide +kernel
theorem dX8_fix_23 : decode cX8_fix 23 = .ok (.lshr, 1) := by decide +kernel
theorem dX8_fix_24 : decode cX8_fix 24 = .ok (.lconst 1, 1) := by decide +kernel
theorem dX8_fix_25 : decode cX8_fix 25 = .ok (.land, 1) := by decide +kernel
theorem dX8_fix_26 : decode cX8_fix 26 = .ok (.lconst 1, 1) := by decide +kernel
theorem dX8_fix_27 : decode cX8_fix 27 = .ok (.lcmp, 1) := by decide +kernel
theorem dX8_fix_28 : decode cX8_fix 28 = .ok (.ifCond .ne 16, 3) := by decide +kernel
theorem dX8_fix_31 : decode cX8_fix 31 = .ok (.aload 4, 2) := by decide +kernel
theorem dX8_fix_33 : decode cX8_fix 33 = .ok (.aload_n 0, 1) := by decide +kernel
theorem dX8_fix_34 : decode cX8_fix 34 = .ok (.getfield 15, 3) := by decide +kernel
theorem dX8_fix_37 : decode cX8_fix 37 = .ok (.iload 5, 2) := by decide +kernel
theorem dX8_fix_39 : decode cX8_fix 39 = .ok (.iaload, 1) := by decide +kernel
theorem dX8_fix_40 : decode cX8_fix 40 = .ok (.iaload, 1) := by decide +kernel
theorem dX8_fix_41 : decode cX8_fix 41 = .ok (.goto 5, 3) := by decide +kernel
theorem dX8_fix_44 : decode cX8_fix 44 = .ok (.bipush (-9), 2) := by decide +kernel
theorem dX8_fix_46 : decode cX8_fix 46 = .ok (.iastore, 1) := by decide +kernel
theorem dX8_fix_47 : decode cX8_fix 47 = .ok (.iinc 5 1, 3) := by decide +kernel
theorem dX8_fix_50 : decode cX8_fix 50 = .ok (.goto (-47), 3) := by decide +kernel
theorem dX8_fix_53 : decode cX8_fix 53 = .ok (.return_, 1) := by decide +kernel
theorem dX8_bitsOf_0 : decode cX8_bitsOf 0 = .ok (.lconst 0, 1) := by decide +kernel
theorem dX8_bitsOf_1 : decode cX8_bitsOf 1 = .ok (.lstore 4, 2) := by decide +kernel
theorem dX8_bitsOf_3 : decode cX8_bitsOf 3 = .ok (.iconst 0, 1) := by decide +kernel
theorem dX8_bitsOf_4 : decode cX8_bitsOf 4 = .ok (.istore 6, 2) := by decide +kernel
theorem dX8_bitsOf_6 : decode cX8_bitsOf 6 = .ok (.iload 6, 2) := by decide +kernel
theorem dX8_bitsOf_8 : decode cX8_bitsOf 8 = .ok (.iload_n 3, 1) := by decide +kernel
theorem dX8_bitsOf_9 : decode cX8_bitsOf 9 = .ok (.if_icmp .ge 34, 3) := by decide +kernel
theorem dX8_bitsOf_12 : decode cX8_bitsOf 12 = .ok (.lload_n 1, 1) := by decide +kernel
theorem dX8_bitsOf_13 : decode cX8_bitsOf 13 = .ok (.iload 6, 2) := by decide +kernel
theorem dX8_bitsOf_15 : decode cX8_bitsOf 15 = .ok (.lshr, 1) := by decide +kernel
theorem dX8_bitsOf_16 : decode cX8_bitsOf 16 = .ok (.lconst 1, 1) := by decide +kernel
theorem dX8_bitsOf_17 : decode cX8_bitsOf 17 = .ok (.land, 1) := by decide +kernel
theorem dX8_bitsOf_18 : decode cX8_bitsOf 18 = .ok (.lconst 1, 1) := by decide +kernel
theorem dX8_bitsOf_19 : decode cX8_bitsOf 19 = .ok (.lcmp, 1) := by decide +kernel
theorem dX8_bitsOf_20 : decode cX8_bitsOf 20 = .ok (.ifCond .ne 17, 3) := by decide +kernel
theorem dX8_bitsOf_23 : decode cX8_bitsOf 23 = .ok (.lload 4, 2) := by decide +kernel
theorem dX8_bitsOf_25 : decode cX8_bitsOf 25 = .ok (.lconst 1, 1) := by decide +kernel
theorem dX8_bitsOf_26 : decode cX8_bitsOf 26 = .ok (.aload_n 0, 1) := by decide +kernel
theorem dX8_bitsOf_27 : decode cX8_bitsOf 27 = .ok (.getfield 15, 3) := by decide +kernel
theorem dX8_bitsOf_30 : decode cX8_bitsOf 30 = .ok (.iload 6, 2) := by decide +kernel
theorem dX8_bitsOf_32 : decode cX8_bitsOf 32 = .ok (.iaload, 1) := by decide +kernel
theorem dX8_bitsOf_33 : decode cX8_bitsOf 33 = .ok (.lshl, 1) := by decide +kernel
theorem dX8_bitsOf_34 : decode cX8_bitsOf 34 = .ok (.lor, 1) := by decide +kernel
theorem dX8_bitsOf_35 : decode cX8_bitsOf 35 = .ok (.lstore 4, 2) := by decide +kernel
theorem dX8_bitsOf_37 : decode cX8_bitsOf 37 = .ok (.iinc 6 1, 3) := by decide +kernel
theorem dX8_bitsOf_40 : decode cX8_bitsOf 40 = .ok (.goto (-34), 3) := by decide +kernel
theorem dX8_bitsOf_43 : decode cX8_bitsOf 43 = .ok (.lload 4, 2) := by decide +kernel
theorem dX8_bitsOf_45 : decode cX8_bitsOf 45 = .ok (.lreturn, 1) := by decide +kernel
theorem dX8_nextSet_0 : decode cX8_nextSet 0 = .ok (.lload_n 0, 1) := by decide +kernel
theorem dX8_nextSet_1 : decode cX8_nextSet 1 = .ok (.lconst 0, 1) := by decide +kernel
theorem dX8_nextSet_2 : decode cX8_nextSet 2 = .ok (.lcmp, 1) := by decide +kernel
theorem dX8_nextSet_3 : decode cX8_nextSet 3 = .ok (.ifCond .ne 7, 3) := by decide +kernel
theorem dX8_nextSet_6 : decode cX8_nextSet 6 = .ok (.ldc2_w 170, 3) := by decide +kernel
theorem dX8_nextSet_9 : decode cX8_nextSet 9 = .ok (.lreturn, 1) := by decide +kernel
theorem dX8_nextSet_10 : decode cX8_nextSet 10 = .ok (.lload_n 0, 1) := by decide +kernel
theorem dX8_nextSet_11 : decode cX8_nextSet 11 = .ok (.lload_n 0, 1) := by decide +kernel
theorem dX8_nextSet_12 : decode cX8_nextSet 12 = .ok (.lneg, 1) := by decide +kernel
theorem dX8_nextSet_13 : decode cX8_nextSet 13 = .ok (.land, 1) := by decide +kernel
theorem dX8_nextSet_14 : decode cX8_nextSet 14 = .ok (.lstore_n 2, 1) := by decide +kernel
theorem dX8_nextSet_15 : decode cX8_nextSet 15 = .ok (.lload_n 0, 1) := by decide +kernel
theorem dX8_nextSet_16 : decode cX8_nextSet 16 = .ok (.lload_n 2, 1) := by decide +kernel
theorem dX8_nextSet_17 : decode cX8_nextSet 17 = .ok (.ladd, 1) := by decide +kernel
theorem dX8_nextSet_18 : decode cX8_nextSet 18 = .ok (.lstore 4, 2) := by decide +kernel
theorem dX8_nextSet_20 : decode cX8_nextSet 20 = .ok (.lload 4, 2) := by decide +kernel
theorem dX8_nextSet_22 : decode cX8_nextSet 22 = .ok (.lload_n 0, 1) := by decide +kernel
theorem dX8_nextSet_23 : decode cX8_nextSet 23 = .ok (.lload 4, 2) := by decide +kernel
theorem dX8_nextSet_25 : decode cX8_nextSet 25 = .ok (.lxor, 1) := by decide +kernel
theorem dX8_nextSet_26 : decode cX8_nextSet 26 = .ok (.iconst 2, 1) := by decide +kernel
theorem dX8_nextSet_27 : decode cX8_nextSet 27 = .ok (.lload_n 2, 1) := by decide +kernel
theorem dX8_nextSet_28 : decode cX8_nextSet 28 = .ok (.invokestatic 172, 3) := by decide +kernel
theorem dX8_nextSet_31 : decode cX8_nextSet 31 = .ok (.iadd, 1) := by decide +kernel
theorem dX8_nextSet_32 : decode cX8_nextSet 32 = .ok (.lushr, 1) := by decide +kernel
theorem dX8_nextSet_33 : decode cX8_nextSet 33 = .ok (.lor, 1) := by decide +kernel
theorem dX8_nextSet_34 : decode cX8_nextSet 34 = .ok (.lreturn, 1) := by decide +kernel
theorem dX9_init_0 : decode cX9_init 0 = .ok (.aload_n 0, 1) := by decide +kernel
theorem dX9_init_1 : decode cX9_init 1 = .ok (.invokespecial 3, 3) := by decide +kernel
theorem dX9_init_4 : decode cX9_init 4 = .ok (.aload_n 0, 1) := by decide +kernel
theorem dX9_init_5 : decode cX9_init 5 = .ok (.iconst 4, 1) := by decide +kernel
theorem dX9_init_6 : decode cX9_init 6 = .ok (.bipush 24, 2) := by decide +kernel
theorem dX9_init_8 : decode cX9_init 8 = .ok (.multianewarray 9 2, 4) := by decide +kernel
theorem dX9_init_12 : decode cX9_init 12 = .ok (.putfield 11, 3) := by decide +kernel
theorem dX9_init_15 : decode cX9_init 15 = .ok (.aload_n 0, 1) := by decide +kernel
theorem dX9_init_16 : decode cX9_init 16 = .ok (.iconst 4, 1) := by decide +kernel
theorem dX9_init_17 : decode cX9_init 17 = .ok (.newarray .int, 2) := by decide +kernel
theorem dX9_init_19 : decode cX9_init 19 = .ok (.putfield 16, 3) := by decide +kernel
theorem dX9_init_22 : decode cX9_init 22 = .ok (.aload_n 0, 1) := by decide +kernel
theorem dX9_init_23 : decode cX9_init 23 = .ok (.getfield 16, 3) := by decide +kernel
theorem dX9_init_26 : decode cX9_init 26 = .ok (.iconst (-1), 1) := by decide +kernel
theorem dX9_init_27 : decode cX9_init 27 = .ok (.invokestatic 20, 3) := by decide +kernel
theorem dX9_init_30 : decode cX9_init 30 = .ok (.return_, 1) := by decide +kernel
theorem dX9_put_0 : decode cX9_put 0 = .ok (.aload_n 0, 1) := by decide +kernel
theorem dX9_put_1 : decode cX9_put 1 = .ok (.getfield 16, 3) := by decide +kernel
theorem dX9_put_4 : decode cX9_put 4 = .ok (.iload_n 1, 1) := by decide +kernel
theorem dX9_put_5 : decode cX9_put 5 = .ok (.iload_n 2, 1) := by decide +kernel
theorem dX9_put_6 : decode cX9_put 6 = .ok (.iastore, 1) := by decide +kernel
theorem dX9_put_7 : decode cX9_put 7 = .ok (.aload_n 0, 1) := by decide +kernel
theorem dX9_put_8 : decode cX9_put 8 = .ok (.getfield 11, 3) := by decide +kernel
theorem dX9_put_11 : decode cX9_put 11 = .ok (.iload_n 1, 1) := by decide +kernel
theorem dX9_put_12 : decode cX9_put 12 = .ok (.aaload, 1) := by decide +kernel
theorem dX9_put_13 : decode cX9_put 13 = .ok (.iconst 0, 1) := by decide +kernel
theorem dX9_put_14 : decode cX9_put 14 = .ok (.invokestatic 26, 3) := by decide +kernel
theorem dX9_put_17 : decode cX9_put 17 = .ok (.return_, 1) := by decide +kernel
theorem dX9_hasRun_0 : decode cX9_hasRun 0 = .ok (.iload_n 2, 1) := by decide +kernel
theorem dX9_hasRun_1 : decode cX9_hasRun 1 = .ok (.ifCond .lt 19, 3) := by decide +kernel
theorem dX9_hasRun_4 : decode cX9_hasRun 4 = .ok (.iload_n 2, 1) := by decide +kernel
theorem dX9_hasRun_5 : decode cX9_hasRun 5 = .ok (.aload_n 0, 1) := by decide +kernel
theorem dX9_hasRun_6 : decode cX9_hasRun 6 = .ok (.getfield 16, 3) := by decide +kernel
theorem dX9_hasRun_9 : decode cX9_hasRun 9 = .ok (.iload_n 1, 1) := by decide +kernel
theorem dX9_hasRun_10 : decode cX9_hasRun 10 = .ok (.iaload, 1) := by decide +kernel
theorem dX9_hasRun_11 : decode cX9_hasRun 11 = .ok (.iload_n 3, 1) := by decide +kernel
theorem dX9_hasRun_12 : decode cX9_hasRun 12 = .ok (.isub, 1) := by decide +kernel
theorem dX9_hasRun_13 : decode cX9_hasRun 13 = .ok (.if_icmp .gt 7, 3) := by decide +kernel
theorem dX9_hasRun_16 : decode cX9_hasRun 16 = .ok (.iconst 1, 1) := by decide +kernel
theorem dX9_hasRun_17 : decode cX9_hasRun 17 = .ok (.goto 4, 3) := by decide +kernel
theorem dX9_hasRun_20 : decode cX9_hasRun 20 = .ok (.iconst 0, 1) := by decide +kernel
theorem dX9_hasRun_21 : decode cX9_hasRun 21 = .ok (.ireturn, 1) := by decide +kernel
theorem dX10_init_0 : decode cX10_init 0 = .ok (.aload_n 0, 1) := by decide +kernel
theorem dX10_init_1 : decode cX10_init 1 = .ok (.invokespecial 3, 3) := by decide +kernel
theorem dX10_init_4 : decode cX10_init 4 = .ok (.aload_n 0, 1) := by decide +kernel
theorem dX10_init_5 : decode cX10_init 5 = .ok (.bipush 36, 2) := by decide +kernel
theorem dX10_init_7 : decode cX10_init 7 = .ok (.newarray .int, 2) := by decide +kernel
theorem dX10_init_9 : decode cX10_init 9 = .ok (.putfield 9, 3) := by decide +kernel
theorem dX10_init_12 : decode cX10_init 12 = .ok (.aload_n 0, 1) := by decide +kernel
theorem dX10_init_13 : decode cX10_init 13 = .ok (.iconst 0, 1) := by decide +kernel
theorem dX10_init_14 : decode cX10_init 14 = .ok (.putfield 15, 3) := by decide +kernel
theorem dX10_init_17 : decode cX10_init 17 = .ok (.aload_n 0, 1) := by decide +kernel
theorem dX10_init_18 : decode cX10_init 18 = .ok (.iconst 0, 1) := by decide +kernel
theorem dX10_init_19 : decode cX10_init 19 = .ok (.putfield 19, 3) := by decide +kernel
theorem dX10_init_22 : decode cX10_init 22 = .ok (.return_, 1) := by decide +kernel
theorem dX10_begin_0 : decode cX10_begin 0 = .ok (.aload_n 0, 1) := by decide +kernel
theorem dX10_begin_1 : decode cX10_begin 1 = .ok (.iconst 0, 1) := by decide +kernel
theorem dX10_begin_2 : decode cX10_begin 2 = .ok (.putfield 15, 3) := by decide +kernel
theorem dX10_begin_5 : decode cX10_begin 5 = .ok (.aload_n 0, 1) := by decide +kernel
theorem dX10_begin_6 : decode cX10_begin 6 = .ok (.iload_n 1, 1) := by decide +kernel
theorem dX10_begin_7 : decode cX10_begin 7 = .ok (.putfield 19, 3) := by decide +kernel
theorem dX10_begin_10 : decode cX10_begin 10 = .ok (.return_, 1) := by decide +kernel
theorem dX10_hasEnough_0 : decode cX10_hasEnough 0 = .ok (.aload_n 0, 1) := by decide +kernel
theorem dX10_hasEnough_1 : decode cX10_hasEnough 1 = .ok (.getfield 15, 3) := by decide +kernel
theorem dX10_hasEnough_4 : decode cX10_hasEnough 4 = .ok (.ifCond .ne 15, 3) := by decide +kernel
theorem dX10_hasEnough_7 : decode cX10_hasEnough 7 = .ok (.aload_n 1, 1) := by decide +kernel
theorem dX10_hasEnough_8 : decode cX10_hasEnough 8 = .ok (.iconst 0, 1) := by decide +kernel
theorem dX10_hasEnough_9 : decode cX10_hasEnough 9 = .ok (.aload_n 0, 1) := by decide +kernel
theorem dX10_hasEnough_10 : decode cX10_hasEnough 10 = .ok (.getfield 9, 3) := by decide +kernel
theorem dX10_hasEnough_13 : decode cX10_hasEnough 13 = .ok (.iconst 0, 1) := by decide +kernel
theorem dX10_hasEnough_14 : decode cX10_hasEnough 14 = .ok (.bipush 36, 2) := by decide +kernel
theorem dX10_hasEnough_16 : decode cX10_hasEnough 16 = .ok (.invokestatic 22, 3) := by decide +kernel
theorem dX10_hasEnough_19 : decode cX10_hasEnough 19 = .ok (.aload_n 0, 1) := by decide +kernel
theorem dX10_hasEnough_20 : decode cX10_hasEnough 20 = .ok (.dup, 1) := by decide +kernel
theorem dX10_hasEnough_21 : decode cX10_hasEnough 21 = .ok (.getfield 15, 3) := by decide +kernel
theorem dX10_hasEnough_24 : decode cX10_hasEnough 24 = .ok (.iconst 1, 1) := by decide +kernel
theorem dX10_hasEnough_25 : decode cX10_hasEnough 25 = .ok (.iadd, 1) := by decide +kernel
theorem dX10_hasEnough_26 : decode cX10_hasEnough 26 = .ok (.putfield 15, 3) := by decide +kernel
theorem dX10_hasEnough_29 : decode cX10_hasEnough 29 = .ok (.aload_n 0, 1) := by decide +kernel
theorem dX10_hasEnough_30 : decode cX10_hasEnough 30 = .ok (.getfield 15, 3) := by decide +kernel
theorem dX10_hasEnough_33 : decode cX10_hasEnough 33 = .ok (.aload_n 0, 1) := by decide +kernel
theorem dX10_hasEnough_34 : decode cX10_hasEnough 34 = .ok (.getfield 19, 3) := by decide +kernel
theorem dX10_hasEnough_37 : decode cX10_hasEnough 37 = .ok (.if_icmp .lt 7, 3) := by decide +kernel
theorem dX10_hasEnough_40 : decode cX10_hasEnough 40 = .ok (.iconst 1, 1) := by decide +kernel
theorem dX10_hasEnough_41 : decode cX10_hasEnough 41 = .ok (.goto 4, 3) := by decide +kernel
theorem dX10_hasEnough_44 : decode cX10_hasEnough 44 = .ok (.iconst 0, 1) := by decide +kernel
theorem dX10_hasEnough_45 : decode cX10_hasEnough 45 = .ok (.ireturn, 1) := by decide +kernel
theorem dX11_init_0 : decode cX11_init 0 = .ok (.aload_n 0, 1) := by decide +kernel
theorem dX11_init_1 : decode cX11_init 1 = .ok (.invokespecial 1, 3) := by decide +kernel
theorem dX11_init_4 : decode cX11_init 4 = .ok (.aload_n 0, 1) := by decide +kernel
theorem dX11_init_5 : decode cX11_init 5 = .ok (.new 7, 3) := by decide +kernel
theorem dX11_init_8 : decode cX11_init 8 = .ok (.dup, 1) := by decide +kernel
theorem dX11_init_9 : decode cX11_init 9 = .ok (.invokespecial 9, 3) := by decide +kernel
theorem dX11_init_12 : decode cX11_init 12 = .ok (.putfield 10, 3) := by decide +kernel
theorem dX11_init_15 : decode cX11_init 15 = .ok (.aload_n 0, 1) := by decide +kernel
theorem dX11_init_16 : decode cX11_init 16 = .ok (.new 16, 3) := by decide +kernel
theorem dX11_init_19 : decode cX11_init 19 = .ok (.dup, 1) := by decide +kernel
theorem dX11_init_20 : decode cX11_init 20 = .ok (.invokespecial 18, 3) := by decide +kernel
theorem dX11_init_23 : decode cX11_init 23 = .ok (.putfield 19, 3) := by decide +kernel
theorem dX11_init_26 : decode cX11_init 26 = .ok (.aload_n 0, 1) := by decide +kernel
theorem dX11_init_27 : decode cX11_init 27 = .ok (.new 16, 3) := by decide +kernel
theorem dX11_init_30 : decode cX11_init 30 = .ok (.dup, 1) := by decide +kernel
theorem dX11_init_31 : decode cX11_init 31 = .ok (.invokespecial 18, 3) := by decide +kernel
theorem dX11_init_34 : decode cX11_init 34 = .ok (.putfield 23, 3) := by decide +kernel
theorem dX11_init_37 : decode cX11_init 37 = .ok (.aload_n 0, 1) := by decide +kernel
theorem dX11_init_38 : decode cX11_init 38 = .ok (.new 26, 3) := by decide +kernel
theorem dX11_init_41 : decode cX11_init 41 = .ok (.dup, 1) := by decide +kernel
theorem dX11_init_42 : decode cX11_init 42 = .ok (.aload_n 0, 1) := by decide +kernel
theorem dX11_init_43 : decode cX11_init 43 = .ok (.getfield 10, 3) := by decide +kernel
theorem dX11_init_46 : decode cX11_init 46 = .ok (.aload_n 0, 1) := by decide +kernel
theorem dX11_init_47 : decode cX11_init 47 = .ok (.getfield 19, 3) := by decide +kernel
theorem dX11_init_50 : decode cX11_init 50 = .ok (.invokespecial 28, 3) := by decide +kernel
theorem dX11_init_53 : decode cX11_init 53 = .ok (.putfield 31, 3) := by decide +kernel
theorem dX11_init_56 : decode cX11_init 56 = .ok (.aload_n 0, 1) := by decide +kernel
theorem dX11_init_57 : decode cX11_init 57 = .ok (.new 35, 3) := by decide +kernel
theorem dX11_init_60 : decode cX11_init 60 = .ok (.dup, 1) := by decide +kernel
theorem dX11_init_61 : decode cX11_init 61 = .ok (.invokespecial 37, 3) := by decide +kernel
theorem dX11_init_64 : decode cX11_init 64 = .ok (.putfield 38, 3) := by decide +kernel
theorem dX11_init_67 : decode cX11_init 67 = .ok (.aload_n 0, 1) := by decide +kernel
theorem dX11_init_68 : decode cX11_init 68 = .ok (.new 42, 3) := by decide +kernel
theorem dX11_init_71 : decode cX11_init 71 = .ok (.dup, 1) := by decide +kernel
theorem dX11_init_72 : decode cX11_init 72 = .ok (.invokespecial 44, 3) := by decide +kernel
theorem dX11_init_75 : decode cX11_init 75 = .ok (.putfield 45, 3) := by decide +kernel
theorem dX11_init_78 : decode cX11_init 78 = .ok (.aload_n 0, 1) := by decide +kernel
theorem dX11_init_79 : decode cX11_init 79 = .ok (.new 49, 3) := by decide +kernel
theorem dX11_init_82 : decode cX11_init 82 = .ok (.dup, 1) := by decide +kernel
theorem dX11_init_83 : decode cX11_init 83 = .ok (.aload_n 0, 1) := by decide +kernel
theorem dX11_init_84 : decode cX11_init 84 = .ok (.getfield 10, 3) := by decide +kernel
theorem dX11_init_87 : decode cX11_init 87 = .ok (.getfield 51, 3) := by decide +kernel
theorem dX11_init_90 : decode cX11_init 90 = .ok (.invokespecial 55, 3) := by decide +kernel
theorem dX11_init_93 : decode cX11_init 93 = .ok (.putfield 58, 3) := by decide +kernel
theorem dX11_init_96 : decode cX11_init 96 = .ok (.aload_n 0, 1) := by decide +kernel
theorem dX11_init_97 : decode cX11_init 97 = .ok (.new 62, 3) := by decide +kernel
theorem dX11_init_100 : decode cX11_init 100 = .ok (.dup, 1) := by decide +kernel
theorem dX11_init_101 : decode cX11_init 101 = .ok (.invokespecial 64, 3) := by decide +kernel
theorem dX11_init_104 : decode cX11_init 104 = .ok (.putfield 65, 3) := by decide +kernel
theorem dX11_init_107 : decode cX11_init 107 = .ok (.aload_n 0, 1) := by decide +kernel
theorem dX11_init_108 : decode cX11_init 108 = .ok (.new 69, 3) := by decide +kernel
theorem dX11_init_111 : decode cX11_init 111 = .ok (.dup, 1) := by decide +kernel
theorem dX11_init_112 : decode cX11_init 112 = .ok (.invokespecial 71, 3) := by decide +kernel
theorem dX11_init_115 : decode cX11_init 115 = .ok (.putfield 72, 3) := by decide +kernel
theorem dX11_init_118 : decode cX11_init 118 = .ok (.aload_n 0, 1) := by decide +kernel
theorem dX11_init_119 : decode cX11_init 119 = .ok (.bipush 36, 2) := by decide +kernel
theorem dX11_init_121 : decode cX11_init 121 = .ok (.newarray .int, 2) := by decide +kernel
theorem dX11_init_123 : decode cX11_init 123 = .ok (.putfield 76, 3) := by decide +kernel
theorem dX11_init_126 : decode cX11_init 126 = .ok (.aload_n 0, 1) := by decide +kernel
theorem dX11_init_127 : decode cX11_init 127 = .ok (.iconst 0, 1) := by decide +kernel
theorem dX11_init_128 : decode cX11_init 128 = .ok (.putfield 79, 3) := by decide +kernel
theorem dX11_init_131 : decode cX11_init 131 = .ok (.aload_n 0, 1) := by decide +kernel
theorem dX11_init_132 : decode cX11_init 132 = .ok (.iconst 0, 1) := by decide +kernel
theorem dX11_init_133 : decode cX11_init 133 = .ok (.putfield 83, 3) := by decide +kernel
theorem dX11_init_136 : decode cX11_init 136 = .ok (.aload_n 0, 1) := by decide +kernel
theorem dX11_init_137 : decode cX11_init 137 = .ok (.lconst 0, 1) := by decide +kernel
theorem dX11_init_138 : decode cX11_init 138 = .ok (.putfield 87, 3) := by decide +kernel
theorem dX11_init_141 : decode cX11_init 141 = .ok (.aload_n 0, 1) := by decide +kernel
theorem dX11_init_142 : decode cX11_init 142 = .ok (.iconst 0, 1) := by decide +kernel
theorem dX11_init_143 : decode cX11_init 143 = .ok (.putfield 91, 3) := by decide +kernel
theorem dX11_init_146 : decode cX11_init 146 = .ok (.aload_n 0, 1) := by decide +kernel
theorem dX11_init_147 : decode cX11_init 147 = .ok (.bipush 6, 2) := by decide +kernel
theorem dX11_init_149 : decode cX11_init 149 = .ok (.newarray .int, 2) := by decide +kernel
theorem dX11_init_151 : decode cX11_init 151 = .ok (.putfield 94, 3) := by decide +kernel
theorem dX11_init_154 : decode cX11_init 154 = .ok (.aload_n 0, 1) := by decide +kernel
theorem dX11_init_155 : decode cX11_init 155 = .ok (.getfield 19, 3) := by decide +kernel
theorem dX11_init_158 : decode cX11_init 158 = .ok (.aload_n 0, 1) := by decide +kernel
theorem dX11_init_159 : decode cX11_init 159 = .ok (.getfield 10, 3) := by decide +kernel
theorem dX11_init_162 : decode cX11_init 162 = .ok (.bipush (-9), 2) := by decide +kernel
theorem dX11_init_164 : decode cX11_init 164 = .ok (.invokevirtual 97, 3) := by decide +kernel
theorem dX11_init_167 : decode cX11_init 167 = .ok (.return_, 1) := by decide +kernel
theorem dX11_net_0 : decode cX11_net 0 = .ok (.iload_n 1, 1) := by decide +kernel
theorem dX11_net_1 : decode cX11_net 1 = .ok (.iconst 2, 1) := by decide +kernel
theorem dX11_net_2 : decode cX11_net 2 = .ok (.if_icmp .lt 9, 3) := by decide +kernel
theorem dX11_net_5 : decode cX11_net 5 = .ok (.iload_n 1, 1) := by decide +kernel
theorem dX11_net_6 : decode cX11_net 6 = .ok (.bipush 6, 2) := by decide +kernel
theorem dX11_net_8 : decode cX11_net 8 = .ok (.if_icmp .le 5, 3) := by decide +kernel
theorem dX11_net_11 : decode cX11_net 11 = .ok (.iconst (-1), 1) := by decide +kernel
theorem dX11_net_12 : decode cX11_net 12 = .ok (.ireturn, 1) := by decide +kernel
theorem dX11_net_13 : decode cX11_net 13 = .ok (.aload_n 0, 1) := by decide +kernel
theorem dX11_net_14 : decode cX11_net 14 = .ok (.getfield 10, 3) := by decide +kernel
theorem dX11_net_17 : decode cX11_net 17 = .ok (.iload_n 1, 1) := by decide +kernel
theorem dX11_net_18 : decode cX11_net 18 = .ok (.invokevirtual 101, 3) := by decide +kernel
theorem dX11_net_21 : decode cX11_net 21 = .ok (.aload_n 0, 1) := by decide +kernel
theorem dX11_net_22 : decode cX11_net 22 = .ok (.getfield 19, 3) := by decide +kernel
theorem dX11_net_25 : decode cX11_net 25 = .ok (.aload_n 0, 1) := by decide +kernel
theorem dX11_net_26 : decode cX11_net 26 = .ok (.getfield 10, 3) := by decide +kernel
theorem dX11_net_29 : decode cX11_net 29 = .ok (.bipush (-9), 2) := by decide +kernel
theorem dX11_net_31 : decode cX11_net 31 = .ok (.invokevirtual 97, 3) := by decide +kernel
theorem dX11_net_34 : decode cX11_net 34 = .ok (.aload_n 0, 1) := by decide +kernel
theorem dX11_net_35 : decode cX11_net 35 = .ok (.iconst 0, 1) := by decide +kernel
theorem dX11_net_36 : decode cX11_net 36 = .ok (.putfield 79, 3) := by decide +kernel
theorem dX11_net_39 : decode cX11_net 39 = .ok (.iload_n 1, 1) := by decide +kernel
theorem dX11_net_40 : decode cX11_net 40 = .ok (.ireturn, 1) := by decide +kernel
theorem dX11_line_0 : decode cX11_line 0 = .ok (.iload_n 1, 1) := by decide +kernel
theorem dX11_line_1 : decode cX11_line 1 = .ok (.ifCond .lt 20, 3) := by decide +kernel
theorem dX11_line_4 : decode cX11_line 4 = .ok (.iload_n 1, 1) := by decide +kernel
theorem dX11_line_5 : decode cX11_line 5 = .ok (.iconst 3, 1) := by decide +kernel
theorem dX11_line_6 : decode cX11_line 6 = .ok (.if_icmp .gt 15, 3) := by decide +kernel
theorem dX11_line_9 : decode cX11_line 9 = .ok (.aload_n 0, 1) := by decide +kernel
theorem dX11_line_10 : decode cX11_line 10 = .ok (.getfield 10, 3) := by decide +kernel
theorem dX11_line_13 : decode cX11_line 13 = .ok (.iload_n 2, 1) := by decide +kernel
theorem dX11_line_14 : decode cX11_line 14 = .ok (.iload_n 3, 1) := by decide +kernel
theorem dX11_line_15 : decode cX11_line 15 = .ok (.invokevirtual 105, 3) := by decide +kernel
theorem dX11_line_18 : decode cX11_line 18 = .ok (.ifCond .ne 5, 3) := by decide +kernel
theorem dX11_line_21 : decode cX11_line 21 = .ok (.iconst (-1), 1) := by decide +kernel
theorem dX11_line_22 : decode cX11_line 22 = .ok (.ireturn, 1) := by decide +kernel
theorem dX11_line_23 : decode cX11_line 23 = .ok (.aload_n 0, 1) := by decide +kernel
theorem dX11_line_24 : decode cX11_line 24 = .ok (.getfield 10, 3) := by decide +kernel
theorem dX11_line_27 : decode cX11_line 27 = .ok (.getfield 109, 3) := by decide +kernel
theorem dX11_line_30 : decode cX11_line 30 = .ok (.bipush 12, 2) := by decide +kernel
theorem dX11_line_32 : decode cX11_line 32 = .ok (.if_icmp .lt 6, 3) := by decide +kernel
theorem dX11_line_35 : decode cX11_line 35 = .ok (.bipush (-2), 2) := by decide +kernel
theorem dX11_line_37 : decode cX11_line 37 = .ok (.ireturn, 1) := by decide +kernel
theorem dX11_line_38 : decode cX11_line 38 = .ok (.aload_n 0, 1) := by decide +kernel
theorem dX11_line_39 : decode cX11_line 39 = .ok (.getfield 10, 3) := by decide +kernel
theorem dX11_line_42 : decode cX11_line 42 = .ok (.iload_n 1, 1) := by decide +kernel
theorem dX11_line_43 : decode cX11_line 43 = .ok (.iload_n 2, 1) := by decide +kernel
theorem dX11_line_44 : decode cX11_line 44 = .ok (.iload_n 3, 1) := by decide +kernel
theorem dX11_line_45 : decode cX11_line 45 = .ok (.invokevirtual 112, 3) := by decide +kernel
theorem dX11_line_48 : decode cX11_line 48 = .ok (.istore 4, 2) := by decide +kernel
theorem dX11_line_50 : decode cX11_line 50 = .ok (.aload_n 0, 1) := by decide +kernel
theorem dX11_line_51 : decode cX11_line 51 = .ok (.getfield 19, 3) := by decide +kernel
theorem dX11_line_54 : decode cX11_line 54 = .ok (.aload_n 0, 1) := by decide +kernel
theorem dX11_line_55 : decode cX11_line 55 = .ok (.getfield 10, 3) := by decide +kernel
theorem dX11_line_58 : decode cX11_line 58 = .ok (.bipush (-9), 2) := by decide +kernel
theorem dX11_line_60 : decode cX11_line 60 = .ok (.invokevirtual 97, 3) := by decide +kernel
theorem dX11_line_63 : decode cX11_line 63 = .ok (.iload 4, 2) := by decide +kernel
theorem dX11_line_65 : decode cX11_line 65 = .ok (.ireturn, 1) := by decide +kernel
theorem dX11_told_0 : decode cX11_told 0 = .ok (.aload_n 0, 1) := by decide +kernel
theorem dX11_told_1 : decode cX11_told 1 = .ok (.getfield 10, 3) := by decide +kernel
theorem dX11_told_4 : decode cX11_told 4 = .ok (.iload_n 1, 1) := by decide +kernel
theorem dX11_told_5 : decode cX11_told 5 = .ok (.invokevirtual 116, 3) := by decide +kernel
theorem dX11_told_8 : decode cX11_told 8 = .ok (.ifCond .ne 5, 3) := by decide +kernel
theorem dX11_told_11 : decode cX11_told 11 = .ok (.iconst (-1), 1) := by decide +kernel
theorem dX11_told_12 : decode cX11_told 12 = .ok (.ireturn, 1) := by decide +kernel
theorem dX11_told_13 : decode cX11_told 13 = .ok (.aload_n 0, 1) := by decide +kernel
theorem dX11_told_14 : decode cX11_told 14 = .ok (.getfield 10, 3) := by decide +kernel
theorem dX11_told_17 : decode cX11_told 17 = .ok (.getfield 120, 3) := by decide +kernel
theorem dX11_told_20 : decode cX11_told 20 = .ok (.iload_n 1, 1) := by decide +kernel
theorem dX11_told_21 : decode cX11_told 21 = .ok (.aaload, 1) := by decide +kernel
theorem dX11_told_22 : decode cX11_told 22 = .ok (.astore_n 3, 1) := by decide +kernel
theorem dX11_told_23 : decode cX11_told 23 = .ok (.iload_n 2, 1) := by decide +kernel
theorem dX11_told_24 : decode cX11_told 24 = .ok (.tableswitch 78 0 5 #[40, 45, 50, 55, 68, 73], 40) := by decide +kernel
theorem dX11_told_64 : decode cX11_told 64 = .ok (.aload_n 3, 1) := by decide +kernel
theorem dX11_told_65 : decode cX11_told 65 = .ok (.getfield 124, 3) := by decide +kernel
theorem dX11_told_68 : decode cX11_told 68 = .ok (.ireturn, 1) := by decide +kernel
theorem dX11_told_69 : decode cX11_told 69 = .ok (.aload_n 3, 1) := by decide +kernel
theorem dX11_told_70 : decode cX11_told 70 = .ok (.getfield 129, 3) := by decide +kernel
theorem dX11_told_73 : decode cX11_told 73 = .ok (.ireturn, 1) := by decide +kernel
theorem dX11_told_74 : decode cX11_told 74 = .ok (.aload_n 3, 1) := by decide +kernel
theorem dX11_told_75 : decode cX11_told 75 = .ok (.getfield 132, 3) := by decide +kernel
theorem dX11_told_78 : decode cX11_told 78 = .ok (.ireturn, 1) := by decide +kernel
theorem dX11_told_79 : decode cX11_told 79 = .ok (.aload_n 3, 1) := by decide +kernel
theorem dX11_told_80 : decode cX11_told 80 = .ok (.getfield 135, 3) := by decide +kernel
theorem dX11_told_83 : decode cX11_told 83 = .ok (.ifCond .eq 7, 3) := by decide +kernel
theorem dX11_told_86 : decode cX11_told 86 = .ok (.iconst 1, 1) := by decide +kernel
theorem dX11_told_87 : decode cX11_told 87 = .ok (.goto 4, 3) := by decide +kernel
theorem dX11_told_90 : decode cX11_told 90 = .ok (.iconst 0, 1) := by decide +kernel
theorem dX11_told_91 : decode cX11_told 91 = .ok (.ireturn, 1) := by decide +kernel
theorem dX11_told_92 : decode cX11_told 92 = .ok (.aload_n 3, 1) := by decide +kernel
theorem dX11_told_93 : decode cX11_told 93 = .ok (.getfield 138, 3) := by decide +kernel
theorem dX11_told_96 : decode cX11_told 96 = .ok (.ireturn, 1) := by decide +kernel
theorem dX11_told_97 : decode cX11_told 97 = .ok (.aload_n 3, 1) := by decide +kernel
theorem dX11_told_98 : decode cX11_told 98 = .ok (.getfield 141, 3) := by decide +kernel
theorem dX11_told_101 : decode cX11_told 101 = .ok (.ireturn, 1) := by decide +kernel
theorem dX11_told_102 : decode cX11_told 102 = .ok (.iconst (-1), 1) := by decide +kernel
theorem dX11_told_103 : decode cX11_told 103 = .ok (.ireturn, 1) := by decide +kernel
theorem dX11_mark_0 : decode cX11_mark 0 = .ok (.aload_n 0, 1) := by decide +kernel
theorem dX11_mark_1 : decode cX11_mark 1 = .ok (.getfield 10, 3) := by decide +kernel
theorem dX11_mark_4 : decode cX11_mark 4 = .ok (.iload_n 1, 1) := by decide +kernel
theorem dX11_mark_5 : decode cX11_mark 5 = .ok (.invokevirtual 116, 3) := by decide +kernel
theorem dX11_mark_8 : decode cX11_mark 8 = .ok (.ifCond .eq 13, 3) := by decide +kernel
theorem dX11_mark_11 : decode cX11_mark 11 = .ok (.iload_n 2, 1) := by decide +kernel
theorem dX11_mark_12 : decode cX11_mark 12 = .ok (.iconst 1, 1) := by decide +kernel
theorem dX11_mark_13 : decode cX11_mark 13 = .ok (.if_icmp .lt 8, 3) := by decide +kernel
theorem dX11_mark_16 : decode cX11_mark 16 = .ok (.iload_n 2, 1) := by decide +kernel
theorem dX11_mark_17 : decode cX11_mark 17 = .ok (.iconst 3, 1) := by decide +kernel
theorem dX11_mark_18 : decode cX11_mark 18 = .ok (.if_icmp .le 5, 3) := by decide +kernel
theorem dX11_mark_21 : decode cX11_mark 21 = .ok (.iconst (-1), 1) := by decide +kernel
theorem dX11_mark_22 : decode cX11_mark 22 = .ok (.ireturn, 1) := by decide +kernel
theorem dX11_mark_23 : decode cX11_mark 23 = .ok (.aload_n 0, 1) := by decide +kernel
theorem dX11_mark_24 : decode cX11_mark 24 = .ok (.getfield 10, 3) := by decide +kernel
theorem dX11_mark_27 : decode cX11_mark 27 = .ok (.getfield 120, 3) := by decide +kernel
theorem dX11_mark_30 : decode cX11_mark 30 = .ok (.iload_n 1, 1) := by decide +kernel
theorem dX11_mark_31 : decode cX11_mark 31 = .ok (.aaload, 1) := by decide +kernel
theorem dX11_mark_32 : decode cX11_mark 32 = .ok (.astore_n 3, 1) := by decide +kernel
theorem dX11_mark_33 : decode cX11_mark 33 = .ok (.aload_n 3, 1) := by decide +kernel
theorem dX11_mark_34 : decode cX11_mark 34 = .ok (.iload_n 2, 1) := by decide +kernel
theorem dX11_mark_35 : decode cX11_mark 35 = .ok (.invokevirtual 144, 3) := by decide +kernel
theorem dX11_mark_38 : decode cX11_mark 38 = .ok (.ifCond .ne 9, 3) := by decide +kernel
theorem dX11_mark_41 : decode cX11_mark 41 = .ok (.aload_n 0, 1) := by decide +kernel
theorem dX11_mark_42 : decode cX11_mark 42 = .ok (.iconst 3, 1) := by decide +kernel
theorem dX11_mark_43 : decode cX11_mark 43 = .ok (.invokevirtual 147, 3) := by decide +kernel
theorem dX11_mark_46 : decode cX11_mark 46 = .ok (.ireturn, 1) := by decide +kernel
theorem dX11_mark_47 : decode cX11_mark 47 = .ok (.iload_n 2, 1) := by decide +kernel
theorem dX11_mark_48 : decode cX11_mark 48 = .ok (.iconst 1, 1) := by decide +kernel
theorem dX11_mark_49 : decode cX11_mark 49 = .ok (.if_icmp .ne 8, 3) := by decide +kernel
theorem dX11_mark_52 : decode cX11_mark 52 = .ok (.aload_n 3, 1) := by decide +kernel
theorem dX11_mark_53 : decode cX11_mark 53 = .ok (.invokevirtual 151, 3) := by decide +kernel
theorem dX11_mark_56 : decode cX11_mark 56 = .ok (.ireturn, 1) := by decide +kernel
theorem dX11_mark_57 : decode cX11_mark 57 = .ok (.iload_n 2, 1) := by decide +kernel
theorem dX11_mark_58 : decode cX11_mark 58 = .ok (.iconst 2, 1) := by decide +kernel
theorem dX11_mark_59 : decode cX11_mark 59 = .ok (.if_icmp .ne 8, 3) := by decide +kernel
theorem dX11_mark_62 : decode cX11_mark 62 = .ok (.aload_n 3, 1) := by decide +kernel
theorem dX11_mark_63 : decode cX11_mark 63 = .ok (.invokevirtual 155, 3) := by decide +kernel
theorem dX11_mark_66 : decode cX11_mark 66 = .ok (.ireturn, 1) := by decide +kernel
theorem dX11_mark_67 : decode cX11_mark 67 = .ok (.aload_n 0, 1) := by decide +kernel
theorem dX11_mark_68 : decode cX11_mark 68 = .ok (.getfield 19, 3) := by decide +kernel
theorem dX11_mark_71 : decode cX11_mark 71 = .ok (.iload_n 1, 1) := by decide +kernel
theorem dX11_mark_72 : decode cX11_mark 72 = .ok (.invokevirtual 158, 3) := by decide +kernel
theorem dX11_mark_75 : decode cX11_mark 75 = .ok (.ireturn, 1) := by decide +kernel
theorem dX11_down_0 : decode cX11_down 0 = .ok (.aload_n 0, 1) := by decide +kernel
theorem dX11_down_1 : decode cX11_down 1 = .ok (.getfield 10, 3) := by decide +kernel
theorem dX11_down_4 : decode cX11_down 4 = .ok (.iload_n 1, 1) := by decide +kernel
theorem dX11_down_5 : decode cX11_down 5 = .ok (.invokevirtual 116, 3) := by decide +kernel
theorem dX11_down_8 : decode cX11_down 8 = .ok (.ifCond .ne 5, 3) := by decide +kernel
theorem dX11_down_11 : decode cX11_down 11 = .ok (.iconst (-1), 1) := by decide +kernel
theorem dX11_down_12 : decode cX11_down 12 = .ok (.ireturn, 1) := by decide +kernel
theorem dX11_down_13 : decode cX11_down 13 = .ok (.aload_n 0, 1) := by decide +kernel
theorem dX11_down_14 : decode cX11_down 14 = .ok (.getfield 10, 3) := by decide +kernel
theorem dX11_down_17 : decode cX11_down 17 = .ok (.getfield 120, 3) := by decide +kernel
theorem dX11_down_20 : decode cX11_down 20 = .ok (.iload_n 1, 1) := by decide +kernel
theorem dX11_down_21 : decode cX11_down 21 = .ok (.aaload, 1) := by decide +kernel
theorem dX11_down_22 : decode cX11_down 22 = .ok (.getfield 135, 3) := by decide +kernel
theorem dX11_down_25 : decode cX11_down 25 = .ok (.istore_n 3, 1) := by decide +kernel
theorem dX11_down_26 : decode cX11_down 26 = .ok (.aload_n 0, 1) := by decide +kernel
theorem dX11_down_27 : decode cX11_down 27 = .ok (.getfield 10, 3) := by decide +kernel
theorem dX11_down_30 : decode cX11_down 30 = .ok (.getfield 120, 3) := by decide +kernel
theorem dX11_down_33 : decode cX11_down 33 = .ok (.iload_n 1, 1) := by decide +kernel
theorem dX11_down_34 : decode cX11_down 34 = .ok (.aaload, 1) := by decide +kernel
theorem dX11_down_35 : decode cX11_down 35 = .ok (.iload_n 2, 1) := by decide +kernel
theorem dX11_down_36 : decode cX11_down 36 = .ok (.putfield 135, 3) := by decide +kernel
theorem dX11_down_39 : decode cX11_down 39 = .ok (.aload_n 0, 1) := by decide +kernel
theorem dX11_down_40 : decode cX11_down 40 = .ok (.getfield 19, 3) := by decide +kernel
theorem dX11_down_43 : decode cX11_down 43 = .ok (.aload_n 0, 1) := by decide +kernel
theorem dX11_down_44 : decode cX11_down 44 = .ok (.getfield 10, 3) := by decide +kernel
theorem dX11_down_47 : decode cX11_down 47 = .ok (.bipush (-9), 2) := by decide +kernel
theorem dX11_down_49 : decode cX11_down 49 = .ok (.invokevirtual 97, 3) := by decide +kernel
theorem dX11_down_52 : decode cX11_down 52 = .ok (.iload_n 3, 1) := by decide +kernel
theorem dX11_down_53 : decode cX11_down 53 = .ok (.ifCond .eq 7, 3) := by decide +kernel
theorem dX11_down_56 : decode cX11_down 56 = .ok (.iconst 1, 1) := by decide +kernel
theorem dX11_down_57 : decode cX11_down 57 = .ok (.goto 4, 3) := by decide +kernel
theorem dX11_down_60 : decode cX11_down 60 = .ok (.iconst 0, 1) := by decide +kernel
theorem dX11_down_61 : decode cX11_down 61 = .ok (.ireturn, 1) := by decide +kernel
theorem dX11_rate_0 : decode cX11_rate 0 = .ok (.aload_n 0, 1) := by decide +kernel
theorem dX11_rate_1 : decode cX11_rate 1 = .ok (.getfield 10, 3) := by decide +kernel
theorem dX11_rate_4 : decode cX11_rate 4 = .ok (.iload_n 1, 1) := by decide +kernel
theorem dX11_rate_5 : decode cX11_rate 5 = .ok (.invokevirtual 116, 3) := by decide +kernel
theorem dX11_rate_8 : decode cX11_rate 8 = .ok (.ifCond .eq 13, 3) := by decide +kernel
theorem dX11_rate_11 : decode cX11_rate 11 = .ok (.iload_n 2, 1) := by decide +kernel
theorem dX11_rate_12 : decode cX11_rate 12 = .ok (.ifCond .lt 9, 3) := by decide +kernel
theorem dX11_rate_15 : decode cX11_rate 15 = .ok (.iload_n 2, 1) := by decide +kernel
theorem dX11_rate_16 : decode cX11_rate 16 = .ok (.ldc 161, 2) := by decide +kernel
theorem dX11_rate_18 : decode cX11_rate 18 = .ok (.if_icmp .le 5, 3) := by decide +kernel
theorem dX11_rate_21 : decode cX11_rate 21 = .ok (.iconst (-1), 1) := by decide +kernel
theorem dX11_rate_22 : decode cX11_rate 22 = .ok (.ireturn, 1) := by decide +kernel
theorem dX11_rate_23 : decode cX11_rate 23 = .ok (.aload_n 0, 1) := by decide +kernel
theorem dX11_rate_24 : decode cX11_rate 24 = .ok (.getfield 10, 3) := by decide +kernel
theorem dX11_rate_27 : decode cX11_rate 27 = .ok (.getfield 120, 3) := by decide +kernel
theorem dX11_rate_30 : decode cX11_rate 30 = .ok (.iload_n 1, 1) := by decide +kernel
theorem dX11_rate_31 : decode cX11_rate 31 = .ok (.aaload, 1) := by decide +kernel
theorem dX11_rate_32 : decode cX11_rate 32 = .ok (.getfield 141, 3) := by decide +kernel
theorem dX11_rate_35 : decode cX11_rate 35 = .ok (.istore_n 3, 1) := by decide +kernel
theorem dX11_rate_36 : decode cX11_rate 36 = .ok (.aload_n 0, 1) := by decide +kernel
theorem dX11_rate_37 : decode cX11_rate 37 = .ok (.getfield 10, 3) := by decide +kernel
theorem dX11_rate_40 : decode cX11_rate 40 = .ok (.getfield 120, 3) := by decide +kernel
theorem dX11_rate_43 : decode cX11_rate 43 = .ok (.iload_n 1, 1) := by decide +kernel
theorem dX11_rate_44 : decode cX11_rate 44 = .ok (.aaload, 1) := by decide +kernel
theorem dX11_rate_45 : decode cX11_rate 45 = .ok (.iload_n 2, 1) := by decide +kernel
theorem dX11_rate_46 : decode cX11_rate 46 = .ok (.putfield 141, 3) := by decide +kernel
theorem dX11_rate_49 : decode cX11_rate 49 = .ok (.iload_n 3, 1) := by decide +kernel
theorem dX11_rate_50 : decode cX11_rate 50 = .ok (.ireturn, 1) := by decide +kernel
theorem dX11_reading_0 : decode cX11_reading 0 = .ok (.aload_n 0, 1) := by decide +kernel
theorem dX11_reading_1 : decode cX11_reading 1 = .ok (.getfield 10, 3) := by decide +kernel
theorem dX11_reading_4 : decode cX11_reading 4 = .ok (.iload_n 1, 1) := by decide +kernel
theorem dX11_reading_5 : decode cX11_reading 5 = .ok (.invokevirtual 116, 3) := by decide +kernel
theorem dX11_reading_8 : decode cX11_reading 8 = .ok (.ifCond .eq 13, 3) := by decide +kernel
theorem dX11_reading_11 : decode cX11_reading 11 = .ok (.iload_n 3, 1) := by decide +kernel
theorem dX11_reading_12 : decode cX11_reading 12 = .ok (.ifCond .ge 11, 3) := by decide +kernel
theorem dX11_reading_15 : decode cX11_reading 15 = .ok (.iload_n 3, 1) := by decide +kernel
theorem dX11_reading_16 : decode cX11_reading 16 = .ok (.bipush (-9), 2) := by decide +kernel
theorem dX11_reading_18 : decode cX11_reading 18 = .ok (.if_icmp .eq 5, 3) := by decide +kernel
theorem dX11_reading_21 : decode cX11_reading 21 = .ok (.iconst (-1), 1) := by decide +kernel
theorem dX11_reading_22 : decode cX11_reading 22 = .ok (.ireturn, 1) := by decide +kernel
theorem dX11_reading_23 : decode cX11_reading 23 = .ok (.aload_n 0, 1) := by decide +kernel
theorem dX11_reading_24 : decode cX11_reading 24 = .ok (.getfield 10, 3) := by decide +kernel
theorem dX11_reading_27 : decode cX11_reading 27 = .ok (.getfield 120, 3) := by decide +kernel
theorem dX11_reading_30 : decode cX11_reading 30 = .ok (.iload_n 1, 1) := by decide +kernel
theorem dX11_reading_31 : decode cX11_reading 31 = .ok (.aaload, 1) := by decide +kernel
theorem dX11_reading_32 : decode cX11_reading 32 = .ok (.astore 4, 2) := by decide +kernel
theorem dX11_reading_34 : decode cX11_reading 34 = .ok (.aload 4, 2) := by decide +kernel
theorem dX11_reading_36 : decode cX11_reading 36 = .ok (.iconst 1, 1) := by decide +kernel
theorem dX11_reading_37 : decode cX11_reading 37 = .ok (.invokevirtual 144, 3) := by decide +kernel
theorem dX11_reading_40 : decode cX11_reading 40 = .ok (.ifCond .ne 9, 3) := by decide +kernel
theorem dX11_reading_43 : decode cX11_reading 43 = .ok (.aload_n 0, 1) := by decide +kernel
theorem dX11_reading_44 : decode cX11_reading 44 = .ok (.iconst 3, 1) := by decide +kernel
theorem dX11_reading_45 : decode cX11_reading 45 = .ok (.invokevirtual 147, 3) := by decide +kernel
theorem dX11_reading_48 : decode cX11_reading 48 = .ok (.ireturn, 1) := by decide +kernel
theorem dX11_reading_49 : decode cX11_reading 49 = .ok (.iload_n 2, 1) := by decide +kernel
theorem dX11_reading_50 : decode cX11_reading 50 = .ok (.invokestatic 162, 3) := by decide +kernel
theorem dX11_reading_53 : decode cX11_reading 53 = .ok (.ifCond .ne 9, 3) := by decide +kernel
theorem dX11_reading_56 : decode cX11_reading 56 = .ok (.aload_n 0, 1) := by decide +kernel
theorem dX11_reading_57 : decode cX11_reading 57 = .ok (.iconst 2, 1) := by decide +kernel
theorem dX11_reading_58 : decode cX11_reading 58 = .ok (.invokevirtual 147, 3) := by decide +kernel
theorem dX11_reading_61 : decode cX11_reading 61 = .ok (.ireturn, 1) := by decide +kernel
theorem dX11_reading_62 : decode cX11_reading 62 = .ok (.aload 4, 2) := by decide +kernel
theorem dX11_reading_64 : decode cX11_reading 64 = .ok (.getfield 165, 3) := by decide +kernel
theorem dX11_reading_67 : decode cX11_reading 67 = .ok (.iload_n 2, 1) := by decide +kernel
theorem dX11_reading_68 : decode cX11_reading 68 = .ok (.iaload, 1) := by decide +kernel
theorem dX11_reading_69 : decode cX11_reading 69 = .ok (.istore 5, 2) := by decide +kernel
theorem dX11_reading_71 : decode cX11_reading 71 = .ok (.aload 4, 2) := by decide +kernel
theorem dX11_reading_73 : decode cX11_reading 73 = .ok (.iload_n 2, 1) := by decide +kernel
theorem dX11_reading_74 : decode cX11_reading 74 = .ok (.iload_n 3, 1) := by decide +kernel
theorem dX11_reading_75 : decode cX11_reading 75 = .ok (.invokevirtual 168, 3) := by decide +kernel
theorem dX11_reading_78 : decode cX11_reading 78 = .ok (.iload 5, 2) := by decide +kernel
theorem dX11_reading_80 : decode cX11_reading 80 = .ok (.ireturn, 1) := by decide +kernel
