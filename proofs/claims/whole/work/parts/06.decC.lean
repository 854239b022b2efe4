theorem dX9_problemOf_74 : decode cX9_problemOf 74 = .ok (.iaload, 1) := by decide +kernel
theorem dX9_problemOf_75 : decode cX9_problemOf 75 = .ok (.i2l, 1) := by decide +kernel
theorem dX9_problemOf_76 : decode cX9_problemOf 76 = .ok (.lmul, 1) := by decide +kernel
theorem dX9_problemOf_77 : decode cX9_problemOf 77 = .ok (.lcmp, 1) := by decide +kernel
theorem dX9_problemOf_78 : decode cX9_problemOf 78 = .ok (.ifCond .ge 5, 3) := by decide +kernel
theorem dX9_problemOf_81 : decode cX9_problemOf 81 = .ok (.iconst 3, 1) := by decide +kernel
theorem dX9_problemOf_82 : decode cX9_problemOf 82 = .ok (.ireturn, 1) := by decide +kernel
theorem dX9_problemOf_83 : decode cX9_problemOf 83 = .ok (.aload_n 0, 1) := by decide +kernel
theorem dX9_problemOf_84 : decode cX9_problemOf 84 = .ok (.invokevirtual 170, 3) := by decide +kernel
theorem dX9_problemOf_87 : decode cX9_problemOf 87 = .ok (.ifCond .eq 18, 3) := by decide +kernel
theorem dX9_problemOf_90 : decode cX9_problemOf 90 = .ok (.iload_n 1, 1) := by decide +kernel
theorem dX9_problemOf_91 : decode cX9_problemOf 91 = .ok (.aload_n 0, 1) := by decide +kernel
theorem dX9_problemOf_92 : decode cX9_problemOf 92 = .ok (.getfield 7, 3) := by decide +kernel
theorem dX9_problemOf_95 : decode cX9_problemOf 95 = .ok (.bipush 11, 2) := by decide +kernel
theorem dX9_problemOf_97 : decode cX9_problemOf 97 = .ok (.iaload, 1) := by decide +kernel
theorem dX9_problemOf_98 : decode cX9_problemOf 98 = .ok (.if_icmp .ne 7, 3) := by decide +kernel
theorem dX9_problemOf_101 : decode cX9_problemOf 101 = .ok (.iconst 4, 1) := by decide +kernel
theorem dX9_problemOf_102 : decode cX9_problemOf 102 = .ok (.goto 4, 3) := by decide +kernel
theorem dX9_problemOf_105 : decode cX9_problemOf 105 = .ok (.iconst 0, 1) := by decide +kernel
theorem dX9_problemOf_106 : decode cX9_problemOf 106 = .ok (.ireturn, 1) := by decide +kernel
theorem dX9_isBefore_0 : decode cX9_isBefore 0 = .ok (.aload_n 0, 1) := by decide +kernel
theorem dX9_isBefore_1 : decode cX9_isBefore 1 = .ok (.iload_n 1, 1) := by decide +kernel
theorem dX9_isBefore_2 : decode cX9_isBefore 2 = .ok (.iload_n 3, 1) := by decide +kernel
theorem dX9_isBefore_3 : decode cX9_isBefore 3 = .ok (.iload 4, 2) := by decide +kernel
theorem dX9_isBefore_5 : decode cX9_isBefore 5 = .ok (.invokevirtual 207, 3) := by decide +kernel
theorem dX9_isBefore_8 : decode cX9_isBefore 8 = .ok (.lstore 5, 2) := by decide +kernel
theorem dX9_isBefore_10 : decode cX9_isBefore 10 = .ok (.aload_n 0, 1) := by decide +kernel
theorem dX9_isBefore_11 : decode cX9_isBefore 11 = .ok (.iload_n 2, 1) := by decide +kernel
theorem dX9_isBefore_12 : decode cX9_isBefore 12 = .ok (.iload_n 3, 1) := by decide +kernel
theorem dX9_isBefore_13 : decode cX9_isBefore 13 = .ok (.iload 4, 2) := by decide +kernel
theorem dX9_isBefore_15 : decode cX9_isBefore 15 = .ok (.invokevirtual 207, 3) := by decide +kernel
theorem dX9_isBefore_18 : decode cX9_isBefore 18 = .ok (.lstore 7, 2) := by decide +kernel
theorem dX9_isBefore_20 : decode cX9_isBefore 20 = .ok (.lload 5, 2) := by decide +kernel
theorem dX9_isBefore_22 : decode cX9_isBefore 22 = .ok (.lload 7, 2) := by decide +kernel
theorem dX9_isBefore_24 : decode cX9_isBefore 24 = .ok (.lcmp, 1) := by decide +kernel
theorem dX9_isBefore_25 : decode cX9_isBefore 25 = .ok (.ifCond .gt 28, 3) := by decide +kernel
theorem dX9_isBefore_28 : decode cX9_isBefore 28 = .ok (.lload 5, 2) := by decide +kernel
theorem dX9_isBefore_30 : decode cX9_isBefore 30 = .ok (.lload 7, 2) := by decide +kernel
theorem dX9_isBefore_32 : decode cX9_isBefore 32 = .ok (.lcmp, 1) := by decide +kernel
theorem dX9_isBefore_33 : decode cX9_isBefore 33 = .ok (.ifCond .ne 24, 3) := by decide +kernel
theorem dX9_isBefore_36 : decode cX9_isBefore 36 = .ok (.aload_n 0, 1) := by decide +kernel
theorem dX9_isBefore_37 : decode cX9_isBefore 37 = .ok (.iload_n 1, 1) := by decide +kernel
theorem dX9_isBefore_38 : decode cX9_isBefore 38 = .ok (.bipush 7, 2) := by decide +kernel
theorem dX9_isBefore_40 : decode cX9_isBefore 40 = .ok (.invokevirtual 182, 3) := by decide +kernel
theorem dX9_isBefore_43 : decode cX9_isBefore 43 = .ok (.aload_n 0, 1) := by decide +kernel
theorem dX9_isBefore_44 : decode cX9_isBefore 44 = .ok (.iload_n 2, 1) := by decide +kernel
theorem dX9_isBefore_45 : decode cX9_isBefore 45 = .ok (.bipush 7, 2) := by decide +kernel
theorem dX9_isBefore_47 : decode cX9_isBefore 47 = .ok (.invokevirtual 182, 3) := by decide +kernel
theorem dX9_isBefore_50 : decode cX9_isBefore 50 = .ok (.if_icmp .ge 7, 3) := by decide +kernel
theorem dX9_isBefore_53 : decode cX9_isBefore 53 = .ok (.iconst 1, 1) := by decide +kernel
theorem dX9_isBefore_54 : decode cX9_isBefore 54 = .ok (.goto 4, 3) := by decide +kernel
theorem dX9_isBefore_57 : decode cX9_isBefore 57 = .ok (.iconst 0, 1) := by decide +kernel
theorem dX9_isBefore_58 : decode cX9_isBefore 58 = .ok (.ireturn, 1) := by decide +kernel
theorem dX9_winnerBy_0 : decode cX9_winnerBy 0 = .ok (.iconst (-1), 1) := by decide +kernel
theorem dX9_winnerBy_1 : decode cX9_winnerBy 1 = .ok (.istore_n 3, 1) := by decide +kernel
theorem dX9_winnerBy_2 : decode cX9_winnerBy 2 = .ok (.iconst 0, 1) := by decide +kernel
theorem dX9_winnerBy_3 : decode cX9_winnerBy 3 = .ok (.istore 4, 2) := by decide +kernel
theorem dX9_winnerBy_5 : decode cX9_winnerBy 5 = .ok (.iload 4, 2) := by decide +kernel
theorem dX9_winnerBy_7 : decode cX9_winnerBy 7 = .ok (.bipush 8, 2) := by decide +kernel
theorem dX9_winnerBy_9 : decode cX9_winnerBy 9 = .ok (.if_icmp .ge 38, 3) := by decide +kernel
theorem dX9_winnerBy_12 : decode cX9_winnerBy 12 = .ok (.aload_n 0, 1) := by decide +kernel
theorem dX9_winnerBy_13 : decode cX9_winnerBy 13 = .ok (.iload 4, 2) := by decide +kernel
theorem dX9_winnerBy_15 : decode cX9_winnerBy 15 = .ok (.invokevirtual 202, 3) := by decide +kernel
theorem dX9_winnerBy_18 : decode cX9_winnerBy 18 = .ok (.ifCond .ne 23, 3) := by decide +kernel
theorem dX9_winnerBy_21 : decode cX9_winnerBy 21 = .ok (.iload_n 3, 1) := by decide +kernel
theorem dX9_winnerBy_22 : decode cX9_winnerBy 22 = .ok (.iconst (-1), 1) := by decide +kernel
theorem dX9_winnerBy_23 : decode cX9_winnerBy 23 = .ok (.if_icmp .eq 15, 3) := by decide +kernel
theorem dX9_winnerBy_26 : decode cX9_winnerBy 26 = .ok (.aload_n 0, 1) := by decide +kernel
theorem dX9_winnerBy_27 : decode cX9_winnerBy 27 = .ok (.iload 4, 2) := by decide +kernel
theorem dX9_winnerBy_29 : decode cX9_winnerBy 29 = .ok (.iload_n 3, 1) := by decide +kernel
theorem dX9_winnerBy_30 : decode cX9_winnerBy 30 = .ok (.iload_n 1, 1) := by decide +kernel
theorem dX9_winnerBy_31 : decode cX9_winnerBy 31 = .ok (.iload_n 2, 1) := by decide +kernel
theorem dX9_winnerBy_32 : decode cX9_winnerBy 32 = .ok (.invokevirtual 211, 3) := by decide +kernel
theorem dX9_winnerBy_35 : decode cX9_winnerBy 35 = .ok (.ifCond .eq 6, 3) := by decide +kernel
theorem dX9_winnerBy_38 : decode cX9_winnerBy 38 = .ok (.iload 4, 2) := by decide +kernel
theorem dX9_winnerBy_40 : decode cX9_winnerBy 40 = .ok (.istore_n 3, 1) := by decide +kernel
theorem dX9_winnerBy_41 : decode cX9_winnerBy 41 = .ok (.iinc 4 1, 3) := by decide +kernel
theorem dX9_winnerBy_44 : decode cX9_winnerBy 44 = .ok (.goto (-39), 3) := by decide +kernel
theorem dX9_winnerBy_47 : decode cX9_winnerBy 47 = .ok (.iload_n 3, 1) := by decide +kernel
theorem dX9_winnerBy_48 : decode cX9_winnerBy 48 = .ok (.ireturn, 1) := by decide +kernel
theorem dX9_isOpened_0 : decode cX9_isOpened 0 = .ok (.aload_n 0, 1) := by decide +kernel
theorem dX9_isOpened_1 : decode cX9_isOpened 1 = .ok (.getfield 7, 3) := by decide +kernel
theorem dX9_isOpened_4 : decode cX9_isOpened 4 = .ok (.iconst 0, 1) := by decide +kernel
theorem dX9_isOpened_5 : decode cX9_isOpened 5 = .ok (.iaload, 1) := by decide +kernel
theorem dX9_isOpened_6 : decode cX9_isOpened 6 = .ok (.iconst 1, 1) := by decide +kernel
theorem dX9_isOpened_7 : decode cX9_isOpened 7 = .ok (.if_icmp .le 18, 3) := by decide +kernel
theorem dX9_isOpened_10 : decode cX9_isOpened 10 = .ok (.aload_n 0, 1) := by decide +kernel
theorem dX9_isOpened_11 : decode cX9_isOpened 11 = .ok (.getfield 7, 3) := by decide +kernel
theorem dX9_isOpened_14 : decode cX9_isOpened 14 = .ok (.iconst 0, 1) := by decide +kernel
theorem dX9_isOpened_15 : decode cX9_isOpened 15 = .ok (.iaload, 1) := by decide +kernel
theorem dX9_isOpened_16 : decode cX9_isOpened 16 = .ok (.bipush 6, 2) := by decide +kernel
theorem dX9_isOpened_18 : decode cX9_isOpened 18 = .ok (.if_icmp .eq 7, 3) := by decide +kernel
theorem dX9_isOpened_21 : decode cX9_isOpened 21 = .ok (.iconst 1, 1) := by decide +kernel
theorem dX9_isOpened_22 : decode cX9_isOpened 22 = .ok (.goto 4, 3) := by decide +kernel
theorem dX9_isOpened_25 : decode cX9_isOpened 25 = .ok (.iconst 0, 1) := by decide +kernel
theorem dX9_isOpened_26 : decode cX9_isOpened 26 = .ok (.ireturn, 1) := by decide +kernel
theorem dX9_bidRefusal_0 : decode cX9_bidRefusal 0 = .ok (.iload_n 1, 1) := by decide +kernel
theorem dX9_bidRefusal_1 : decode cX9_bidRefusal 1 = .ok (.invokestatic 185, 3) := by decide +kernel
theorem dX9_bidRefusal_4 : decode cX9_bidRefusal 4 = .ok (.ifCond .ne 7, 3) := by decide +kernel
theorem dX9_bidRefusal_7 : decode cX9_bidRefusal 7 = .ok (.iconst 1, 1) := by decide +kernel
theorem dX9_bidRefusal_8 : decode cX9_bidRefusal 8 = .ok (.goto 15, 3) := by decide +kernel
theorem dX9_bidRefusal_11 : decode cX9_bidRefusal 11 = .ok (.aload_n 0, 1) := by decide +kernel
theorem dX9_bidRefusal_12 : decode cX9_bidRefusal 12 = .ok (.invokevirtual 215, 3) := by decide +kernel
theorem dX9_bidRefusal_15 : decode cX9_bidRefusal 15 = .ok (.ifCond .ne 7, 3) := by decide +kernel
theorem dX9_bidRefusal_18 : decode cX9_bidRefusal 18 = .ok (.iconst 2, 1) := by decide +kernel
theorem dX9_bidRefusal_19 : decode cX9_bidRefusal 19 = .ok (.goto 4, 3) := by decide +kernel
theorem dX9_bidRefusal_22 : decode cX9_bidRefusal 22 = .ok (.iconst 0, 1) := by decide +kernel
theorem dX9_bidRefusal_23 : decode cX9_bidRefusal 23 = .ok (.ireturn, 1) := by decide +kernel
theorem dX9_problem_0 : decode cX9_problem 0 = .ok (.aload_n 0, 1) := by decide +kernel
theorem dX9_problem_1 : decode cX9_problem 1 = .ok (.aload_n 0, 1) := by decide +kernel
theorem dX9_problem_2 : decode cX9_problem 2 = .ok (.iload_n 1, 1) := by decide +kernel
theorem dX9_problem_3 : decode cX9_problem 3 = .ok (.invokevirtual 218, 3) := by decide +kernel
theorem dX9_problem_6 : decode cX9_problem 6 = .ok (.putfield 33, 3) := by decide +kernel
theorem dX9_problem_9 : decode cX9_problem 9 = .ok (.aload_n 0, 1) := by decide +kernel
theorem dX9_problem_10 : decode cX9_problem 10 = .ok (.getfield 33, 3) := by decide +kernel
theorem dX9_problem_13 : decode cX9_problem 13 = .ok (.ifCond .le 7, 3) := by decide +kernel
theorem dX9_problem_16 : decode cX9_problem 16 = .ok (.iconst 0, 1) := by decide +kernel
theorem dX9_problem_17 : decode cX9_problem 17 = .ok (.goto 8, 3) := by decide +kernel
theorem dX9_problem_20 : decode cX9_problem 20 = .ok (.aload_n 0, 1) := by decide +kernel
theorem dX9_problem_21 : decode cX9_problem 21 = .ok (.iload_n 1, 1) := by decide +kernel
theorem dX9_problem_22 : decode cX9_problem 22 = .ok (.invokevirtual 202, 3) := by decide +kernel
theorem dX9_problem_25 : decode cX9_problem 25 = .ok (.ireturn, 1) := by decide +kernel
theorem dX9_value_0 : decode cX9_value 0 = .ok (.aload_n 0, 1) := by decide +kernel
theorem dX9_value_1 : decode cX9_value 1 = .ok (.aload_n 0, 1) := by decide +kernel
theorem dX9_value_2 : decode cX9_value 2 = .ok (.iload_n 1, 1) := by decide +kernel
theorem dX9_value_3 : decode cX9_value 3 = .ok (.invokevirtual 218, 3) := by decide +kernel
theorem dX9_value_6 : decode cX9_value 6 = .ok (.putfield 33, 3) := by decide +kernel
theorem dX9_value_9 : decode cX9_value 9 = .ok (.aload_n 0, 1) := by decide +kernel
theorem dX9_value_10 : decode cX9_value 10 = .ok (.getfield 33, 3) := by decide +kernel
theorem dX9_value_13 : decode cX9_value 13 = .ok (.ifCond .le 7, 3) := by decide +kernel
theorem dX9_value_16 : decode cX9_value 16 = .ok (.lconst 0, 1) := by decide +kernel
theorem dX9_value_17 : decode cX9_value 17 = .ok (.goto 11, 3) := by decide +kernel
theorem dX9_value_20 : decode cX9_value 20 = .ok (.aload_n 0, 1) := by decide +kernel
theorem dX9_value_21 : decode cX9_value 21 = .ok (.iload_n 1, 1) := by decide +kernel
theorem dX9_value_22 : decode cX9_value 22 = .ok (.iconst (-1), 1) := by decide +kernel
theorem dX9_value_23 : decode cX9_value 23 = .ok (.bipush 100, 2) := by decide +kernel
theorem dX9_value_25 : decode cX9_value 25 = .ok (.invokevirtual 207, 3) := by decide +kernel
theorem dX9_value_28 : decode cX9_value 28 = .ok (.lreturn, 1) := by decide +kernel
theorem dX9_rank_0 : decode cX9_rank 0 = .ok (.aload_n 0, 1) := by decide +kernel
theorem dX9_rank_1 : decode cX9_rank 1 = .ok (.aload_n 0, 1) := by decide +kernel
theorem dX9_rank_2 : decode cX9_rank 2 = .ok (.iload_n 1, 1) := by decide +kernel
theorem dX9_rank_3 : decode cX9_rank 3 = .ok (.invokevirtual 218, 3) := by decide +kernel
theorem dX9_rank_6 : decode cX9_rank 6 = .ok (.putfield 33, 3) := by decide +kernel
theorem dX9_rank_9 : decode cX9_rank 9 = .ok (.aload_n 0, 1) := by decide +kernel
theorem dX9_rank_10 : decode cX9_rank 10 = .ok (.getfield 33, 3) := by decide +kernel
theorem dX9_rank_13 : decode cX9_rank 13 = .ok (.ifCond .gt 11, 3) := by decide +kernel
theorem dX9_rank_16 : decode cX9_rank 16 = .ok (.aload_n 0, 1) := by decide +kernel
theorem dX9_rank_17 : decode cX9_rank 17 = .ok (.iload_n 1, 1) := by decide +kernel
theorem dX9_rank_18 : decode cX9_rank 18 = .ok (.invokevirtual 202, 3) := by decide +kernel
theorem dX9_rank_21 : decode cX9_rank 21 = .ok (.ifCond .eq 5, 3) := by decide +kernel
theorem dX9_rank_24 : decode cX9_rank 24 = .ok (.iconst 0, 1) := by decide +kernel
theorem dX9_rank_25 : decode cX9_rank 25 = .ok (.ireturn, 1) := by decide +kernel
theorem dX9_rank_26 : decode cX9_rank 26 = .ok (.iconst 1, 1) := by decide +kernel
theorem dX9_rank_27 : decode cX9_rank 27 = .ok (.istore_n 2, 1) := by decide +kernel
theorem dX9_rank_28 : decode cX9_rank 28 = .ok (.iconst 0, 1) := by decide +kernel
theorem dX9_rank_29 : decode cX9_rank 29 = .ok (.istore_n 3, 1) := by decide +kernel
theorem dX9_rank_30 : decode cX9_rank 30 = .ok (.iload_n 3, 1) := by decide +kernel
theorem dX9_rank_31 : decode cX9_rank 31 = .ok (.bipush 8, 2) := by decide +kernel
theorem dX9_rank_33 : decode cX9_rank 33 = .ok (.if_icmp .ge 42, 3) := by decide +kernel
theorem dX9_rank_36 : decode cX9_rank 36 = .ok (.iload_n 2, 1) := by decide +kernel
theorem dX9_rank_37 : decode cX9_rank 37 = .ok (.iload_n 3, 1) := by decide +kernel
theorem dX9_rank_38 : decode cX9_rank 38 = .ok (.iload_n 1, 1) := by decide +kernel
theorem dX9_rank_39 : decode cX9_rank 39 = .ok (.if_icmp .eq 27, 3) := by decide +kernel
theorem dX9_rank_42 : decode cX9_rank 42 = .ok (.aload_n 0, 1) := by decide +kernel
theorem dX9_rank_43 : decode cX9_rank 43 = .ok (.iload_n 3, 1) := by decide +kernel
theorem dX9_rank_44 : decode cX9_rank 44 = .ok (.invokevirtual 202, 3) := by decide +kernel
theorem dX9_rank_47 : decode cX9_rank 47 = .ok (.ifCond .ne 19, 3) := by decide +kernel
theorem dX9_rank_50 : decode cX9_rank 50 = .ok (.aload_n 0, 1) := by decide +kernel
theorem dX9_rank_51 : decode cX9_rank 51 = .ok (.iload_n 3, 1) := by decide +kernel
theorem dX9_rank_52 : decode cX9_rank 52 = .ok (.iload_n 1, 1) := by decide +kernel
theorem dX9_rank_53 : decode cX9_rank 53 = .ok (.iconst (-1), 1) := by decide +kernel
theorem dX9_rank_54 : decode cX9_rank 54 = .ok (.bipush 100, 2) := by decide +kernel
theorem dX9_rank_56 : decode cX9_rank 56 = .ok (.invokevirtual 211, 3) := by decide +kernel
theorem dX9_rank_59 : decode cX9_rank 59 = .ok (.ifCond .eq 7, 3) := by decide +kernel
theorem dX9_rank_62 : decode cX9_rank 62 = .ok (.iconst 1, 1) := by decide +kernel
theorem dX9_rank_63 : decode cX9_rank 63 = .ok (.goto 4, 3) := by decide +kernel
theorem dX9_rank_66 : decode cX9_rank 66 = .ok (.iconst 0, 1) := by decide +kernel
theorem dX9_rank_67 : decode cX9_rank 67 = .ok (.iadd, 1) := by decide +kernel
theorem dX9_rank_68 : decode cX9_rank 68 = .ok (.istore_n 2, 1) := by decide +kernel
theorem dX9_rank_69 : decode cX9_rank 69 = .ok (.iinc 3 1, 3) := by decide +kernel
theorem dX9_rank_72 : decode cX9_rank 72 = .ok (.goto (-42), 3) := by decide +kernel
theorem dX9_rank_75 : decode cX9_rank 75 = .ok (.iload_n 2, 1) := by decide +kernel
theorem dX9_rank_76 : decode cX9_rank 76 = .ok (.ireturn, 1) := by decide +kernel
theorem dX9_turningPoint_0 : decode cX9_turningPoint 0 = .ok (.aload_n 0, 1) := by decide +kernel
theorem dX9_turningPoint_1 : decode cX9_turningPoint 1 = .ok (.aload_n 0, 1) := by decide +kernel
theorem dX9_turningPoint_2 : decode cX9_turningPoint 2 = .ok (.iload_n 1, 1) := by decide +kernel
theorem dX9_turningPoint_3 : decode cX9_turningPoint 3 = .ok (.invokevirtual 137, 3) := by decide +kernel
theorem dX9_turningPoint_6 : decode cX9_turningPoint 6 = .ok (.ifCond .ne 7, 3) := by decide +kernel
theorem dX9_turningPoint_9 : decode cX9_turningPoint 9 = .ok (.iconst 1, 1) := by decide +kernel
theorem dX9_turningPoint_10 : decode cX9_turningPoint 10 = .ok (.goto 15, 3) := by decide +kernel
theorem dX9_turningPoint_13 : decode cX9_turningPoint 13 = .ok (.aload_n 0, 1) := by decide +kernel
theorem dX9_turningPoint_14 : decode cX9_turningPoint 14 = .ok (.invokevirtual 215, 3) := by decide +kernel
theorem dX9_turningPoint_17 : decode cX9_turningPoint 17 = .ok (.ifCond .ne 7, 3) := by decide +kernel
theorem dX9_turningPoint_20 : decode cX9_turningPoint 20 = .ok (.iconst 2, 1) := by decide +kernel
theorem dX9_turningPoint_21 : decode cX9_turningPoint 21 = .ok (.goto 4, 3) := by decide +kernel
theorem dX9_turningPoint_24 : decode cX9_turningPoint 24 = .ok (.iconst 0, 1) := by decide +kernel
theorem dX9_turningPoint_25 : decode cX9_turningPoint 25 = .ok (.putfield 33, 3) := by decide +kernel
theorem dX9_turningPoint_28 : decode cX9_turningPoint 28 = .ok (.aload_n 0, 1) := by decide +kernel
theorem dX9_turningPoint_29 : decode cX9_turningPoint 29 = .ok (.getfield 33, 3) := by decide +kernel
theorem dX9_turningPoint_32 : decode cX9_turningPoint 32 = .ok (.ifCond .le 5, 3) := by decide +kernel
theorem dX9_turningPoint_35 : decode cX9_turningPoint 35 = .ok (.iconst 0, 1) := by decide +kernel
theorem dX9_turningPoint_36 : decode cX9_turningPoint 36 = .ok (.ireturn, 1) := by decide +kernel
theorem dX9_turningPoint_37 : decode cX9_turningPoint 37 = .ok (.aload_n 0, 1) := by decide +kernel
theorem dX9_turningPoint_38 : decode cX9_turningPoint 38 = .ok (.iconst (-1), 1) := by decide +kernel
theorem dX9_turningPoint_39 : decode cX9_turningPoint 39 = .ok (.bipush 100, 2) := by decide +kernel
theorem dX9_turningPoint_41 : decode cX9_turningPoint 41 = .ok (.invokevirtual 221, 3) := by decide +kernel
theorem dX9_turningPoint_44 : decode cX9_turningPoint 44 = .ok (.istore_n 2, 1) := by decide +kernel
theorem dX9_turningPoint_45 : decode cX9_turningPoint 45 = .ok (.iconst 1, 1) := by decide +kernel
theorem dX9_turningPoint_46 : decode cX9_turningPoint 46 = .ok (.istore_n 3, 1) := by decide +kernel
theorem dX9_turningPoint_47 : decode cX9_turningPoint 47 = .ok (.iload_n 3, 1) := by decide +kernel
theorem dX9_turningPoint_48 : decode cX9_turningPoint 48 = .ok (.bipush 100, 2) := by decide +kernel
theorem dX9_turningPoint_50 : decode cX9_turningPoint 50 = .ok (.if_icmp .gt 45, 3) := by decide +kernel
theorem dX9_turningPoint_53 : decode cX9_turningPoint 53 = .ok (.iload_n 2, 1) := by decide +kernel
theorem dX9_turningPoint_54 : decode cX9_turningPoint 54 = .ok (.iconst (-1), 1) := by decide +kernel
theorem dX9_turningPoint_55 : decode cX9_turningPoint 55 = .ok (.if_icmp .eq 40, 3) := by decide +kernel
theorem dX9_turningPoint_58 : decode cX9_turningPoint 58 = .ok (.aload_n 0, 1) := by decide +kernel
theorem dX9_turningPoint_59 : decode cX9_turningPoint 59 = .ok (.iload_n 1, 1) := by decide +kernel
theorem dX9_turningPoint_60 : decode cX9_turningPoint 60 = .ok (.bipush 100, 2) := by decide +kernel
theorem dX9_turningPoint_62 : decode cX9_turningPoint 62 = .ok (.iload_n 3, 1) := by decide +kernel
theorem dX9_turningPoint_63 : decode cX9_turningPoint 63 = .ok (.isub, 1) := by decide +kernel
theorem dX9_turningPoint_64 : decode cX9_turningPoint 64 = .ok (.invokevirtual 221, 3) := by decide +kernel
theorem dX9_turningPoint_67 : decode cX9_turningPoint 67 = .ok (.iload_n 2, 1) := by decide +kernel
theorem dX9_turningPoint_68 : decode cX9_turningPoint 68 = .ok (.if_icmp .eq 6, 3) := by decide +kernel
theorem dX9_turningPoint_71 : decode cX9_turningPoint 71 = .ok (.iload_n 3, 1) := by decide +kernel
theorem dX9_turningPoint_72 : decode cX9_turningPoint 72 = .ok (.ineg, 1) := by decide +kernel
theorem dX9_turningPoint_73 : decode cX9_turningPoint 73 = .ok (.ireturn, 1) := by decide +kernel
theorem dX9_turningPoint_74 : decode cX9_turningPoint 74 = .ok (.aload_n 0, 1) := by decide +kernel
theorem dX9_turningPoint_75 : decode cX9_turningPoint 75 = .ok (.iload_n 1, 1) := by decide +kernel
theorem dX9_turningPoint_76 : decode cX9_turningPoint 76 = .ok (.bipush 100, 2) := by decide +kernel
theorem dX9_turningPoint_78 : decode cX9_turningPoint 78 = .ok (.iload_n 3, 1) := by decide +kernel
theorem dX9_turningPoint_79 : decode cX9_turningPoint 79 = .ok (.iadd, 1) := by decide +kernel
theorem dX9_turningPoint_80 : decode cX9_turningPoint 80 = .ok (.invokevirtual 221, 3) := by decide +kernel
theorem dX9_turningPoint_83 : decode cX9_turningPoint 83 = .ok (.iload_n 2, 1) := by decide +kernel
theorem dX9_turningPoint_84 : decode cX9_turningPoint 84 = .ok (.if_icmp .eq 5, 3) := by decide +kernel
theorem dX9_turningPoint_87 : decode cX9_turningPoint 87 = .ok (.iload_n 3, 1) := by decide +kernel
theorem dX9_turningPoint_88 : decode cX9_turningPoint 88 = .ok (.ireturn, 1) := by decide +kernel
theorem dX9_turningPoint_89 : decode cX9_turningPoint 89 = .ok (.iinc 3 1, 3) := by decide +kernel
theorem dX9_turningPoint_92 : decode cX9_turningPoint 92 = .ok (.goto (-45), 3) := by decide +kernel
theorem dX9_turningPoint_95 : decode cX9_turningPoint 95 = .ok (.aload_n 0, 1) := by decide +kernel
theorem dX9_turningPoint_96 : decode cX9_turningPoint 96 = .ok (.iconst 3, 1) := by decide +kernel
theorem dX9_turningPoint_97 : decode cX9_turningPoint 97 = .ok (.putfield 33, 3) := by decide +kernel
theorem dX9_turningPoint_100 : decode cX9_turningPoint 100 = .ok (.iconst 0, 1) := by decide +kernel
theorem dX9_turningPoint_101 : decode cX9_turningPoint 101 = .ok (.ireturn, 1) := by decide +kernel
theorem dX9_firstBut_0 : decode cX9_firstBut 0 = .ok (.iconst (-1), 1) := by decide +kernel
theorem dX9_firstBut_1 : decode cX9_firstBut 1 = .ok (.istore_n 2, 1) := by decide +kernel
theorem dX9_firstBut_2 : decode cX9_firstBut 2 = .ok (.iconst 0, 1) := by decide +kernel
theorem dX9_firstBut_3 : decode cX9_firstBut 3 = .ok (.istore_n 3, 1) := by decide +kernel
theorem dX9_firstBut_4 : decode cX9_firstBut 4 = .ok (.iload_n 3, 1) := by decide +kernel
theorem dX9_firstBut_5 : decode cX9_firstBut 5 = .ok (.bipush 8, 2) := by decide +kernel
theorem dX9_firstBut_7 : decode cX9_firstBut 7 = .ok (.if_icmp .ge 41, 3) := by decide +kernel
theorem dX9_firstBut_10 : decode cX9_firstBut 10 = .ok (.iload_n 3, 1) := by decide +kernel
theorem dX9_firstBut_11 : decode cX9_firstBut 11 = .ok (.iload_n 1, 1) := by decide +kernel
theorem dX9_firstBut_12 : decode cX9_firstBut 12 = .ok (.if_icmp .eq 30, 3) := by decide +kernel
theorem dX9_firstBut_15 : decode cX9_firstBut 15 = .ok (.aload_n 0, 1) := by decide +kernel
theorem dX9_firstBut_16 : decode cX9_firstBut 16 = .ok (.iload_n 3, 1) := by decide +kernel
theorem dX9_firstBut_17 : decode cX9_firstBut 17 = .ok (.invokevirtual 202, 3) := by decide +kernel
theorem dX9_firstBut_20 : decode cX9_firstBut 20 = .ok (.ifCond .ne 22, 3) := by decide +kernel
theorem dX9_firstBut_23 : decode cX9_firstBut 23 = .ok (.iload_n 2, 1) := by decide +kernel
theorem dX9_firstBut_24 : decode cX9_firstBut 24 = .ok (.iconst (-1), 1) := by decide +kernel
theorem dX9_firstBut_25 : decode cX9_firstBut 25 = .ok (.if_icmp .eq 15, 3) := by decide +kernel
theorem dX9_firstBut_28 : decode cX9_firstBut 28 = .ok (.aload_n 0, 1) := by decide +kernel
theorem dX9_firstBut_29 : decode cX9_firstBut 29 = .ok (.iload_n 3, 1) := by decide +kernel
theorem dX9_firstBut_30 : decode cX9_firstBut 30 = .ok (.iload_n 2, 1) := by decide +kernel
theorem dX9_firstBut_31 : decode cX9_firstBut 31 = .ok (.iconst (-1), 1) := by decide +kernel
theorem dX9_firstBut_32 : decode cX9_firstBut 32 = .ok (.bipush 100, 2) := by decide +kernel
theorem dX9_firstBut_34 : decode cX9_firstBut 34 = .ok (.invokevirtual 211, 3) := by decide +kernel
theorem dX9_firstBut_37 : decode cX9_firstBut 37 = .ok (.ifCond .eq 5, 3) := by decide +kernel
theorem dX9_firstBut_40 : decode cX9_firstBut 40 = .ok (.iload_n 3, 1) := by decide +kernel
theorem dX9_firstBut_41 : decode cX9_firstBut 41 = .ok (.istore_n 2, 1) := by decide +kernel
theorem dX9_firstBut_42 : decode cX9_firstBut 42 = .ok (.iinc 3 1, 3) := by decide +kernel
theorem dX9_firstBut_45 : decode cX9_firstBut 45 = .ok (.goto (-41), 3) := by decide +kernel
theorem dX9_firstBut_48 : decode cX9_firstBut 48 = .ok (.iload_n 2, 1) := by decide +kernel
theorem dX9_firstBut_49 : decode cX9_firstBut 49 = .ok (.ireturn, 1) := by decide +kernel
theorem dX9_couldBeValid_0 : decode cX9_couldBeValid 0 = .ok (.aload_n 0, 1) := by decide +kernel
theorem dX9_couldBeValid_1 : decode cX9_couldBeValid 1 = .ok (.iload_n 1, 1) := by decide +kernel
theorem dX9_couldBeValid_2 : decode cX9_couldBeValid 2 = .ok (.invokevirtual 193, 3) := by decide +kernel
theorem dX9_couldBeValid_5 : decode cX9_couldBeValid 5 = .ok (.ifCond .eq 21, 3) := by decide +kernel
theorem dX9_couldBeValid_8 : decode cX9_couldBeValid 8 = .ok (.aload_n 0, 1) := by decide +kernel
theorem dX9_couldBeValid_9 : decode cX9_couldBeValid 9 = .ok (.invokevirtual 170, 3) := by decide +kernel
theorem dX9_couldBeValid_12 : decode cX9_couldBeValid 12 = .ok (.ifCond .eq 16, 3) := by decide +kernel
theorem dX9_couldBeValid_15 : decode cX9_couldBeValid 15 = .ok (.iload_n 1, 1) := by decide +kernel
theorem dX9_couldBeValid_16 : decode cX9_couldBeValid 16 = .ok (.aload_n 0, 1) := by decide +kernel
theorem dX9_couldBeValid_17 : decode cX9_couldBeValid 17 = .ok (.getfield 7, 3) := by decide +kernel
theorem dX9_couldBeValid_20 : decode cX9_couldBeValid 20 = .ok (.bipush 11, 2) := by decide +kernel
theorem dX9_couldBeValid_22 : decode cX9_couldBeValid 22 = .ok (.iaload, 1) := by decide +kernel
theorem dX9_couldBeValid_23 : decode cX9_couldBeValid 23 = .ok (.if_icmp .ne 5, 3) := by decide +kernel
theorem dX9_couldBeValid_26 : decode cX9_couldBeValid 26 = .ok (.iconst 0, 1) := by decide +kernel
theorem dX9_couldBeValid_27 : decode cX9_couldBeValid 27 = .ok (.ireturn, 1) := by decide +kernel
theorem dX9_couldBeValid_28 : decode cX9_couldBeValid 28 = .ok (.iconst 0, 1) := by decide +kernel
theorem dX9_couldBeValid_29 : decode cX9_couldBeValid 29 = .ok (.istore_n 3, 1) := by decide +kernel
theorem dX9_couldBeValid_30 : decode cX9_couldBeValid 30 = .ok (.iload_n 3, 1) := by decide +kernel
theorem dX9_couldBeValid_31 : decode cX9_couldBeValid 31 = .ok (.aload_n 0, 1) := by decide +kernel
theorem dX9_couldBeValid_32 : decode cX9_couldBeValid 32 = .ok (.getfield 7, 3) := by decide +kernel
theorem dX9_couldBeValid_35 : decode cX9_couldBeValid 35 = .ok (.bipush 8, 2) := by decide +kernel
theorem dX9_couldBeValid_37 : decode cX9_couldBeValid 37 = .ok (.iaload, 1) := by decide +kernel
theorem dX9_couldBeValid_38 : decode cX9_couldBeValid 38 = .ok (.if_icmp .ge 34, 3) := by decide +kernel
theorem dX9_couldBeValid_41 : decode cX9_couldBeValid 41 = .ok (.iload_n 3, 1) := by decide +kernel
theorem dX9_couldBeValid_42 : decode cX9_couldBeValid 42 = .ok (.iload_n 2, 1) := by decide +kernel
theorem dX9_couldBeValid_43 : decode cX9_couldBeValid 43 = .ok (.if_icmp .eq 23, 3) := by decide +kernel
theorem dX9_couldBeValid_46 : decode cX9_couldBeValid 46 = .ok (.aload_n 0, 1) := by decide +kernel
theorem dX9_couldBeValid_47 : decode cX9_couldBeValid 47 = .ok (.iload_n 1, 1) := by decide +kernel
theorem dX9_couldBeValid_48 : decode cX9_couldBeValid 48 = .ok (.iload_n 3, 1) := by decide +kernel
theorem dX9_couldBeValid_49 : decode cX9_couldBeValid 49 = .ok (.invokevirtual 182, 3) := by decide +kernel
theorem dX9_couldBeValid_52 : decode cX9_couldBeValid 52 = .ok (.aload_n 0, 1) := by decide +kernel
theorem dX9_couldBeValid_53 : decode cX9_couldBeValid 53 = .ok (.getfield 7, 3) := by decide +kernel
theorem dX9_couldBeValid_56 : decode cX9_couldBeValid 56 = .ok (.bipush 20, 2) := by decide +kernel
theorem dX9_couldBeValid_58 : decode cX9_couldBeValid 58 = .ok (.iload_n 3, 1) := by decide +kernel
theorem dX9_couldBeValid_59 : decode cX9_couldBeValid 59 = .ok (.iadd, 1) := by decide +kernel
theorem dX9_couldBeValid_60 : decode cX9_couldBeValid 60 = .ok (.iaload, 1) := by decide +kernel
theorem dX9_couldBeValid_61 : decode cX9_couldBeValid 61 = .ok (.if_icmp .ge 5, 3) := by decide +kernel
theorem dX9_couldBeValid_64 : decode cX9_couldBeValid 64 = .ok (.iconst 0, 1) := by decide +kernel
theorem dX9_couldBeValid_65 : decode cX9_couldBeValid 65 = .ok (.ireturn, 1) := by decide +kernel
theorem dX9_couldBeValid_66 : decode cX9_couldBeValid 66 = .ok (.iinc 3 1, 3) := by decide +kernel
theorem dX9_couldBeValid_69 : decode cX9_couldBeValid 69 = .ok (.goto (-39), 3) := by decide +kernel
theorem dX9_couldBeValid_72 : decode cX9_couldBeValid 72 = .ok (.iconst 1, 1) := by decide +kernel
theorem dX9_couldBeValid_73 : decode cX9_couldBeValid 73 = .ok (.ireturn, 1) := by decide +kernel
theorem dX9_leastRate_0 : decode cX9_leastRate 0 = .ok (.aload_n 0, 1) := by decide +kernel
theorem dX9_leastRate_1 : decode cX9_leastRate 1 = .ok (.getfield 7, 3) := by decide +kernel
theorem dX9_leastRate_4 : decode cX9_leastRate 4 = .ok (.bipush 20, 2) := by decide +kernel
theorem dX9_leastRate_6 : decode cX9_leastRate 6 = .ok (.iload_n 2, 1) := by decide +kernel
theorem dX9_leastRate_7 : decode cX9_leastRate 7 = .ok (.iadd, 1) := by decide +kernel
theorem dX9_leastRate_8 : decode cX9_leastRate 8 = .ok (.iaload, 1) := by decide +kernel
theorem dX9_leastRate_9 : decode cX9_leastRate 9 = .ok (.i2l, 1) := by decide +kernel
theorem dX9_leastRate_10 : decode cX9_leastRate 10 = .ok (.lstore_n 3, 1) := by decide +kernel
theorem dX9_leastRate_11 : decode cX9_leastRate 11 = .ok (.aload_n 0, 1) := by decide +kernel
theorem dX9_leastRate_12 : decode cX9_leastRate 12 = .ok (.iload_n 1, 1) := by decide +kernel
theorem dX9_leastRate_13 : decode cX9_leastRate 13 = .ok (.invokevirtual 224, 3) := by decide +kernel
theorem dX9_leastRate_16 : decode cX9_leastRate 16 = .ok (.istore 5, 2) := by decide +kernel
theorem dX9_leastRate_18 : decode cX9_leastRate 18 = .ok (.aload_n 0, 1) := by decide +kernel
theorem dX9_leastRate_19 : decode cX9_leastRate 19 = .ok (.iload_n 2, 1) := by decide +kernel
theorem dX9_leastRate_20 : decode cX9_leastRate 20 = .ok (.invokevirtual 177, 3) := by decide +kernel
theorem dX9_leastRate_23 : decode cX9_leastRate 23 = .ok (.i2l, 1) := by decide +kernel
theorem dX9_leastRate_24 : decode cX9_leastRate 24 = .ok (.lstore 6, 2) := by decide +kernel
theorem dX9_leastRate_26 : decode cX9_leastRate 26 = .ok (.aload_n 0, 1) := by decide +kernel
theorem dX9_leastRate_27 : decode cX9_leastRate 27 = .ok (.iload_n 1, 1) := by decide +kernel
theorem dX9_leastRate_28 : decode cX9_leastRate 28 = .ok (.iconst (-1), 1) := by decide +kernel
theorem dX9_leastRate_29 : decode cX9_leastRate 29 = .ok (.bipush 100, 2) := by decide +kernel
theorem dX9_leastRate_31 : decode cX9_leastRate 31 = .ok (.invokevirtual 207, 3) := by decide +kernel
theorem dX9_leastRate_34 : decode cX9_leastRate 34 = .ok (.lload 6, 2) := by decide +kernel
theorem dX9_leastRate_36 : decode cX9_leastRate 36 = .ok (.aload_n 0, 1) := by decide +kernel
theorem dX9_leastRate_37 : decode cX9_leastRate 37 = .ok (.iload_n 1, 1) := by decide +kernel
theorem dX9_leastRate_38 : decode cX9_leastRate 38 = .ok (.iload_n 2, 1) := by decide +kernel
theorem dX9_leastRate_39 : decode cX9_leastRate 39 = .ok (.invokevirtual 182, 3) := by decide +kernel
theorem dX9_leastRate_42 : decode cX9_leastRate 42 = .ok (.i2l, 1) := by decide +kernel
theorem dX9_leastRate_43 : decode cX9_leastRate 43 = .ok (.lmul, 1) := by decide +kernel
theorem dX9_leastRate_44 : decode cX9_leastRate 44 = .ok (.lsub, 1) := by decide +kernel
theorem dX9_leastRate_45 : decode cX9_leastRate 45 = .ok (.lstore 8, 2) := by decide +kernel
theorem dX9_leastRate_47 : decode cX9_leastRate 47 = .ok (.iload 5, 2) := by decide +kernel
theorem dX9_leastRate_49 : decode cX9_leastRate 49 = .ok (.iconst (-1), 1) := by decide +kernel
theorem dX9_leastRate_50 : decode cX9_leastRate 50 = .ok (.if_icmp .eq 80, 3) := by decide +kernel
theorem dX9_leastRate_53 : decode cX9_leastRate 53 = .ok (.aload_n 0, 1) := by decide +kernel
theorem dX9_leastRate_54 : decode cX9_leastRate 54 = .ok (.iload 5, 2) := by decide +kernel
theorem dX9_leastRate_56 : decode cX9_leastRate 56 = .ok (.iconst (-1), 1) := by decide +kernel
theorem dX9_leastRate_57 : decode cX9_leastRate 57 = .ok (.bipush 100, 2) := by decide +kernel
theorem dX9_leastRate_59 : decode cX9_leastRate 59 = .ok (.invokevirtual 207, 3) := by decide +kernel
theorem dX9_leastRate_62 : decode cX9_leastRate 62 = .ok (.aload_n 0, 1) := by decide +kernel
theorem dX9_leastRate_63 : decode cX9_leastRate 63 = .ok (.iload_n 1, 1) := by decide +kernel
theorem dX9_leastRate_64 : decode cX9_leastRate 64 = .ok (.bipush 7, 2) := by decide +kernel
theorem dX9_leastRate_66 : decode cX9_leastRate 66 = .ok (.invokevirtual 182, 3) := by decide +kernel
theorem dX9_leastRate_69 : decode cX9_leastRate 69 = .ok (.aload_n 0, 1) := by decide +kernel
theorem dX9_leastRate_70 : decode cX9_leastRate 70 = .ok (.iload 5, 2) := by decide +kernel
theorem dX9_leastRate_72 : decode cX9_leastRate 72 = .ok (.bipush 7, 2) := by decide +kernel
theorem dX9_leastRate_74 : decode cX9_leastRate 74 = .ok (.invokevirtual 182, 3) := by decide +kernel
theorem dX9_leastRate_77 : decode cX9_leastRate 77 = .ok (.if_icmp .ge 7, 3) := by decide +kernel
theorem dX9_leastRate_80 : decode cX9_leastRate 80 = .ok (.lconst 0, 1) := by decide +kernel
theorem dX9_leastRate_81 : decode cX9_leastRate 81 = .ok (.goto 4, 3) := by decide +kernel
theorem dX9_leastRate_84 : decode cX9_leastRate 84 = .ok (.lconst 1, 1) := by decide +kernel
theorem dX9_leastRate_85 : decode cX9_leastRate 85 = .ok (.ladd, 1) := by decide +kernel
theorem dX9_leastRate_86 : decode cX9_leastRate 86 = .ok (.lload 8, 2) := by decide +kernel
theorem dX9_leastRate_88 : decode cX9_leastRate 88 = .ok (.lsub, 1) := by decide +kernel
theorem dX9_leastRate_89 : decode cX9_leastRate 89 = .ok (.lstore 10, 2) := by decide +kernel
theorem dX9_leastRate_91 : decode cX9_leastRate 91 = .ok (.lload 10, 2) := by decide +kernel
theorem dX9_leastRate_93 : decode cX9_leastRate 93 = .ok (.lconst 0, 1) := by decide +kernel
theorem dX9_leastRate_94 : decode cX9_leastRate 94 = .ok (.lcmp, 1) := by decide +kernel
theorem dX9_leastRate_95 : decode cX9_leastRate 95 = .ok (.ifCond .le 14, 3) := by decide +kernel
theorem dX9_leastRate_98 : decode cX9_leastRate 98 = .ok (.lload 6, 2) := by decide +kernel
theorem dX9_leastRate_100 : decode cX9_leastRate 100 = .ok (.lconst 0, 1) := by decide +kernel
theorem dX9_leastRate_101 : decode cX9_leastRate 101 = .ok (.lcmp, 1) := by decide +kernel
theorem dX9_leastRate_102 : decode cX9_leastRate 102 = .ok (.ifCond .ne 7, 3) := by decide +kernel
theorem dX9_leastRate_105 : decode cX9_leastRate 105 = .ok (.ldc2_w 229, 3) := by decide +kernel
theorem dX9_leastRate_108 : decode cX9_leastRate 108 = .ok (.lreturn, 1) := by decide +kernel
theorem dX9_leastRate_109 : decode cX9_leastRate 109 = .ok (.lload 10, 2) := by decide +kernel
theorem dX9_leastRate_111 : decode cX9_leastRate 111 = .ok (.lload_n 3, 1) := by decide +kernel
theorem dX9_leastRate_112 : decode cX9_leastRate 112 = .ok (.lload 6, 2) := by decide +kernel
theorem dX9_leastRate_114 : decode cX9_leastRate 114 = .ok (.lmul, 1) := by decide +kernel
theorem dX9_leastRate_115 : decode cX9_leastRate 115 = .ok (.lcmp, 1) := by decide +kernel
theorem dX9_leastRate_116 : decode cX9_leastRate 116 = .ok (.ifCond .le 14, 3) := by decide +kernel
theorem dX9_leastRate_119 : decode cX9_leastRate 119 = .ok (.lload 10, 2) := by decide +kernel
theorem dX9_leastRate_121 : decode cX9_leastRate 121 = .ok (.lload 6, 2) := by decide +kernel
theorem dX9_leastRate_123 : decode cX9_leastRate 123 = .ok (.ladd, 1) := by decide +kernel
theorem dX9_leastRate_124 : decode cX9_leastRate 124 = .ok (.lconst 1, 1) := by decide +kernel
theorem dX9_leastRate_125 : decode cX9_leastRate 125 = .ok (.lsub, 1) := by decide +kernel
theorem dX9_leastRate_126 : decode cX9_leastRate 126 = .ok (.lload 6, 2) := by decide +kernel
theorem dX9_leastRate_128 : decode cX9_leastRate 128 = .ok (.ldiv, 1) := by decide +kernel
theorem dX9_leastRate_129 : decode cX9_leastRate 129 = .ok (.lstore_n 3, 1) := by decide +kernel
theorem dX9_leastRate_130 : decode cX9_leastRate 130 = .ok (.aload_n 0, 1) := by decide +kernel
theorem dX9_leastRate_131 : decode cX9_leastRate 131 = .ok (.iload_n 1, 1) := by decide +kernel
theorem dX9_leastRate_132 : decode cX9_leastRate 132 = .ok (.bipush 6, 2) := by decide +kernel
theorem dX9_leastRate_134 : decode cX9_leastRate 134 = .ok (.invokevirtual 182, 3) := by decide +kernel
theorem dX9_leastRate_137 : decode cX9_leastRate 137 = .ok (.i2l, 1) := by decide +kernel
theorem dX9_leastRate_138 : decode cX9_leastRate 138 = .ok (.ldc2_w 205, 3) := by decide +kernel
theorem dX9_leastRate_141 : decode cX9_leastRate 141 = .ok (.lmul, 1) := by decide +kernel
theorem dX9_leastRate_142 : decode cX9_leastRate 142 = .ok (.lload 8, 2) := by decide +kernel
theorem dX9_leastRate_144 : decode cX9_leastRate 144 = .ok (.lload_n 3, 1) := by decide +kernel
theorem dX9_leastRate_145 : decode cX9_leastRate 145 = .ok (.lload 6, 2) := by decide +kernel
theorem dX9_leastRate_147 : decode cX9_leastRate 147 = .ok (.lmul, 1) := by decide +kernel
theorem dX9_leastRate_148 : decode cX9_leastRate 148 = .ok (.ladd, 1) := by decide +kernel
theorem dX9_leastRate_149 : decode cX9_leastRate 149 = .ok (.aload_n 0, 1) := by decide +kernel
theorem dX9_leastRate_150 : decode cX9_leastRate 150 = .ok (.getfield 7, 3) := by decide +kernel
theorem dX9_leastRate_153 : decode cX9_leastRate 153 = .ok (.iconst 3, 1) := by decide +kernel
theorem dX9_leastRate_154 : decode cX9_leastRate 154 = .ok (.iaload, 1) := by decide +kernel
theorem dX9_leastRate_155 : decode cX9_leastRate 155 = .ok (.i2l, 1) := by decide +kernel
theorem dX9_leastRate_156 : decode cX9_leastRate 156 = .ok (.lmul, 1) := by decide +kernel
theorem dX9_leastRate_157 : decode cX9_leastRate 157 = .ok (.lcmp, 1) := by decide +kernel
theorem dX9_leastRate_158 : decode cX9_leastRate 158 = .ok (.ifCond .ge 9, 3) := by decide +kernel
theorem dX9_leastRate_161 : decode cX9_leastRate 161 = .ok (.ldc2_w 229, 3) := by decide +kernel
theorem dX9_leastRate_164 : decode cX9_leastRate 164 = .ok (.goto 4, 3) := by decide +kernel
theorem dX9_leastRate_167 : decode cX9_leastRate 167 = .ok (.lload_n 3, 1) := by decide +kernel
theorem dX9_leastRate_168 : decode cX9_leastRate 168 = .ok (.lreturn, 1) := by decide +kernel
theorem dX9_leastWinningRate_0 : decode cX9_leastWinningRate 0 = .ok (.aload_n 0, 1) := by decide +kernel
theorem dX9_leastWinningRate_1 : decode cX9_leastWinningRate 1 = .ok (.iload_n 1, 1) := by decide +kernel
theorem dX9_leastWinningRate_2 : decode cX9_leastWinningRate 2 = .ok (.invokestatic 185, 3) := by decide +kernel
theorem dX9_leastWinningRate_5 : decode cX9_leastWinningRate 5 = .ok (.ifCond .eq 11, 3) := by decide +kernel
theorem dX9_leastWinningRate_8 : decode cX9_leastWinningRate 8 = .ok (.aload_n 0, 1) := by decide +kernel
theorem dX9_leastWinningRate_9 : decode cX9_leastWinningRate 9 = .ok (.iload_n 2, 1) := by decide +kernel
theorem dX9_leastWinningRate_10 : decode cX9_leastWinningRate 10 = .ok (.invokevirtual 137, 3) := by decide +kernel
theorem dX9_leastWinningRate_13 : decode cX9_leastWinningRate 13 = .ok (.ifCond .ne 7, 3) := by decide +kernel
theorem dX9_leastWinningRate_16 : decode cX9_leastWinningRate 16 = .ok (.iconst 1, 1) := by decide +kernel
theorem dX9_leastWinningRate_17 : decode cX9_leastWinningRate 17 = .ok (.goto 15, 3) := by decide +kernel
theorem dX9_leastWinningRate_20 : decode cX9_leastWinningRate 20 = .ok (.aload_n 0, 1) := by decide +kernel
theorem dX9_leastWinningRate_21 : decode cX9_leastWinningRate 21 = .ok (.invokevirtual 215, 3) := by decide +kernel
theorem dX9_leastWinningRate_24 : decode cX9_leastWinningRate 24 = .ok (.ifCond .ne 7, 3) := by decide +kernel
theorem dX9_leastWinningRate_27 : decode cX9_leastWinningRate 27 = .ok (.iconst 2, 1) := by decide +kernel
theorem dX9_leastWinningRate_28 : decode cX9_leastWinningRate 28 = .ok (.goto 4, 3) := by decide +kernel
theorem dX9_leastWinningRate_31 : decode cX9_leastWinningRate 31 = .ok (.iconst 0, 1) := by decide +kernel
theorem dX9_leastWinningRate_32 : decode cX9_leastWinningRate 32 = .ok (.putfield 33, 3) := by decide +kernel
theorem dX9_leastWinningRate_35 : decode cX9_leastWinningRate 35 = .ok (.aload_n 0, 1) := by decide +kernel
theorem dX9_leastWinningRate_36 : decode cX9_leastWinningRate 36 = .ok (.getfield 33, 3) := by decide +kernel
theorem dX9_leastWinningRate_39 : decode cX9_leastWinningRate 39 = .ok (.ifCond .le 5, 3) := by decide +kernel
theorem dX9_leastWinningRate_42 : decode cX9_leastWinningRate 42 = .ok (.iconst 0, 1) := by decide +kernel
theorem dX9_leastWinningRate_43 : decode cX9_leastWinningRate 43 = .ok (.ireturn, 1) := by decide +kernel
theorem dX9_leastWinningRate_44 : decode cX9_leastWinningRate 44 = .ok (.aload_n 0, 1) := by decide +kernel
theorem dX9_leastWinningRate_45 : decode cX9_leastWinningRate 45 = .ok (.iload_n 1, 1) := by decide +kernel
theorem dX9_leastWinningRate_46 : decode cX9_leastWinningRate 46 = .ok (.iload_n 2, 1) := by decide +kernel
theorem dX9_leastWinningRate_47 : decode cX9_leastWinningRate 47 = .ok (.invokevirtual 231, 3) := by decide +kernel
theorem dX9_leastWinningRate_50 : decode cX9_leastWinningRate 50 = .ok (.ifCond .eq 12, 3) := by decide +kernel
theorem dX9_leastWinningRate_53 : decode cX9_leastWinningRate 53 = .ok (.aload_n 0, 1) := by decide +kernel
theorem dX9_leastWinningRate_54 : decode cX9_leastWinningRate 54 = .ok (.iload_n 1, 1) := by decide +kernel
theorem dX9_leastWinningRate_55 : decode cX9_leastWinningRate 55 = .ok (.iload_n 2, 1) := by decide +kernel
theorem dX9_leastWinningRate_56 : decode cX9_leastWinningRate 56 = .ok (.invokevirtual 235, 3) := by decide +kernel
theorem dX9_leastWinningRate_59 : decode cX9_leastWinningRate 59 = .ok (.goto 6, 3) := by decide +kernel
theorem dX9_leastWinningRate_62 : decode cX9_leastWinningRate 62 = .ok (.ldc2_w 229, 3) := by decide +kernel
theorem dX9_leastWinningRate_65 : decode cX9_leastWinningRate 65 = .ok (.lstore_n 3, 1) := by decide +kernel
theorem dX9_leastWinningRate_66 : decode cX9_leastWinningRate 66 = .ok (.aload_n 0, 1) := by decide +kernel
theorem dX9_leastWinningRate_67 : decode cX9_leastWinningRate 67 = .ok (.lload_n 3, 1) := by decide +kernel
theorem dX9_leastWinningRate_68 : decode cX9_leastWinningRate 68 = .ok (.ldc2_w 188, 3) := by decide +kernel
theorem dX9_leastWinningRate_71 : decode cX9_leastWinningRate 71 = .ok (.lcmp, 1) := by decide +kernel
theorem dX9_leastWinningRate_72 : decode cX9_leastWinningRate 72 = .ok (.ifCond .le 7, 3) := by decide +kernel
theorem dX9_leastWinningRate_75 : decode cX9_leastWinningRate 75 = .ok (.iconst 3, 1) := by decide +kernel
theorem dX9_leastWinningRate_76 : decode cX9_leastWinningRate 76 = .ok (.goto 4, 3) := by decide +kernel
theorem dX9_leastWinningRate_79 : decode cX9_leastWinningRate 79 = .ok (.iconst 0, 1) := by decide +kernel
theorem dX9_leastWinningRate_80 : decode cX9_leastWinningRate 80 = .ok (.putfield 33, 3) := by decide +kernel
theorem dX9_leastWinningRate_83 : decode cX9_leastWinningRate 83 = .ok (.aload_n 0, 1) := by decide +kernel
theorem dX9_leastWinningRate_84 : decode cX9_leastWinningRate 84 = .ok (.getfield 33, 3) := by decide +kernel
theorem dX9_leastWinningRate_87 : decode cX9_leastWinningRate 87 = .ok (.ifCond .le 7, 3) := by decide +kernel
theorem dX9_leastWinningRate_90 : decode cX9_leastWinningRate 90 = .ok (.iconst 0, 1) := by decide +kernel
theorem dX9_leastWinningRate_91 : decode cX9_leastWinningRate 91 = .ok (.goto 5, 3) := by decide +kernel
theorem dX9_leastWinningRate_94 : decode cX9_leastWinningRate 94 = .ok (.lload_n 3, 1) := by decide +kernel
theorem dX9_leastWinningRate_95 : decode cX9_leastWinningRate 95 = .ok (.l2i, 1) := by decide +kernel
theorem dX9_leastWinningRate_96 : decode cX9_leastWinningRate 96 = .ok (.ireturn, 1) := by decide +kernel
theorem dX9_award_0 : decode cX9_award 0 = .ok (.aload_n 0, 1) := by decide +kernel
theorem dX9_award_1 : decode cX9_award 1 = .ok (.aload_n 0, 1) := by decide +kernel
theorem dX9_award_2 : decode cX9_award 2 = .ok (.getfield 7, 3) := by decide +kernel
theorem dX9_award_5 : decode cX9_award 5 = .ok (.iconst 0, 1) := by decide +kernel
theorem dX9_award_6 : decode cX9_award 6 = .ok (.iaload, 1) := by decide +kernel
theorem dX9_award_7 : decode cX9_award 7 = .ok (.iconst 2, 1) := by decide +kernel
theorem dX9_award_8 : decode cX9_award 8 = .ok (.if_icmp .eq 18, 3) := by decide +kernel
theorem dX9_award_11 : decode cX9_award 11 = .ok (.aload_n 0, 1) := by decide +kernel
theorem dX9_award_12 : decode cX9_award 12 = .ok (.getfield 7, 3) := by decide +kernel
theorem dX9_award_15 : decode cX9_award 15 = .ok (.iconst 0, 1) := by decide +kernel
theorem dX9_award_16 : decode cX9_award 16 = .ok (.iaload, 1) := by decide +kernel
theorem dX9_award_17 : decode cX9_award 17 = .ok (.bipush 7, 2) := by decide +kernel
theorem dX9_award_19 : decode cX9_award 19 = .ok (.if_icmp .eq 7, 3) := by decide +kernel
theorem dX9_award_22 : decode cX9_award 22 = .ok (.iconst 1, 1) := by decide +kernel
theorem dX9_award_23 : decode cX9_award 23 = .ok (.goto 19, 3) := by decide +kernel
theorem dX9_award_26 : decode cX9_award 26 = .ok (.aload_n 0, 1) := by decide +kernel
theorem dX9_award_27 : decode cX9_award 27 = .ok (.iconst (-1), 1) := by decide +kernel
theorem dX9_award_28 : decode cX9_award 28 = .ok (.bipush 100, 2) := by decide +kernel
theorem dX9_award_30 : decode cX9_award 30 = .ok (.invokevirtual 221, 3) := by decide +kernel
theorem dX9_award_33 : decode cX9_award 33 = .ok (.iconst (-1), 1) := by decide +kernel
theorem dX9_award_34 : decode cX9_award 34 = .ok (.if_icmp .ne 7, 3) := by decide +kernel
theorem dX9_award_37 : decode cX9_award 37 = .ok (.iconst 2, 1) := by decide +kernel
theorem dX9_award_38 : decode cX9_award 38 = .ok (.goto 4, 3) := by decide +kernel
theorem dX9_award_41 : decode cX9_award 41 = .ok (.iconst 0, 1) := by decide +kernel
theorem dX9_award_42 : decode cX9_award 42 = .ok (.putfield 33, 3) := by decide +kernel
theorem dX9_award_45 : decode cX9_award 45 = .ok (.aload_n 0, 1) := by decide +kernel
theorem dX9_award_46 : decode cX9_award 46 = .ok (.getfield 33, 3) := by decide +kernel
theorem dX9_award_49 : decode cX9_award 49 = .ok (.ifCond .le 5, 3) := by decide +kernel
theorem dX9_award_52 : decode cX9_award 52 = .ok (.iconst 0, 1) := by decide +kernel
theorem dX9_award_53 : decode cX9_award 53 = .ok (.ireturn, 1) := by decide +kernel
theorem dX9_award_54 : decode cX9_award 54 = .ok (.aload_n 0, 1) := by decide +kernel
theorem dX9_award_55 : decode cX9_award 55 = .ok (.invokevirtual 128, 3) := by decide +kernel
theorem dX9_award_58 : decode cX9_award 58 = .ok (.aload_n 0, 1) := by decide +kernel
theorem dX9_award_59 : decode cX9_award 59 = .ok (.iconst (-1), 1) := by decide +kernel
theorem dX9_award_60 : decode cX9_award 60 = .ok (.bipush 100, 2) := by decide +kernel
theorem dX9_award_62 : decode cX9_award 62 = .ok (.invokevirtual 221, 3) := by decide +kernel
theorem dX9_award_65 : decode cX9_award 65 = .ok (.istore_n 1, 1) := by decide +kernel
theorem dX9_award_66 : decode cX9_award 66 = .ok (.aload_n 0, 1) := by decide +kernel
theorem dX9_award_67 : decode cX9_award 67 = .ok (.invokevirtual 170, 3) := by decide +kernel
theorem dX9_award_70 : decode cX9_award 70 = .ok (.ifCond .eq 21, 3) := by decide +kernel
theorem dX9_award_73 : decode cX9_award 73 = .ok (.aload_n 0, 1) := by decide +kernel
theorem dX9_award_74 : decode cX9_award 74 = .ok (.getfield 7, 3) := by decide +kernel
theorem dX9_award_77 : decode cX9_award 77 = .ok (.bipush 12, 2) := by decide +kernel
theorem dX9_award_79 : decode cX9_award 79 = .ok (.iload_n 1, 1) := by decide +kernel
theorem dX9_award_80 : decode cX9_award 80 = .ok (.iastore, 1) := by decide +kernel
theorem dX9_award_81 : decode cX9_award 81 = .ok (.aload_n 0, 1) := by decide +kernel
theorem dX9_award_82 : decode cX9_award 82 = .ok (.getfield 7, 3) := by decide +kernel
theorem dX9_award_85 : decode cX9_award 85 = .ok (.iconst 0, 1) := by decide +kernel
theorem dX9_award_86 : decode cX9_award 86 = .ok (.bipush 8, 2) := by decide +kernel
theorem dX9_award_88 : decode cX9_award 88 = .ok (.iastore, 1) := by decide +kernel
theorem dX9_award_89 : decode cX9_award 89 = .ok (.iload_n 1, 1) := by decide +kernel
theorem dX9_award_90 : decode cX9_award 90 = .ok (.ireturn, 1) := by decide +kernel
theorem dX9_award_91 : decode cX9_award 91 = .ok (.aload_n 0, 1) := by decide +kernel
theorem dX9_award_92 : decode cX9_award 92 = .ok (.getfield 7, 3) := by decide +kernel
theorem dX9_award_95 : decode cX9_award 95 = .ok (.bipush 11, 2) := by decide +kernel
theorem dX9_award_97 : decode cX9_award 97 = .ok (.iload_n 1, 1) := by decide +kernel
theorem dX9_award_98 : decode cX9_award 98 = .ok (.iastore, 1) := by decide +kernel
theorem dX9_award_99 : decode cX9_award 99 = .ok (.iconst 0, 1) := by decide +kernel
theorem dX9_award_100 : decode cX9_award 100 = .ok (.istore_n 2, 1) := by decide +kernel
theorem dX9_award_101 : decode cX9_award 101 = .ok (.iload_n 2, 1) := by decide +kernel
theorem dX9_award_102 : decode cX9_award 102 = .ok (.bipush 6, 2) := by decide +kernel
theorem dX9_award_104 : decode cX9_award 104 = .ok (.if_icmp .ge 25, 3) := by decide +kernel
theorem dX9_award_107 : decode cX9_award 107 = .ok (.aload_n 0, 1) := by decide +kernel
theorem dX9_award_108 : decode cX9_award 108 = .ok (.getfield 7, 3) := by decide +kernel
theorem dX9_award_111 : decode cX9_award 111 = .ok (.sipush 288, 3) := by decide +kernel
theorem dX9_award_114 : decode cX9_award 114 = .ok (.iload_n 2, 1) := by decide +kernel
theorem dX9_award_115 : decode cX9_award 115 = .ok (.iadd, 1) := by decide +kernel
theorem dX9_award_116 : decode cX9_award 116 = .ok (.aload_n 0, 1) := by decide +kernel
theorem dX9_award_117 : decode cX9_award 117 = .ok (.iload_n 1, 1) := by decide +kernel
theorem dX9_award_118 : decode cX9_award 118 = .ok (.iload_n 2, 1) := by decide +kernel
theorem dX9_award_119 : decode cX9_award 119 = .ok (.invokevirtual 182, 3) := by decide +kernel
theorem dX9_award_122 : decode cX9_award 122 = .ok (.iastore, 1) := by decide +kernel
theorem dX9_award_123 : decode cX9_award 123 = .ok (.iinc 2 1, 3) := by decide +kernel
theorem dX9_award_126 : decode cX9_award 126 = .ok (.goto (-25), 3) := by decide +kernel
theorem dX9_award_129 : decode cX9_award 129 = .ok (.aload_n 0, 1) := by decide +kernel
theorem dX9_award_130 : decode cX9_award 130 = .ok (.getfield 7, 3) := by decide +kernel
theorem dX9_award_133 : decode cX9_award 133 = .ok (.bipush 15, 2) := by decide +kernel
theorem dX9_award_135 : decode cX9_award 135 = .ok (.aload_n 0, 1) := by decide +kernel
theorem dX9_award_136 : decode cX9_award 136 = .ok (.iload_n 1, 1) := by decide +kernel
theorem dX9_award_137 : decode cX9_award 137 = .ok (.bipush 6, 2) := by decide +kernel
theorem dX9_award_139 : decode cX9_award 139 = .ok (.invokevirtual 182, 3) := by decide +kernel
theorem dX9_award_142 : decode cX9_award 142 = .ok (.iastore, 1) := by decide +kernel
theorem dX9_award_143 : decode cX9_award 143 = .ok (.aload_n 0, 1) := by decide +kernel
theorem dX9_award_144 : decode cX9_award 144 = .ok (.getfield 7, 3) := by decide +kernel
theorem dX9_award_147 : decode cX9_award 147 = .ok (.iconst 0, 1) := by decide +kernel
theorem dX9_award_148 : decode cX9_award 148 = .ok (.iconst 3, 1) := by decide +kernel
theorem dX9_award_149 : decode cX9_award 149 = .ok (.iastore, 1) := by decide +kernel
theorem dX9_award_150 : decode cX9_award 150 = .ok (.iload_n 1, 1) := by decide +kernel
theorem dX9_award_151 : decode cX9_award 151 = .ok (.ireturn, 1) := by decide +kernel
theorem dX9_setIndex_0 : decode cX9_setIndex 0 = .ok (.aload_n 0, 1) := by decide +kernel
theorem dX9_setIndex_1 : decode cX9_setIndex 1 = .ok (.iload_n 1, 1) := by decide +kernel
theorem dX9_setIndex_2 : decode cX9_setIndex 2 = .ok (.i2l, 1) := by decide +kernel
theorem dX9_setIndex_3 : decode cX9_setIndex 3 = .ok (.lconst 0, 1) := by decide +kernel
theorem dX9_setIndex_4 : decode cX9_setIndex 4 = .ok (.ldc2_w 239, 3) := by decide +kernel
theorem dX9_setIndex_7 : decode cX9_setIndex 7 = .ok (.invokestatic 74, 3) := by decide +kernel
theorem dX9_setIndex_10 : decode cX9_setIndex 10 = .ok (.ifCond .eq 11, 3) := by decide +kernel
theorem dX9_setIndex_13 : decode cX9_setIndex 13 = .ok (.aload_n 0, 1) := by decide +kernel
theorem dX9_setIndex_14 : decode cX9_setIndex 14 = .ok (.iload_n 2, 1) := by decide +kernel
theorem dX9_setIndex_15 : decode cX9_setIndex 15 = .ok (.invokevirtual 137, 3) := by decide +kernel
theorem dX9_setIndex_18 : decode cX9_setIndex 18 = .ok (.ifCond .ne 7, 3) := by decide +kernel
theorem dX9_setIndex_21 : decode cX9_setIndex 21 = .ok (.iconst 1, 1) := by decide +kernel
theorem dX9_setIndex_22 : decode cX9_setIndex 22 = .ok (.goto 34, 3) := by decide +kernel
theorem dX9_setIndex_25 : decode cX9_setIndex 25 = .ok (.iload_n 3, 1) := by decide +kernel
theorem dX9_setIndex_26 : decode cX9_setIndex 26 = .ok (.i2l, 1) := by decide +kernel
theorem dX9_setIndex_27 : decode cX9_setIndex 27 = .ok (.lconst 1, 1) := by decide +kernel
theorem dX9_setIndex_28 : decode cX9_setIndex 28 = .ok (.ldc2_w 241, 3) := by decide +kernel
theorem dX9_setIndex_31 : decode cX9_setIndex 31 = .ok (.invokestatic 74, 3) := by decide +kernel
theorem dX9_setIndex_34 : decode cX9_setIndex 34 = .ok (.ifCond .ne 7, 3) := by decide +kernel
theorem dX9_setIndex_37 : decode cX9_setIndex 37 = .ok (.iconst 2, 1) := by decide +kernel
theorem dX9_setIndex_38 : decode cX9_setIndex 38 = .ok (.goto 18, 3) := by decide +kernel
theorem dX9_setIndex_41 : decode cX9_setIndex 41 = .ok (.aload_n 0, 1) := by decide +kernel
theorem dX9_setIndex_42 : decode cX9_setIndex 42 = .ok (.getfield 7, 3) := by decide +kernel
theorem dX9_setIndex_45 : decode cX9_setIndex 45 = .ok (.iconst 0, 1) := by decide +kernel
theorem dX9_setIndex_46 : decode cX9_setIndex 46 = .ok (.iaload, 1) := by decide +kernel
theorem dX9_setIndex_47 : decode cX9_setIndex 47 = .ok (.iconst 3, 1) := by decide +kernel
theorem dX9_setIndex_48 : decode cX9_setIndex 48 = .ok (.if_icmp .eq 7, 3) := by decide +kernel
theorem dX9_setIndex_51 : decode cX9_setIndex 51 = .ok (.iconst 3, 1) := by decide +kernel
theorem dX9_setIndex_52 : decode cX9_setIndex 52 = .ok (.goto 4, 3) := by decide +kernel
theorem dX9_setIndex_55 : decode cX9_setIndex 55 = .ok (.iconst 0, 1) := by decide +kernel
theorem dX9_setIndex_56 : decode cX9_setIndex 56 = .ok (.putfield 33, 3) := by decide +kernel
theorem dX9_setIndex_59 : decode cX9_setIndex 59 = .ok (.aload_n 0, 1) := by decide +kernel
theorem dX9_setIndex_60 : decode cX9_setIndex 60 = .ok (.getfield 33, 3) := by decide +kernel
theorem dX9_setIndex_63 : decode cX9_setIndex 63 = .ok (.ifCond .le 4, 3) := by decide +kernel
theorem dX9_setIndex_66 : decode cX9_setIndex 66 = .ok (.return_, 1) := by decide +kernel
theorem dX9_setIndex_67 : decode cX9_setIndex 67 = .ok (.aload_n 0, 1) := by decide +kernel
theorem dX9_setIndex_68 : decode cX9_setIndex 68 = .ok (.invokevirtual 128, 3) := by decide +kernel
theorem dX9_setIndex_71 : decode cX9_setIndex 71 = .ok (.aload_n 0, 1) := by decide +kernel
theorem dX9_setIndex_72 : decode cX9_setIndex 72 = .ok (.getfield 7, 3) := by decide +kernel
theorem dX9_setIndex_75 : decode cX9_setIndex 75 = .ok (.sipush 294, 3) := by decide +kernel
theorem dX9_setIndex_78 : decode cX9_setIndex 78 = .ok (.bipush 6, 2) := by decide +kernel
theorem dX9_setIndex_80 : decode cX9_setIndex 80 = .ok (.iload_n 1, 1) := by decide +kernel
theorem dX9_setIndex_81 : decode cX9_setIndex 81 = .ok (.imul, 1) := by decide +kernel
theorem dX9_setIndex_82 : decode cX9_setIndex 82 = .ok (.iadd, 1) := by decide +kernel
theorem dX9_setIndex_83 : decode cX9_setIndex 83 = .ok (.iload_n 2, 1) := by decide +kernel
theorem dX9_setIndex_84 : decode cX9_setIndex 84 = .ok (.iadd, 1) := by decide +kernel
theorem dX9_setIndex_85 : decode cX9_setIndex 85 = .ok (.iload_n 3, 1) := by decide +kernel
theorem dX9_setIndex_86 : decode cX9_setIndex 86 = .ok (.iastore, 1) := by decide +kernel
theorem dX9_setIndex_87 : decode cX9_setIndex 87 = .ok (.return_, 1) := by decide +kernel
theorem dX9_rateOf_0 : decode cX9_rateOf 0 = .ok (.aload_n 0, 1) := by decide +kernel
theorem dX9_rateOf_1 : decode cX9_rateOf 1 = .ok (.getfield 7, 3) := by decide +kernel
theorem dX9_rateOf_4 : decode cX9_rateOf 4 = .ok (.bipush 26, 2) := by decide +kernel
theorem dX9_rateOf_6 : decode cX9_rateOf 6 = .ok (.iload_n 1, 1) := by decide +kernel
theorem dX9_rateOf_7 : decode cX9_rateOf 7 = .ok (.iadd, 1) := by decide +kernel
theorem dX9_rateOf_8 : decode cX9_rateOf 8 = .ok (.iaload, 1) := by decide +kernel
theorem dX9_rateOf_9 : decode cX9_rateOf 9 = .ok (.istore_n 3, 1) := by decide +kernel
theorem dX9_rateOf_10 : decode cX9_rateOf 10 = .ok (.iconst 0, 1) := by decide +kernel
theorem dX9_rateOf_11 : decode cX9_rateOf 11 = .ok (.istore 4, 2) := by decide +kernel
theorem dX9_rateOf_13 : decode cX9_rateOf 13 = .ok (.iload 4, 2) := by decide +kernel
theorem dX9_rateOf_15 : decode cX9_rateOf 15 = .ok (.iload_n 2, 1) := by decide +kernel
theorem dX9_rateOf_16 : decode cX9_rateOf 16 = .ok (.if_icmp .gt 45, 3) := by decide +kernel
theorem dX9_rateOf_19 : decode cX9_rateOf 19 = .ok (.aload_n 0, 1) := by decide +kernel
theorem dX9_rateOf_20 : decode cX9_rateOf 20 = .ok (.getfield 7, 3) := by decide +kernel
theorem dX9_rateOf_23 : decode cX9_rateOf 23 = .ok (.sipush 294, 3) := by decide +kernel
theorem dX9_rateOf_26 : decode cX9_rateOf 26 = .ok (.bipush 6, 2) := by decide +kernel
theorem dX9_rateOf_28 : decode cX9_rateOf 28 = .ok (.iload 4, 2) := by decide +kernel
theorem dX9_rateOf_30 : decode cX9_rateOf 30 = .ok (.imul, 1) := by decide +kernel
theorem dX9_rateOf_31 : decode cX9_rateOf 31 = .ok (.iadd, 1) := by decide +kernel
theorem dX9_rateOf_32 : decode cX9_rateOf 32 = .ok (.iload_n 1, 1) := by decide +kernel
theorem dX9_rateOf_33 : decode cX9_rateOf 33 = .ok (.iadd, 1) := by decide +kernel
theorem dX9_rateOf_34 : decode cX9_rateOf 34 = .ok (.iaload, 1) := by decide +kernel
theorem dX9_rateOf_35 : decode cX9_rateOf 35 = .ok (.ifCond .le 20, 3) := by decide +kernel
theorem dX9_rateOf_38 : decode cX9_rateOf 38 = .ok (.aload_n 0, 1) := by decide +kernel
theorem dX9_rateOf_39 : decode cX9_rateOf 39 = .ok (.getfield 7, 3) := by decide +kernel
theorem dX9_rateOf_42 : decode cX9_rateOf 42 = .ok (.sipush 294, 3) := by decide +kernel
theorem dX9_rateOf_45 : decode cX9_rateOf 45 = .ok (.bipush 6, 2) := by decide +kernel
theorem dX9_rateOf_47 : decode cX9_rateOf 47 = .ok (.iload 4, 2) := by decide +kernel
theorem dX9_rateOf_49 : decode cX9_rateOf 49 = .ok (.imul, 1) := by decide +kernel
theorem dX9_rateOf_50 : decode cX9_rateOf 50 = .ok (.iadd, 1) := by decide +kernel
theorem dX9_rateOf_51 : decode cX9_rateOf 51 = .ok (.iload_n 1, 1) := by decide +kernel
theorem dX9_rateOf_52 : decode cX9_rateOf 52 = .ok (.iadd, 1) := by decide +kernel
theorem dX9_rateOf_53 : decode cX9_rateOf 53 = .ok (.iaload, 1) := by decide +kernel
theorem dX9_rateOf_54 : decode cX9_rateOf 54 = .ok (.istore_n 3, 1) := by decide +kernel
theorem dX9_rateOf_55 : decode cX9_rateOf 55 = .ok (.iinc 4 1, 3) := by decide +kernel
theorem dX9_rateOf_58 : decode cX9_rateOf 58 = .ok (.goto (-45), 3) := by decide +kernel
theorem dX9_rateOf_61 : decode cX9_rateOf 61 = .ok (.aload_n 0, 1) := by decide +kernel
theorem dX9_rateOf_62 : decode cX9_rateOf 62 = .ok (.iload_n 1, 1) := by decide +kernel
theorem dX9_rateOf_63 : decode cX9_rateOf 63 = .ok (.iload_n 3, 1) := by decide +kernel
theorem dX9_rateOf_64 : decode cX9_rateOf 64 = .ok (.invokevirtual 243, 3) := by decide +kernel
theorem dX9_rateOf_67 : decode cX9_rateOf 67 = .ok (.ireturn, 1) := by decide +kernel
theorem dX9_rateBy_0 : decode cX9_rateBy 0 = .ok (.iload_n 2, 1) := by decide +kernel
theorem dX9_rateBy_1 : decode cX9_rateBy 1 = .ok (.aload_n 0, 1) := by decide +kernel
theorem dX9_rateBy_2 : decode cX9_rateBy 2 = .ok (.getfield 7, 3) := by decide +kernel
theorem dX9_rateBy_5 : decode cX9_rateBy 5 = .ok (.bipush 26, 2) := by decide +kernel
theorem dX9_rateBy_7 : decode cX9_rateBy 7 = .ok (.iload_n 1, 1) := by decide +kernel
theorem dX9_rateBy_8 : decode cX9_rateBy 8 = .ok (.iadd, 1) := by decide +kernel
theorem dX9_rateBy_9 : decode cX9_rateBy 9 = .ok (.iaload, 1) := by decide +kernel
theorem dX9_rateBy_10 : decode cX9_rateBy 10 = .ok (.isub, 1) := by decide +kernel
theorem dX9_rateBy_11 : decode cX9_rateBy 11 = .ok (.aload_n 0, 1) := by decide +kernel
theorem dX9_rateBy_12 : decode cX9_rateBy 12 = .ok (.getfield 7, 3) := by decide +kernel
theorem dX9_rateBy_15 : decode cX9_rateBy 15 = .ok (.iconst 4, 1) := by decide +kernel
theorem dX9_rateBy_16 : decode cX9_rateBy 16 = .ok (.iaload, 1) := by decide +kernel
theorem dX9_rateBy_17 : decode cX9_rateBy 17 = .ok (.imul, 1) := by decide +kernel
theorem dX9_rateBy_18 : decode cX9_rateBy 18 = .ok (.istore_n 3, 1) := by decide +kernel
theorem dX9_rateBy_19 : decode cX9_rateBy 19 = .ok (.iload_n 3, 1) := by decide +kernel
theorem dX9_rateBy_20 : decode cX9_rateBy 20 = .ok (.bipush 100, 2) := by decide +kernel
theorem dX9_rateBy_22 : decode cX9_rateBy 22 = .ok (.idiv, 1) := by decide +kernel
theorem dX9_rateBy_23 : decode cX9_rateBy 23 = .ok (.istore 4, 2) := by decide +kernel
theorem dX9_rateBy_25 : decode cX9_rateBy 25 = .ok (.iload 4, 2) := by decide +kernel
theorem dX9_rateBy_27 : decode cX9_rateBy 27 = .ok (.bipush 100, 2) := by decide +kernel
theorem dX9_rateBy_29 : decode cX9_rateBy 29 = .ok (.imul, 1) := by decide +kernel
theorem dX9_rateBy_30 : decode cX9_rateBy 30 = .ok (.iload_n 3, 1) := by decide +kernel
theorem dX9_rateBy_31 : decode cX9_rateBy 31 = .ok (.if_icmp .le 6, 3) := by decide +kernel
theorem dX9_rateBy_34 : decode cX9_rateBy 34 = .ok (.iinc 4 (-1), 3) := by decide +kernel
theorem dX9_rateBy_37 : decode cX9_rateBy 37 = .ok (.aload_n 0, 1) := by decide +kernel
theorem dX9_rateBy_38 : decode cX9_rateBy 38 = .ok (.getfield 7, 3) := by decide +kernel
theorem dX9_rateBy_41 : decode cX9_rateBy 41 = .ok (.sipush 288, 3) := by decide +kernel
theorem dX9_rateBy_44 : decode cX9_rateBy 44 = .ok (.iload_n 1, 1) := by decide +kernel
theorem dX9_rateBy_45 : decode cX9_rateBy 45 = .ok (.iadd, 1) := by decide +kernel
theorem dX9_rateBy_46 : decode cX9_rateBy 46 = .ok (.iaload, 1) := by decide +kernel
theorem dX9_rateBy_47 : decode cX9_rateBy 47 = .ok (.iload 4, 2) := by decide +kernel
theorem dX9_rateBy_49 : decode cX9_rateBy 49 = .ok (.iadd, 1) := by decide +kernel
theorem dX9_rateBy_50 : decode cX9_rateBy 50 = .ok (.istore 5, 2) := by decide +kernel
theorem dX9_rateBy_52 : decode cX9_rateBy 52 = .ok (.iload 5, 2) := by decide +kernel
theorem dX9_rateBy_54 : decode cX9_rateBy 54 = .ok (.aload_n 0, 1) := by decide +kernel
theorem dX9_rateBy_55 : decode cX9_rateBy 55 = .ok (.getfield 7, 3) := by decide +kernel
theorem dX9_rateBy_58 : decode cX9_rateBy 58 = .ok (.bipush 20, 2) := by decide +kernel
theorem dX9_rateBy_60 : decode cX9_rateBy 60 = .ok (.iload_n 1, 1) := by decide +kernel
theorem dX9_rateBy_61 : decode cX9_rateBy 61 = .ok (.iadd, 1) := by decide +kernel
theorem dX9_rateBy_62 : decode cX9_rateBy 62 = .ok (.iaload, 1) := by decide +kernel
theorem dX9_rateBy_63 : decode cX9_rateBy 63 = .ok (.if_icmp .ge 15, 3) := by decide +kernel
theorem dX9_rateBy_66 : decode cX9_rateBy 66 = .ok (.aload_n 0, 1) := by decide +kernel
theorem dX9_rateBy_67 : decode cX9_rateBy 67 = .ok (.getfield 7, 3) := by decide +kernel
theorem dX9_rateBy_70 : decode cX9_rateBy 70 = .ok (.bipush 20, 2) := by decide +kernel
theorem dX9_rateBy_72 : decode cX9_rateBy 72 = .ok (.iload_n 1, 1) := by decide +kernel
theorem dX9_rateBy_73 : decode cX9_rateBy 73 = .ok (.iadd, 1) := by decide +kernel
theorem dX9_rateBy_74 : decode cX9_rateBy 74 = .ok (.iaload, 1) := by decide +kernel
theorem dX9_rateBy_75 : decode cX9_rateBy 75 = .ok (.goto 5, 3) := by decide +kernel
theorem dX9_rateBy_78 : decode cX9_rateBy 78 = .ok (.iload 5, 2) := by decide +kernel
theorem dX9_rateBy_80 : decode cX9_rateBy 80 = .ok (.ireturn, 1) := by decide +kernel
theorem dX9_rate_0 : decode cX9_rate 0 = .ok (.aload_n 0, 1) := by decide +kernel
theorem dX9_rate_1 : decode cX9_rate 1 = .ok (.aload_n 0, 1) := by decide +kernel
theorem dX9_rate_2 : decode cX9_rate 2 = .ok (.iload_n 1, 1) := by decide +kernel
theorem dX9_rate_3 : decode cX9_rate 3 = .ok (.invokevirtual 137, 3) := by decide +kernel
theorem dX9_rate_6 : decode cX9_rate 6 = .ok (.ifCond .eq 15, 3) := by decide +kernel
theorem dX9_rate_9 : decode cX9_rate 9 = .ok (.iload_n 2, 1) := by decide +kernel
theorem dX9_rate_10 : decode cX9_rate 10 = .ok (.i2l, 1) := by decide +kernel
theorem dX9_rate_11 : decode cX9_rate 11 = .ok (.lconst 0, 1) := by decide +kernel
theorem dX9_rate_12 : decode cX9_rate 12 = .ok (.ldc2_w 239, 3) := by decide +kernel
theorem dX9_rate_15 : decode cX9_rate 15 = .ok (.invokestatic 74, 3) := by decide +kernel
theorem dX9_rate_18 : decode cX9_rate 18 = .ok (.ifCond .ne 7, 3) := by decide +kernel
theorem dX9_rate_21 : decode cX9_rate 21 = .ok (.iconst 1, 1) := by decide +kernel
theorem dX9_rate_22 : decode cX9_rate 22 = .ok (.goto 18, 3) := by decide +kernel
theorem dX9_rate_25 : decode cX9_rate 25 = .ok (.aload_n 0, 1) := by decide +kernel
theorem dX9_rate_26 : decode cX9_rate 26 = .ok (.getfield 7, 3) := by decide +kernel
theorem dX9_rate_29 : decode cX9_rate 29 = .ok (.iconst 0, 1) := by decide +kernel
theorem dX9_rate_30 : decode cX9_rate 30 = .ok (.iaload, 1) := by decide +kernel
theorem dX9_rate_31 : decode cX9_rate 31 = .ok (.iconst 3, 1) := by decide +kernel
theorem dX9_rate_32 : decode cX9_rate 32 = .ok (.if_icmp .ge 7, 3) := by decide +kernel
theorem dX9_rate_35 : decode cX9_rate 35 = .ok (.iconst 2, 1) := by decide +kernel
theorem dX9_rate_36 : decode cX9_rate 36 = .ok (.goto 4, 3) := by decide +kernel
theorem dX9_rate_39 : decode cX9_rate 39 = .ok (.iconst 0, 1) := by decide +kernel
theorem dX9_rate_40 : decode cX9_rate 40 = .ok (.putfield 33, 3) := by decide +kernel
theorem dX9_rate_43 : decode cX9_rate 43 = .ok (.aload_n 0, 1) := by decide +kernel
theorem dX9_rate_44 : decode cX9_rate 44 = .ok (.getfield 33, 3) := by decide +kernel
theorem dX9_rate_47 : decode cX9_rate 47 = .ok (.ifCond .le 7, 3) := by decide +kernel
theorem dX9_rate_50 : decode cX9_rate 50 = .ok (.iconst 0, 1) := by decide +kernel
theorem dX9_rate_51 : decode cX9_rate 51 = .ok (.goto 9, 3) := by decide +kernel
theorem dX9_rate_54 : decode cX9_rate 54 = .ok (.aload_n 0, 1) := by decide +kernel
theorem dX9_rate_55 : decode cX9_rate 55 = .ok (.iload_n 1, 1) := by decide +kernel
theorem dX9_rate_56 : decode cX9_rate 56 = .ok (.iload_n 2, 1) := by decide +kernel
theorem dX9_rate_57 : decode cX9_rate 57 = .ok (.invokevirtual 246, 3) := by decide +kernel
theorem dX9_rate_60 : decode cX9_rate 60 = .ok (.ireturn, 1) := by decide +kernel
theorem dX9_indexFor_0 : decode cX9_indexFor 0 = .ok (.aload_n 0, 1) := by decide +kernel
theorem dX9_indexFor_1 : decode cX9_indexFor 1 = .ok (.aload_n 0, 1) := by decide +kernel
theorem dX9_indexFor_2 : decode cX9_indexFor 2 = .ok (.iload_n 1, 1) := by decide +kernel
theorem dX9_indexFor_3 : decode cX9_indexFor 3 = .ok (.invokevirtual 137, 3) := by decide +kernel
theorem dX9_indexFor_6 : decode cX9_indexFor 6 = .ok (.ifCond .ne 7, 3) := by decide +kernel
theorem dX9_indexFor_9 : decode cX9_indexFor 9 = .ok (.iconst 1, 1) := by decide +kernel
theorem dX9_indexFor_10 : decode cX9_indexFor 10 = .ok (.goto 34, 3) := by decide +kernel
theorem dX9_indexFor_13 : decode cX9_indexFor 13 = .ok (.iload_n 2, 1) := by decide +kernel
theorem dX9_indexFor_14 : decode cX9_indexFor 14 = .ok (.i2l, 1) := by decide +kernel
theorem dX9_indexFor_15 : decode cX9_indexFor 15 = .ok (.lconst 0, 1) := by decide +kernel
theorem dX9_indexFor_16 : decode cX9_indexFor 16 = .ok (.ldc2_w 188, 3) := by decide +kernel
theorem dX9_indexFor_19 : decode cX9_indexFor 19 = .ok (.invokestatic 74, 3) := by decide +kernel
theorem dX9_indexFor_22 : decode cX9_indexFor 22 = .ok (.ifCond .ne 7, 3) := by decide +kernel
theorem dX9_indexFor_25 : decode cX9_indexFor 25 = .ok (.iconst 2, 1) := by decide +kernel
theorem dX9_indexFor_26 : decode cX9_indexFor 26 = .ok (.goto 18, 3) := by decide +kernel
theorem dX9_indexFor_29 : decode cX9_indexFor 29 = .ok (.aload_n 0, 1) := by decide +kernel
theorem dX9_indexFor_30 : decode cX9_indexFor 30 = .ok (.getfield 7, 3) := by decide +kernel
theorem dX9_indexFor_33 : decode cX9_indexFor 33 = .ok (.iconst 0, 1) := by decide +kernel
theorem dX9_indexFor_34 : decode cX9_indexFor 34 = .ok (.iaload, 1) := by decide +kernel
theorem dX9_indexFor_35 : decode cX9_indexFor 35 = .ok (.iconst 3, 1) := by decide +kernel
theorem dX9_indexFor_36 : decode cX9_indexFor 36 = .ok (.if_icmp .ge 7, 3) := by decide +kernel
theorem dX9_indexFor_39 : decode cX9_indexFor 39 = .ok (.iconst 3, 1) := by decide +kernel
theorem dX9_indexFor_40 : decode cX9_indexFor 40 = .ok (.goto 4, 3) := by decide +kernel
theorem dX9_indexFor_43 : decode cX9_indexFor 43 = .ok (.iconst 0, 1) := by decide +kernel
theorem dX9_indexFor_44 : decode cX9_indexFor 44 = .ok (.putfield 33, 3) := by decide +kernel
theorem dX9_indexFor_47 : decode cX9_indexFor 47 = .ok (.aload_n 0, 1) := by decide +kernel
theorem dX9_indexFor_48 : decode cX9_indexFor 48 = .ok (.getfield 33, 3) := by decide +kernel
theorem dX9_indexFor_51 : decode cX9_indexFor 51 = .ok (.ifCond .le 5, 3) := by decide +kernel
theorem dX9_indexFor_54 : decode cX9_indexFor 54 = .ok (.iconst 0, 1) := by decide +kernel
theorem dX9_indexFor_55 : decode cX9_indexFor 55 = .ok (.ireturn, 1) := by decide +kernel
theorem dX9_indexFor_56 : decode cX9_indexFor 56 = .ok (.iconst 1, 1) := by decide +kernel
theorem dX9_indexFor_57 : decode cX9_indexFor 57 = .ok (.istore_n 3, 1) := by decide +kernel
theorem dX9_indexFor_58 : decode cX9_indexFor 58 = .ok (.iload_n 3, 1) := by decide +kernel
theorem dX9_indexFor_59 : decode cX9_indexFor 59 = .ok (.sipush 10000, 3) := by decide +kernel
theorem dX9_indexFor_62 : decode cX9_indexFor 62 = .ok (.if_icmp .gt 19, 3) := by decide +kernel
theorem dX9_indexFor_65 : decode cX9_indexFor 65 = .ok (.aload_n 0, 1) := by decide +kernel
theorem dX9_indexFor_66 : decode cX9_indexFor 66 = .ok (.iload_n 1, 1) := by decide +kernel
theorem dX9_indexFor_67 : decode cX9_indexFor 67 = .ok (.iload_n 3, 1) := by decide +kernel
theorem dX9_indexFor_68 : decode cX9_indexFor 68 = .ok (.invokevirtual 243, 3) := by decide +kernel
theorem dX9_indexFor_71 : decode cX9_indexFor 71 = .ok (.iload_n 2, 1) := by decide +kernel
theorem dX9_indexFor_72 : decode cX9_indexFor 72 = .ok (.if_icmp .ge 9, 3) := by decide +kernel
theorem dX9_indexFor_75 : decode cX9_indexFor 75 = .ok (.iinc 3 1, 3) := by decide +kernel
theorem dX9_indexFor_78 : decode cX9_indexFor 78 = .ok (.goto (-20), 3) := by decide +kernel
theorem dX9_indexFor_81 : decode cX9_indexFor 81 = .ok (.aload_n 0, 1) := by decide +kernel
theorem dX9_indexFor_82 : decode cX9_indexFor 82 = .ok (.iload_n 3, 1) := by decide +kernel
theorem dX9_indexFor_83 : decode cX9_indexFor 83 = .ok (.sipush 10000, 3) := by decide +kernel
theorem dX9_indexFor_86 : decode cX9_indexFor 86 = .ok (.if_icmp .le 7, 3) := by decide +kernel
theorem dX9_indexFor_89 : decode cX9_indexFor 89 = .ok (.iconst 4, 1) := by decide +kernel
theorem dX9_indexFor_90 : decode cX9_indexFor 90 = .ok (.goto 4, 3) := by decide +kernel
theorem dX9_indexFor_93 : decode cX9_indexFor 93 = .ok (.iconst 0, 1) := by decide +kernel
theorem dX9_indexFor_94 : decode cX9_indexFor 94 = .ok (.putfield 33, 3) := by decide +kernel
theorem dX9_indexFor_97 : decode cX9_indexFor 97 = .ok (.aload_n 0, 1) := by decide +kernel
theorem dX9_indexFor_98 : decode cX9_indexFor 98 = .ok (.getfield 33, 3) := by decide +kernel
theorem dX9_indexFor_101 : decode cX9_indexFor 101 = .ok (.ifCond .le 7, 3) := by decide +kernel
theorem dX9_indexFor_104 : decode cX9_indexFor 104 = .ok (.iconst 0, 1) := by decide +kernel
theorem dX9_indexFor_105 : decode cX9_indexFor 105 = .ok (.goto 4, 3) := by decide +kernel
theorem dX9_indexFor_108 : decode cX9_indexFor 108 = .ok (.iload_n 3, 1) := by decide +kernel
theorem dX9_indexFor_109 : decode cX9_indexFor 109 = .ok (.ireturn, 1) := by decide +kernel
theorem dX9_netOf_0 : decode cX9_netOf 0 = .ok (.iload_n 0, 1) := by decide +kernel
theorem dX9_netOf_1 : decode cX9_netOf 1 = .ok (.bipush 100, 2) := by decide +kernel
theorem dX9_netOf_3 : decode cX9_netOf 3 = .ok (.iload_n 1, 1) := by decide +kernel
theorem dX9_netOf_4 : decode cX9_netOf 4 = .ok (.isub, 1) := by decide +kernel
theorem dX9_netOf_5 : decode cX9_netOf 5 = .ok (.imul, 1) := by decide +kernel
theorem dX9_netOf_6 : decode cX9_netOf 6 = .ok (.bipush 50, 2) := by decide +kernel
theorem dX9_netOf_8 : decode cX9_netOf 8 = .ok (.iadd, 1) := by decide +kernel
theorem dX9_netOf_9 : decode cX9_netOf 9 = .ok (.bipush 100, 2) := by decide +kernel
theorem dX9_netOf_11 : decode cX9_netOf 11 = .ok (.idiv, 1) := by decide +kernel
theorem dX9_netOf_12 : decode cX9_netOf 12 = .ok (.ireturn, 1) := by decide +kernel
theorem dX9_isScaled_0 : decode cX9_isScaled 0 = .ok (.iload_n 0, 1) := by decide +kernel
theorem dX9_isScaled_1 : decode cX9_isScaled 1 = .ok (.i2l, 1) := by decide +kernel
theorem dX9_isScaled_2 : decode cX9_isScaled 2 = .ok (.lconst 1, 1) := by decide +kernel
theorem dX9_isScaled_3 : decode cX9_isScaled 3 = .ok (.ldc2_w 241, 3) := by decide +kernel
theorem dX9_isScaled_6 : decode cX9_isScaled 6 = .ok (.invokestatic 74, 3) := by decide +kernel
theorem dX9_isScaled_9 : decode cX9_isScaled 9 = .ok (.ifCond .eq 19, 3) := by decide +kernel
theorem dX9_isScaled_12 : decode cX9_isScaled 12 = .ok (.iload_n 1, 1) := by decide +kernel
theorem dX9_isScaled_13 : decode cX9_isScaled 13 = .ok (.i2l, 1) := by decide +kernel
theorem dX9_isScaled_14 : decode cX9_isScaled 14 = .ok (.lconst 0, 1) := by decide +kernel
theorem dX9_isScaled_15 : decode cX9_isScaled 15 = .ok (.ldc2_w 205, 3) := by decide +kernel
theorem dX9_isScaled_18 : decode cX9_isScaled 18 = .ok (.invokestatic 74, 3) := by decide +kernel
theorem dX9_isScaled_21 : decode cX9_isScaled 21 = .ok (.ifCond .eq 7, 3) := by decide +kernel
theorem dX9_isScaled_24 : decode cX9_isScaled 24 = .ok (.iconst 1, 1) := by decide +kernel
theorem dX9_isScaled_25 : decode cX9_isScaled 25 = .ok (.goto 4, 3) := by decide +kernel
theorem dX9_isScaled_28 : decode cX9_isScaled 28 = .ok (.iconst 0, 1) := by decide +kernel
theorem dX9_isScaled_29 : decode cX9_isScaled 29 = .ok (.ireturn, 1) := by decide +kernel
theorem dX9_ofLoad_0 : decode cX9_ofLoad 0 = .ok (.aload_n 0, 1) := by decide +kernel
theorem dX9_ofLoad_1 : decode cX9_ofLoad 1 = .ok (.getfield 7, 3) := by decide +kernel
theorem dX9_ofLoad_4 : decode cX9_ofLoad 4 = .ok (.sipush 366, 3) := by decide +kernel
theorem dX9_ofLoad_7 : decode cX9_ofLoad 7 = .ok (.iconst 4, 1) := by decide +kernel
theorem dX9_ofLoad_8 : decode cX9_ofLoad 8 = .ok (.iload_n 1, 1) := by decide +kernel
theorem dX9_ofLoad_9 : decode cX9_ofLoad 9 = .ok (.imul, 1) := by decide +kernel
theorem dX9_ofLoad_10 : decode cX9_ofLoad 10 = .ok (.iadd, 1) := by decide +kernel
theorem dX9_ofLoad_11 : decode cX9_ofLoad 11 = .ok (.iload_n 2, 1) := by decide +kernel
theorem dX9_ofLoad_12 : decode cX9_ofLoad 12 = .ok (.iadd, 1) := by decide +kernel
theorem dX9_ofLoad_13 : decode cX9_ofLoad 13 = .ok (.iaload, 1) := by decide +kernel
theorem dX9_ofLoad_14 : decode cX9_ofLoad 14 = .ok (.ireturn, 1) := by decide +kernel
theorem dX9_scale_0 : decode cX9_scale 0 = .ok (.aload_n 0, 1) := by decide +kernel
theorem dX9_scale_1 : decode cX9_scale 1 = .ok (.aload_n 0, 1) := by decide +kernel
theorem dX9_scale_2 : decode cX9_scale 2 = .ok (.iload_n 1, 1) := by decide +kernel
theorem dX9_scale_3 : decode cX9_scale 3 = .ok (.invokevirtual 137, 3) := by decide +kernel
theorem dX9_scale_6 : decode cX9_scale 6 = .ok (.ifCond .ne 7, 3) := by decide +kernel
theorem dX9_scale_9 : decode cX9_scale 9 = .ok (.iconst 1, 1) := by decide +kernel
theorem dX9_scale_10 : decode cX9_scale 10 = .ok (.goto 42, 3) := by decide +kernel
theorem dX9_scale_13 : decode cX9_scale 13 = .ok (.iload_n 2, 1) := by decide +kernel
theorem dX9_scale_14 : decode cX9_scale 14 = .ok (.iload_n 3, 1) := by decide +kernel
theorem dX9_scale_15 : decode cX9_scale 15 = .ok (.invokestatic 249, 3) := by decide +kernel
theorem dX9_scale_18 : decode cX9_scale 18 = .ok (.ifCond .ne 7, 3) := by decide +kernel
theorem dX9_scale_21 : decode cX9_scale 21 = .ok (.iconst 2, 1) := by decide +kernel
theorem dX9_scale_22 : decode cX9_scale 22 = .ok (.goto 30, 3) := by decide +kernel
theorem dX9_scale_25 : decode cX9_scale 25 = .ok (.aload_n 0, 1) := by decide +kernel
theorem dX9_scale_26 : decode cX9_scale 26 = .ok (.getfield 7, 3) := by decide +kernel
theorem dX9_scale_29 : decode cX9_scale 29 = .ok (.iconst 0, 1) := by decide +kernel
theorem dX9_scale_30 : decode cX9_scale 30 = .ok (.iaload, 1) := by decide +kernel
theorem dX9_scale_31 : decode cX9_scale 31 = .ok (.iconst 3, 1) := by decide +kernel
theorem dX9_scale_32 : decode cX9_scale 32 = .ok (.if_icmp .ne 15, 3) := by decide +kernel
theorem dX9_scale_35 : decode cX9_scale 35 = .ok (.aload_n 0, 1) := by decide +kernel
theorem dX9_scale_36 : decode cX9_scale 36 = .ok (.getfield 7, 3) := by decide +kernel
theorem dX9_scale_39 : decode cX9_scale 39 = .ok (.bipush 14, 2) := by decide +kernel
theorem dX9_scale_41 : decode cX9_scale 41 = .ok (.iaload, 1) := by decide +kernel
theorem dX9_scale_42 : decode cX9_scale 42 = .ok (.bipush 60, 2) := by decide +kernel
theorem dX9_scale_44 : decode cX9_scale 44 = .ok (.if_icmp .ne 7, 3) := by decide +kernel
theorem dX9_scale_47 : decode cX9_scale 47 = .ok (.iconst 3, 1) := by decide +kernel
theorem dX9_scale_48 : decode cX9_scale 48 = .ok (.goto 4, 3) := by decide +kernel
theorem dX9_scale_51 : decode cX9_scale 51 = .ok (.iconst 0, 1) := by decide +kernel
theorem dX9_scale_52 : decode cX9_scale 52 = .ok (.putfield 33, 3) := by decide +kernel
theorem dX9_scale_55 : decode cX9_scale 55 = .ok (.aload_n 0, 1) := by decide +kernel
theorem dX9_scale_56 : decode cX9_scale 56 = .ok (.getfield 33, 3) := by decide +kernel
theorem dX9_scale_59 : decode cX9_scale 59 = .ok (.ifCond .le 5, 3) := by decide +kernel
theorem dX9_scale_62 : decode cX9_scale 62 = .ok (.iconst 0, 1) := by decide +kernel
theorem dX9_scale_63 : decode cX9_scale 63 = .ok (.ireturn, 1) := by decide +kernel
theorem dX9_scale_64 : decode cX9_scale 64 = .ok (.aload_n 0, 1) := by decide +kernel
theorem dX9_scale_65 : decode cX9_scale 65 = .ok (.invokevirtual 128, 3) := by decide +kernel
theorem dX9_scale_68 : decode cX9_scale 68 = .ok (.sipush 366, 3) := by decide +kernel
theorem dX9_scale_71 : decode cX9_scale 71 = .ok (.iconst 4, 1) := by decide +kernel
theorem dX9_scale_72 : decode cX9_scale 72 = .ok (.aload_n 0, 1) := by decide +kernel
theorem dX9_scale_73 : decode cX9_scale 73 = .ok (.getfield 7, 3) := by decide +kernel
theorem dX9_scale_76 : decode cX9_scale 76 = .ok (.bipush 14, 2) := by decide +kernel
theorem dX9_scale_78 : decode cX9_scale 78 = .ok (.iaload, 1) := by decide +kernel
theorem dX9_scale_79 : decode cX9_scale 79 = .ok (.imul, 1) := by decide +kernel
theorem dX9_scale_80 : decode cX9_scale 80 = .ok (.iadd, 1) := by decide +kernel
theorem dX9_scale_81 : decode cX9_scale 81 = .ok (.istore 4, 2) := by decide +kernel
theorem dX9_scale_83 : decode cX9_scale 83 = .ok (.aload_n 0, 1) := by decide +kernel
theorem dX9_scale_84 : decode cX9_scale 84 = .ok (.getfield 7, 3) := by decide +kernel
theorem dX9_scale_87 : decode cX9_scale 87 = .ok (.iload 4, 2) := by decide +kernel
theorem dX9_scale_89 : decode cX9_scale 89 = .ok (.iload_n 1, 1) := by decide +kernel
theorem dX9_scale_90 : decode cX9_scale 90 = .ok (.iastore, 1) := by decide +kernel
theorem dX9_scale_91 : decode cX9_scale 91 = .ok (.aload_n 0, 1) := by decide +kernel
theorem dX9_scale_92 : decode cX9_scale 92 = .ok (.getfield 7, 3) := by decide +kernel
theorem dX9_scale_95 : decode cX9_scale 95 = .ok (.iload 4, 2) := by decide +kernel
theorem dX9_scale_97 : decode cX9_scale 97 = .ok (.iconst 1, 1) := by decide +kernel
theorem dX9_scale_98 : decode cX9_scale 98 = .ok (.iadd, 1) := by decide +kernel
theorem dX9_scale_99 : decode cX9_scale 99 = .ok (.aload_n 0, 1) := by decide +kernel
theorem dX9_scale_100 : decode cX9_scale 100 = .ok (.getfield 7, 3) := by decide +kernel
theorem dX9_scale_103 : decode cX9_scale 103 = .ok (.bipush 13, 2) := by decide +kernel
theorem dX9_scale_105 : decode cX9_scale 105 = .ok (.iaload, 1) := by decide +kernel
theorem dX9_scale_106 : decode cX9_scale 106 = .ok (.iastore, 1) := by decide +kernel
theorem dX9_scale_107 : decode cX9_scale 107 = .ok (.aload_n 0, 1) := by decide +kernel
theorem dX9_scale_108 : decode cX9_scale 108 = .ok (.getfield 7, 3) := by decide +kernel
theorem dX9_scale_111 : decode cX9_scale 111 = .ok (.iload 4, 2) := by decide +kernel
theorem dX9_scale_113 : decode cX9_scale 113 = .ok (.iconst 2, 1) := by decide +kernel
theorem dX9_scale_114 : decode cX9_scale 114 = .ok (.iadd, 1) := by decide +kernel
theorem dX9_scale_115 : decode cX9_scale 115 = .ok (.iload_n 2, 1) := by decide +kernel
theorem dX9_scale_116 : decode cX9_scale 116 = .ok (.iload_n 3, 1) := by decide +kernel
theorem dX9_scale_117 : decode cX9_scale 117 = .ok (.invokestatic 252, 3) := by decide +kernel
theorem dX9_scale_120 : decode cX9_scale 120 = .ok (.iastore, 1) := by decide +kernel
theorem dX9_scale_121 : decode cX9_scale 121 = .ok (.aload_n 0, 1) := by decide +kernel
theorem dX9_scale_122 : decode cX9_scale 122 = .ok (.getfield 7, 3) := by decide +kernel
theorem dX9_scale_125 : decode cX9_scale 125 = .ok (.iload 4, 2) := by decide +kernel
theorem dX9_scale_127 : decode cX9_scale 127 = .ok (.iconst 3, 1) := by decide +kernel
theorem dX9_scale_128 : decode cX9_scale 128 = .ok (.iadd, 1) := by decide +kernel
theorem dX9_scale_129 : decode cX9_scale 129 = .ok (.iconst (-1), 1) := by decide +kernel
theorem dX9_scale_130 : decode cX9_scale 130 = .ok (.iastore, 1) := by decide +kernel
theorem dX9_scale_131 : decode cX9_scale 131 = .ok (.aload_n 0, 1) := by decide +kernel
theorem dX9_scale_132 : decode cX9_scale 132 = .ok (.getfield 7, 3) := by decide +kernel
theorem dX9_scale_135 : decode cX9_scale 135 = .ok (.bipush 14, 2) := by decide +kernel
theorem dX9_scale_137 : decode cX9_scale 137 = .ok (.dup2, 1) := by decide +kernel
theorem dX9_scale_138 : decode cX9_scale 138 = .ok (.iaload, 1) := by decide +kernel
theorem dX9_scale_139 : decode cX9_scale 139 = .ok (.iconst 1, 1) := by decide +kernel
theorem dX9_scale_140 : decode cX9_scale 140 = .ok (.iadd, 1) := by decide +kernel
theorem dX9_scale_141 : decode cX9_scale 141 = .ok (.iastore, 1) := by decide +kernel
theorem dX9_scale_142 : decode cX9_scale 142 = .ok (.aload_n 0, 1) := by decide +kernel
theorem dX9_scale_143 : decode cX9_scale 143 = .ok (.getfield 7, 3) := by decide +kernel
theorem dX9_scale_146 : decode cX9_scale 146 = .ok (.bipush 14, 2) := by decide +kernel
theorem dX9_scale_148 : decode cX9_scale 148 = .ok (.iaload, 1) := by decide +kernel
theorem dX9_scale_149 : decode cX9_scale 149 = .ok (.iconst 1, 1) := by decide +kernel
theorem dX9_scale_150 : decode cX9_scale 150 = .ok (.isub, 1) := by decide +kernel
theorem dX9_scale_151 : decode cX9_scale 151 = .ok (.ireturn, 1) := by decide +kernel
theorem dX9_isLoad_0 : decode cX9_isLoad 0 = .ok (.iload_n 1, 1) := by decide +kernel
theorem dX9_isLoad_1 : decode cX9_isLoad 1 = .ok (.i2l, 1) := by decide +kernel
theorem dX9_isLoad_2 : decode cX9_isLoad 2 = .ok (.lconst 0, 1) := by decide +kernel
theorem dX9_isLoad_3 : decode cX9_isLoad 3 = .ok (.aload_n 0, 1) := by decide +kernel
theorem dX9_isLoad_4 : decode cX9_isLoad 4 = .ok (.getfield 7, 3) := by decide +kernel
theorem dX9_isLoad_7 : decode cX9_isLoad 7 = .ok (.bipush 14, 2) := by decide +kernel
theorem dX9_isLoad_9 : decode cX9_isLoad 9 = .ok (.iaload, 1) := by decide +kernel
theorem dX9_isLoad_10 : decode cX9_isLoad 10 = .ok (.iconst 1, 1) := by decide +kernel
theorem dX9_isLoad_11 : decode cX9_isLoad 11 = .ok (.isub, 1) := by decide +kernel
theorem dX9_isLoad_12 : decode cX9_isLoad 12 = .ok (.i2l, 1) := by decide +kernel
theorem dX9_isLoad_13 : decode cX9_isLoad 13 = .ok (.invokestatic 74, 3) := by decide +kernel
theorem dX9_isLoad_16 : decode cX9_isLoad 16 = .ok (.ireturn, 1) := by decide +kernel
theorem dX9_check_0 : decode cX9_check 0 = .ok (.aload_n 0, 1) := by decide +kernel
theorem dX9_check_1 : decode cX9_check 1 = .ok (.aload_n 0, 1) := by decide +kernel
theorem dX9_check_2 : decode cX9_check 2 = .ok (.iload_n 1, 1) := by decide +kernel
theorem dX9_check_3 : decode cX9_check 3 = .ok (.invokevirtual 255, 3) := by decide +kernel
theorem dX9_check_6 : decode cX9_check 6 = .ok (.ifCond .ne 7, 3) := by decide +kernel
theorem dX9_check_9 : decode cX9_check 9 = .ok (.iconst 1, 1) := by decide +kernel
theorem dX9_check_10 : decode cX9_check 10 = .ok (.goto 40, 3) := by decide +kernel
theorem dX9_check_13 : decode cX9_check 13 = .ok (.iload_n 2, 1) := by decide +kernel
theorem dX9_check_14 : decode cX9_check 14 = .ok (.iload_n 3, 1) := by decide +kernel
theorem dX9_check_15 : decode cX9_check 15 = .ok (.invokestatic 249, 3) := by decide +kernel
theorem dX9_check_18 : decode cX9_check 18 = .ok (.ifCond .ne 7, 3) := by decide +kernel
theorem dX9_check_21 : decode cX9_check 21 = .ok (.iconst 2, 1) := by decide +kernel
theorem dX9_check_22 : decode cX9_check 22 = .ok (.goto 28, 3) := by decide +kernel
theorem dX9_check_25 : decode cX9_check 25 = .ok (.aload_n 0, 1) := by decide +kernel
theorem dX9_check_26 : decode cX9_check 26 = .ok (.getfield 7, 3) := by decide +kernel
theorem dX9_check_29 : decode cX9_check 29 = .ok (.iconst 0, 1) := by decide +kernel
theorem dX9_check_30 : decode cX9_check 30 = .ok (.iaload, 1) := by decide +kernel
theorem dX9_check_31 : decode cX9_check 31 = .ok (.iconst 3, 1) := by decide +kernel
theorem dX9_check_32 : decode cX9_check 32 = .ok (.if_icmp .ne 13, 3) := by decide +kernel
theorem dX9_check_35 : decode cX9_check 35 = .ok (.aload_n 0, 1) := by decide +kernel
theorem dX9_check_36 : decode cX9_check 36 = .ok (.iload_n 1, 1) := by decide +kernel
theorem dX9_check_37 : decode cX9_check 37 = .ok (.iconst 3, 1) := by decide +kernel
theorem dX9_check_38 : decode cX9_check 38 = .ok (.invokevirtual 258, 3) := by decide +kernel
theorem dX9_check_41 : decode cX9_check 41 = .ok (.iconst (-1), 1) := by decide +kernel
theorem dX9_check_42 : decode cX9_check 42 = .ok (.if_icmp .eq 7, 3) := by decide +kernel
theorem dX9_check_45 : decode cX9_check 45 = .ok (.iconst 3, 1) := by decide +kernel
theorem dX9_check_46 : decode cX9_check 46 = .ok (.goto 4, 3) := by decide +kernel
theorem dX9_check_49 : decode cX9_check 49 = .ok (.iconst 0, 1) := by decide +kernel
theorem dX9_check_50 : decode cX9_check 50 = .ok (.putfield 33, 3) := by decide +kernel
theorem dX9_check_53 : decode cX9_check 53 = .ok (.aload_n 0, 1) := by decide +kernel
theorem dX9_check_54 : decode cX9_check 54 = .ok (.getfield 33, 3) := by decide +kernel
theorem dX9_check_57 : decode cX9_check 57 = .ok (.ifCond .le 5, 3) := by decide +kernel
theorem dX9_check_60 : decode cX9_check 60 = .ok (.iconst 0, 1) := by decide +kernel
theorem dX9_check_61 : decode cX9_check 61 = .ok (.ireturn, 1) := by decide +kernel
theorem dX9_check_62 : decode cX9_check 62 = .ok (.aload_n 0, 1) := by decide +kernel
theorem dX9_check_63 : decode cX9_check 63 = .ok (.invokevirtual 128, 3) := by decide +kernel
theorem dX9_check_66 : decode cX9_check 66 = .ok (.aload_n 0, 1) := by decide +kernel
theorem dX9_check_67 : decode cX9_check 67 = .ok (.getfield 7, 3) := by decide +kernel
theorem dX9_check_70 : decode cX9_check 70 = .ok (.sipush 366, 3) := by decide +kernel
theorem dX9_check_73 : decode cX9_check 73 = .ok (.iconst 4, 1) := by decide +kernel
theorem dX9_check_74 : decode cX9_check 74 = .ok (.iload_n 1, 1) := by decide +kernel
theorem dX9_check_75 : decode cX9_check 75 = .ok (.imul, 1) := by decide +kernel
theorem dX9_check_76 : decode cX9_check 76 = .ok (.iadd, 1) := by decide +kernel
theorem dX9_check_77 : decode cX9_check 77 = .ok (.iconst 3, 1) := by decide +kernel
theorem dX9_check_78 : decode cX9_check 78 = .ok (.iadd, 1) := by decide +kernel
theorem dX9_check_79 : decode cX9_check 79 = .ok (.iload_n 2, 1) := by decide +kernel
theorem dX9_check_80 : decode cX9_check 80 = .ok (.iload_n 3, 1) := by decide +kernel
theorem dX9_check_81 : decode cX9_check 81 = .ok (.invokestatic 252, 3) := by decide +kernel
theorem dX9_check_84 : decode cX9_check 84 = .ok (.iastore, 1) := by decide +kernel
theorem dX9_check_85 : decode cX9_check 85 = .ok (.aload_n 0, 1) := by decide +kernel
theorem dX9_check_86 : decode cX9_check 86 = .ok (.iload_n 1, 1) := by decide +kernel
theorem dX9_check_87 : decode cX9_check 87 = .ok (.iconst 3, 1) := by decide +kernel
theorem dX9_check_88 : decode cX9_check 88 = .ok (.invokevirtual 258, 3) := by decide +kernel
theorem dX9_check_91 : decode cX9_check 91 = .ok (.aload_n 0, 1) := by decide +kernel
theorem dX9_check_92 : decode cX9_check 92 = .ok (.iload_n 1, 1) := by decide +kernel
theorem dX9_check_93 : decode cX9_check 93 = .ok (.iconst 2, 1) := by decide +kernel
theorem dX9_check_94 : decode cX9_check 94 = .ok (.invokevirtual 258, 3) := by decide +kernel
theorem dX9_check_97 : decode cX9_check 97 = .ok (.isub, 1) := by decide +kernel
theorem dX9_check_98 : decode cX9_check 98 = .ok (.ireturn, 1) := by decide +kernel
theorem dX9_net_0 : decode cX9_net 0 = .ok (.aload_n 0, 1) := by decide +kernel
theorem dX9_net_1 : decode cX9_net 1 = .ok (.aload_n 0, 1) := by decide +kernel
theorem dX9_net_2 : decode cX9_net 2 = .ok (.iload_n 1, 1) := by decide +kernel
theorem dX9_net_3 : decode cX9_net 3 = .ok (.invokevirtual 255, 3) := by decide +kernel
theorem dX9_net_6 : decode cX9_net 6 = .ok (.ifCond .eq 7, 3) := by decide +kernel
theorem dX9_net_9 : decode cX9_net 9 = .ok (.iconst 0, 1) := by decide +kernel
theorem dX9_net_10 : decode cX9_net 10 = .ok (.goto 4, 3) := by decide +kernel
theorem dX9_net_13 : decode cX9_net 13 = .ok (.iconst 1, 1) := by decide +kernel
theorem dX9_net_14 : decode cX9_net 14 = .ok (.putfield 33, 3) := by decide +kernel
theorem dX9_net_17 : decode cX9_net 17 = .ok (.aload_n 0, 1) := by decide +kernel
theorem dX9_net_18 : decode cX9_net 18 = .ok (.getfield 33, 3) := by decide +kernel
theorem dX9_net_21 : decode cX9_net 21 = .ok (.ifCond .le 7, 3) := by decide +kernel
theorem dX9_net_24 : decode cX9_net 24 = .ok (.iconst 0, 1) := by decide +kernel
theorem dX9_net_25 : decode cX9_net 25 = .ok (.goto 9, 3) := by decide +kernel
theorem dX9_net_28 : decode cX9_net 28 = .ok (.aload_n 0, 1) := by decide +kernel
theorem dX9_net_29 : decode cX9_net 29 = .ok (.iload_n 1, 1) := by decide +kernel
theorem dX9_net_30 : decode cX9_net 30 = .ok (.iconst 2, 1) := by decide +kernel
theorem dX9_net_31 : decode cX9_net 31 = .ok (.invokevirtual 258, 3) := by decide +kernel
theorem dX9_net_34 : decode cX9_net 34 = .ok (.ireturn, 1) := by decide +kernel
theorem dX9_voidLoad_0 : decode cX9_voidLoad 0 = .ok (.aload_n 0, 1) := by decide +kernel
theorem dX9_voidLoad_1 : decode cX9_voidLoad 1 = .ok (.aload_n 0, 1) := by decide +kernel
theorem dX9_voidLoad_2 : decode cX9_voidLoad 2 = .ok (.iload_n 1, 1) := by decide +kernel
theorem dX9_voidLoad_3 : decode cX9_voidLoad 3 = .ok (.invokevirtual 255, 3) := by decide +kernel
theorem dX9_voidLoad_6 : decode cX9_voidLoad 6 = .ok (.ifCond .ne 7, 3) := by decide +kernel
theorem dX9_voidLoad_9 : decode cX9_voidLoad 9 = .ok (.iconst 1, 1) := by decide +kernel
theorem dX9_voidLoad_10 : decode cX9_voidLoad 10 = .ok (.goto 44, 3) := by decide +kernel
theorem dX9_voidLoad_13 : decode cX9_voidLoad 13 = .ok (.aload_n 0, 1) := by decide +kernel
theorem dX9_voidLoad_14 : decode cX9_voidLoad 14 = .ok (.getfield 7, 3) := by decide +kernel
theorem dX9_voidLoad_17 : decode cX9_voidLoad 17 = .ok (.iconst 0, 1) := by decide +kernel
theorem dX9_voidLoad_18 : decode cX9_voidLoad 18 = .ok (.iaload, 1) := by decide +kernel
theorem dX9_voidLoad_19 : decode cX9_voidLoad 19 = .ok (.iconst 3, 1) := by decide +kernel
theorem dX9_voidLoad_20 : decode cX9_voidLoad 20 = .ok (.if_icmp .ne 29, 3) := by decide +kernel
theorem dX9_voidLoad_23 : decode cX9_voidLoad 23 = .ok (.aload_n 0, 1) := by decide +kernel
theorem dX9_voidLoad_24 : decode cX9_voidLoad 24 = .ok (.iload_n 1, 1) := by decide +kernel
theorem dX9_voidLoad_25 : decode cX9_voidLoad 25 = .ok (.iconst 1, 1) := by decide +kernel
theorem dX9_voidLoad_26 : decode cX9_voidLoad 26 = .ok (.invokevirtual 258, 3) := by decide +kernel
theorem dX9_voidLoad_29 : decode cX9_voidLoad 29 = .ok (.aload_n 0, 1) := by decide +kernel
theorem dX9_voidLoad_30 : decode cX9_voidLoad 30 = .ok (.getfield 7, 3) := by decide +kernel
theorem dX9_voidLoad_33 : decode cX9_voidLoad 33 = .ok (.bipush 13, 2) := by decide +kernel
theorem dX9_voidLoad_35 : decode cX9_voidLoad 35 = .ok (.iaload, 1) := by decide +kernel
theorem dX9_voidLoad_36 : decode cX9_voidLoad 36 = .ok (.if_icmp .ne 13, 3) := by decide +kernel
theorem dX9_voidLoad_39 : decode cX9_voidLoad 39 = .ok (.aload_n 0, 1) := by decide +kernel
theorem dX9_voidLoad_40 : decode cX9_voidLoad 40 = .ok (.iload_n 1, 1) := by decide +kernel
theorem dX9_voidLoad_41 : decode cX9_voidLoad 41 = .ok (.iconst 3, 1) := by decide +kernel
theorem dX9_voidLoad_42 : decode cX9_voidLoad 42 = .ok (.invokevirtual 258, 3) := by decide +kernel
theorem dX9_voidLoad_45 : decode cX9_voidLoad 45 = .ok (.iconst (-1), 1) := by decide +kernel
theorem dX9_voidLoad_46 : decode cX9_voidLoad 46 = .ok (.if_icmp .eq 7, 3) := by decide +kernel
theorem dX9_voidLoad_49 : decode cX9_voidLoad 49 = .ok (.iconst 2, 1) := by decide +kernel
theorem dX9_voidLoad_50 : decode cX9_voidLoad 50 = .ok (.goto 4, 3) := by decide +kernel
theorem dX9_voidLoad_53 : decode cX9_voidLoad 53 = .ok (.iconst 0, 1) := by decide +kernel
theorem dX9_voidLoad_54 : decode cX9_voidLoad 54 = .ok (.putfield 33, 3) := by decide +kernel
theorem dX9_voidLoad_57 : decode cX9_voidLoad 57 = .ok (.aload_n 0, 1) := by decide +kernel
theorem dX9_voidLoad_58 : decode cX9_voidLoad 58 = .ok (.getfield 33, 3) := by decide +kernel
theorem dX9_voidLoad_61 : decode cX9_voidLoad 61 = .ok (.ifCond .le 5, 3) := by decide +kernel
theorem dX9_voidLoad_64 : decode cX9_voidLoad 64 = .ok (.iconst 0, 1) := by decide +kernel
theorem dX9_voidLoad_65 : decode cX9_voidLoad 65 = .ok (.ireturn, 1) := by decide +kernel
theorem dX9_voidLoad_66 : decode cX9_voidLoad 66 = .ok (.aload_n 0, 1) := by decide +kernel
theorem dX9_voidLoad_67 : decode cX9_voidLoad 67 = .ok (.invokevirtual 128, 3) := by decide +kernel
theorem dX9_voidLoad_70 : decode cX9_voidLoad 70 = .ok (.aload_n 0, 1) := by decide +kernel
theorem dX9_voidLoad_71 : decode cX9_voidLoad 71 = .ok (.getfield 7, 3) := by decide +kernel
theorem dX9_voidLoad_74 : decode cX9_voidLoad 74 = .ok (.bipush 14, 2) := by decide +kernel
theorem dX9_voidLoad_76 : decode cX9_voidLoad 76 = .ok (.dup2, 1) := by decide +kernel
theorem dX9_voidLoad_77 : decode cX9_voidLoad 77 = .ok (.iaload, 1) := by decide +kernel
theorem dX9_voidLoad_78 : decode cX9_voidLoad 78 = .ok (.iconst 1, 1) := by decide +kernel
theorem dX9_voidLoad_79 : decode cX9_voidLoad 79 = .ok (.isub, 1) := by decide +kernel
theorem dX9_voidLoad_80 : decode cX9_voidLoad 80 = .ok (.iastore, 1) := by decide +kernel
theorem dX9_voidLoad_81 : decode cX9_voidLoad 81 = .ok (.iconst 4, 1) := by decide +kernel
theorem dX9_voidLoad_82 : decode cX9_voidLoad 82 = .ok (.iload_n 1, 1) := by decide +kernel
theorem dX9_voidLoad_83 : decode cX9_voidLoad 83 = .ok (.imul, 1) := by decide +kernel
theorem dX9_voidLoad_84 : decode cX9_voidLoad 84 = .ok (.istore_n 2, 1) := by decide +kernel
theorem dX9_voidLoad_85 : decode cX9_voidLoad 85 = .ok (.iload_n 2, 1) := by decide +kernel
theorem dX9_voidLoad_86 : decode cX9_voidLoad 86 = .ok (.iconst 4, 1) := by decide +kernel
theorem dX9_voidLoad_87 : decode cX9_voidLoad 87 = .ok (.aload_n 0, 1) := by decide +kernel
theorem dX9_voidLoad_88 : decode cX9_voidLoad 88 = .ok (.getfield 7, 3) := by decide +kernel
theorem dX9_voidLoad_91 : decode cX9_voidLoad 91 = .ok (.bipush 14, 2) := by decide +kernel
theorem dX9_voidLoad_93 : decode cX9_voidLoad 93 = .ok (.iaload, 1) := by decide +kernel
theorem dX9_voidLoad_94 : decode cX9_voidLoad 94 = .ok (.imul, 1) := by decide +kernel
theorem dX9_voidLoad_95 : decode cX9_voidLoad 95 = .ok (.if_icmp .ge 31, 3) := by decide +kernel
theorem dX9_voidLoad_98 : decode cX9_voidLoad 98 = .ok (.aload_n 0, 1) := by decide +kernel
theorem dX9_voidLoad_99 : decode cX9_voidLoad 99 = .ok (.getfield 7, 3) := by decide +kernel
theorem dX9_voidLoad_102 : decode cX9_voidLoad 102 = .ok (.sipush 366, 3) := by decide +kernel
theorem dX9_voidLoad_105 : decode cX9_voidLoad 105 = .ok (.iload_n 2, 1) := by decide +kernel
theorem dX9_voidLoad_106 : decode cX9_voidLoad 106 = .ok (.iadd, 1) := by decide +kernel
theorem dX9_voidLoad_107 : decode cX9_voidLoad 107 = .ok (.aload_n 0, 1) := by decide +kernel
theorem dX9_voidLoad_108 : decode cX9_voidLoad 108 = .ok (.getfield 7, 3) := by decide +kernel
theorem dX9_voidLoad_111 : decode cX9_voidLoad 111 = .ok (.sipush 366, 3) := by decide +kernel
theorem dX9_voidLoad_114 : decode cX9_voidLoad 114 = .ok (.iload_n 2, 1) := by decide +kernel
theorem dX9_voidLoad_115 : decode cX9_voidLoad 115 = .ok (.iadd, 1) := by decide +kernel
theorem dX9_voidLoad_116 : decode cX9_voidLoad 116 = .ok (.iconst 4, 1) := by decide +kernel
theorem dX9_voidLoad_117 : decode cX9_voidLoad 117 = .ok (.iadd, 1) := by decide +kernel
theorem dX9_voidLoad_118 : decode cX9_voidLoad 118 = .ok (.iaload, 1) := by decide +kernel
theorem dX9_voidLoad_119 : decode cX9_voidLoad 119 = .ok (.iastore, 1) := by decide +kernel
theorem dX9_voidLoad_120 : decode cX9_voidLoad 120 = .ok (.iinc 2 1, 3) := by decide +kernel
theorem dX9_voidLoad_123 : decode cX9_voidLoad 123 = .ok (.goto (-38), 3) := by decide +kernel
theorem dX9_voidLoad_126 : decode cX9_voidLoad 126 = .ok (.aload_n 0, 1) := by decide +kernel
theorem dX9_voidLoad_127 : decode cX9_voidLoad 127 = .ok (.getfield 7, 3) := by decide +kernel
theorem dX9_voidLoad_130 : decode cX9_voidLoad 130 = .ok (.bipush 14, 2) := by decide +kernel
theorem dX9_voidLoad_132 : decode cX9_voidLoad 132 = .ok (.iaload, 1) := by decide +kernel
theorem dX9_voidLoad_133 : decode cX9_voidLoad 133 = .ok (.ireturn, 1) := by decide +kernel
theorem dX9_apart_0 : decode cX9_apart 0 = .ok (.aload_n 0, 1) := by decide +kernel
theorem dX9_apart_1 : decode cX9_apart 1 = .ok (.iload_n 1, 1) := by decide +kernel
theorem dX9_apart_2 : decode cX9_apart 2 = .ok (.iconst 3, 1) := by decide +kernel
theorem dX9_apart_3 : decode cX9_apart 3 = .ok (.invokevirtual 258, 3) := by decide +kernel
theorem dX9_apart_6 : decode cX9_apart 6 = .ok (.aload_n 0, 1) := by decide +kernel
theorem dX9_apart_7 : decode cX9_apart 7 = .ok (.iload_n 1, 1) := by decide +kernel
theorem dX9_apart_8 : decode cX9_apart 8 = .ok (.iconst 2, 1) := by decide +kernel
theorem dX9_apart_9 : decode cX9_apart 9 = .ok (.invokevirtual 258, 3) := by decide +kernel
theorem dX9_apart_12 : decode cX9_apart 12 = .ok (.isub, 1) := by decide +kernel
theorem dX9_apart_13 : decode cX9_apart 13 = .ok (.istore_n 2, 1) := by decide +kernel
theorem dX9_apart_14 : decode cX9_apart 14 = .ok (.iload_n 2, 1) := by decide +kernel
theorem dX9_apart_15 : decode cX9_apart 15 = .ok (.ifCond .ge 8, 3) := by decide +kernel
theorem dX9_apart_18 : decode cX9_apart 18 = .ok (.iload_n 2, 1) := by decide +kernel
theorem dX9_apart_19 : decode cX9_apart 19 = .ok (.ineg, 1) := by decide +kernel
theorem dX9_apart_20 : decode cX9_apart 20 = .ok (.goto 4, 3) := by decide +kernel
theorem dX9_apart_23 : decode cX9_apart 23 = .ok (.iload_n 2, 1) := by decide +kernel
theorem dX9_apart_24 : decode cX9_apart 24 = .ok (.ireturn, 1) := by decide +kernel
theorem dX9_worstCheck_0 : decode cX9_worstCheck 0 = .ok (.iconst (-1), 1) := by decide +kernel
theorem dX9_worstCheck_1 : decode cX9_worstCheck 1 = .ok (.istore_n 1, 1) := by decide +kernel
theorem dX9_worstCheck_2 : decode cX9_worstCheck 2 = .ok (.iconst 0, 1) := by decide +kernel
theorem dX9_worstCheck_3 : decode cX9_worstCheck 3 = .ok (.istore_n 2, 1) := by decide +kernel
theorem dX9_worstCheck_4 : decode cX9_worstCheck 4 = .ok (.iload_n 2, 1) := by decide +kernel
theorem dX9_worstCheck_5 : decode cX9_worstCheck 5 = .ok (.aload_n 0, 1) := by decide +kernel
theorem dX9_worstCheck_6 : decode cX9_worstCheck 6 = .ok (.getfield 7, 3) := by decide +kernel
theorem dX9_worstCheck_9 : decode cX9_worstCheck 9 = .ok (.bipush 14, 2) := by decide +kernel
theorem dX9_worstCheck_11 : decode cX9_worstCheck 11 = .ok (.iaload, 1) := by decide +kernel
theorem dX9_worstCheck_12 : decode cX9_worstCheck 12 = .ok (.if_icmp .ge 70, 3) := by decide +kernel
theorem dX9_worstCheck_15 : decode cX9_worstCheck 15 = .ok (.aload_n 0, 1) := by decide +kernel
theorem dX9_worstCheck_16 : decode cX9_worstCheck 16 = .ok (.iload_n 2, 1) := by decide +kernel
theorem dX9_worstCheck_17 : decode cX9_worstCheck 17 = .ok (.iconst 3, 1) := by decide +kernel
theorem dX9_worstCheck_18 : decode cX9_worstCheck 18 = .ok (.invokevirtual 258, 3) := by decide +kernel
theorem dX9_worstCheck_21 : decode cX9_worstCheck 21 = .ok (.iconst (-1), 1) := by decide +kernel
theorem dX9_worstCheck_22 : decode cX9_worstCheck 22 = .ok (.if_icmp .eq 54, 3) := by decide +kernel
theorem dX9_worstCheck_25 : decode cX9_worstCheck 25 = .ok (.aload_n 0, 1) := by decide +kernel
theorem dX9_worstCheck_26 : decode cX9_worstCheck 26 = .ok (.iload_n 2, 1) := by decide +kernel
theorem dX9_worstCheck_27 : decode cX9_worstCheck 27 = .ok (.iconst 2, 1) := by decide +kernel
theorem dX9_worstCheck_28 : decode cX9_worstCheck 28 = .ok (.invokevirtual 258, 3) := by decide +kernel
theorem dX9_worstCheck_31 : decode cX9_worstCheck 31 = .ok (.ifCond .ne 6, 3) := by decide +kernel
theorem dX9_worstCheck_34 : decode cX9_worstCheck 34 = .ok (.goto 42, 3) := by decide +kernel
theorem dX9_worstCheck_37 : decode cX9_worstCheck 37 = .ok (.iload_n 1, 1) := by decide +kernel
theorem dX9_worstCheck_38 : decode cX9_worstCheck 38 = .ok (.iconst (-1), 1) := by decide +kernel
theorem dX9_worstCheck_39 : decode cX9_worstCheck 39 = .ok (.if_icmp .eq 35, 3) := by decide +kernel
theorem dX9_worstCheck_42 : decode cX9_worstCheck 42 = .ok (.aload_n 0, 1) := by decide +kernel
theorem dX9_worstCheck_43 : decode cX9_worstCheck 43 = .ok (.iload_n 2, 1) := by decide +kernel
theorem dX9_worstCheck_44 : decode cX9_worstCheck 44 = .ok (.invokevirtual 261, 3) := by decide +kernel
theorem dX9_worstCheck_47 : decode cX9_worstCheck 47 = .ok (.i2l, 1) := by decide +kernel
theorem dX9_worstCheck_48 : decode cX9_worstCheck 48 = .ok (.aload_n 0, 1) := by decide +kernel
theorem dX9_worstCheck_49 : decode cX9_worstCheck 49 = .ok (.iload_n 1, 1) := by decide +kernel
theorem dX9_worstCheck_50 : decode cX9_worstCheck 50 = .ok (.iconst 2, 1) := by decide +kernel
theorem dX9_worstCheck_51 : decode cX9_worstCheck 51 = .ok (.invokevirtual 258, 3) := by decide +kernel
theorem dX9_worstCheck_54 : decode cX9_worstCheck 54 = .ok (.i2l, 1) := by decide +kernel
theorem dX9_worstCheck_55 : decode cX9_worstCheck 55 = .ok (.lmul, 1) := by decide +kernel
theorem dX9_worstCheck_56 : decode cX9_worstCheck 56 = .ok (.aload_n 0, 1) := by decide +kernel
theorem dX9_worstCheck_57 : decode cX9_worstCheck 57 = .ok (.iload_n 1, 1) := by decide +kernel
theorem dX9_worstCheck_58 : decode cX9_worstCheck 58 = .ok (.invokevirtual 261, 3) := by decide +kernel
theorem dX9_worstCheck_61 : decode cX9_worstCheck 61 = .ok (.i2l, 1) := by decide +kernel
theorem dX9_worstCheck_62 : decode cX9_worstCheck 62 = .ok (.aload_n 0, 1) := by decide +kernel
theorem dX9_worstCheck_63 : decode cX9_worstCheck 63 = .ok (.iload_n 2, 1) := by decide +kernel
theorem dX9_worstCheck_64 : decode cX9_worstCheck 64 = .ok (.iconst 2, 1) := by decide +kernel
theorem dX9_worstCheck_65 : decode cX9_worstCheck 65 = .ok (.invokevirtual 258, 3) := by decide +kernel
theorem dX9_worstCheck_68 : decode cX9_worstCheck 68 = .ok (.i2l, 1) := by decide +kernel
theorem dX9_worstCheck_69 : decode cX9_worstCheck 69 = .ok (.lmul, 1) := by decide +kernel
theorem dX9_worstCheck_70 : decode cX9_worstCheck 70 = .ok (.lcmp, 1) := by decide +kernel
theorem dX9_worstCheck_71 : decode cX9_worstCheck 71 = .ok (.ifCond .le 5, 3) := by decide +kernel
theorem dX9_worstCheck_74 : decode cX9_worstCheck 74 = .ok (.iload_n 2, 1) := by decide +kernel
theorem dX9_worstCheck_75 : decode cX9_worstCheck 75 = .ok (.istore_n 1, 1) := by decide +kernel
theorem dX9_worstCheck_76 : decode cX9_worstCheck 76 = .ok (.iinc 2 1, 3) := by decide +kernel
theorem dX9_worstCheck_79 : decode cX9_worstCheck 79 = .ok (.goto (-75), 3) := by decide +kernel
theorem dX9_worstCheck_82 : decode cX9_worstCheck 82 = .ok (.aload_n 0, 1) := by decide +kernel
theorem dX9_worstCheck_83 : decode cX9_worstCheck 83 = .ok (.iload_n 1, 1) := by decide +kernel
theorem dX9_worstCheck_84 : decode cX9_worstCheck 84 = .ok (.iconst (-1), 1) := by decide +kernel
theorem dX9_worstCheck_85 : decode cX9_worstCheck 85 = .ok (.if_icmp .ne 7, 3) := by decide +kernel
theorem dX9_worstCheck_88 : decode cX9_worstCheck 88 = .ok (.iconst 1, 1) := by decide +kernel
theorem dX9_worstCheck_89 : decode cX9_worstCheck 89 = .ok (.goto 4, 3) := by decide +kernel
theorem dX9_worstCheck_92 : decode cX9_worstCheck 92 = .ok (.iconst 0, 1) := by decide +kernel
theorem dX9_worstCheck_93 : decode cX9_worstCheck 93 = .ok (.putfield 33, 3) := by decide +kernel
theorem dX9_worstCheck_96 : decode cX9_worstCheck 96 = .ok (.aload_n 0, 1) := by decide +kernel
theorem dX9_worstCheck_97 : decode cX9_worstCheck 97 = .ok (.getfield 33, 3) := by decide +kernel
theorem dX9_worstCheck_100 : decode cX9_worstCheck 100 = .ok (.ifCond .le 7, 3) := by decide +kernel
theorem dX9_worstCheck_103 : decode cX9_worstCheck 103 = .ok (.iconst 0, 1) := by decide +kernel
theorem dX9_worstCheck_104 : decode cX9_worstCheck 104 = .ok (.goto 4, 3) := by decide +kernel
theorem dX9_worstCheck_107 : decode cX9_worstCheck 107 = .ok (.iload_n 1, 1) := by decide +kernel
theorem dX9_worstCheck_108 : decode cX9_worstCheck 108 = .ok (.ireturn, 1) := by decide +kernel
theorem dX9_netsOf_0 : decode cX9_netsOf 0 = .ok (.iconst 0, 1) := by decide +kernel
theorem dX9_netsOf_1 : decode cX9_netsOf 1 = .ok (.istore 4, 2) := by decide +kernel
theorem dX9_netsOf_3 : decode cX9_netsOf 3 = .ok (.iconst 0, 1) := by decide +kernel
theorem dX9_netsOf_4 : decode cX9_netsOf 4 = .ok (.istore 5, 2) := by decide +kernel
theorem dX9_netsOf_6 : decode cX9_netsOf 6 = .ok (.iload 5, 2) := by decide +kernel
theorem dX9_netsOf_8 : decode cX9_netsOf 8 = .ok (.aload_n 0, 1) := by decide +kernel
theorem dX9_netsOf_9 : decode cX9_netsOf 9 = .ok (.getfield 7, 3) := by decide +kernel
theorem dX9_netsOf_12 : decode cX9_netsOf 12 = .ok (.bipush 14, 2) := by decide +kernel
theorem dX9_netsOf_14 : decode cX9_netsOf 14 = .ok (.iaload, 1) := by decide +kernel
theorem dX9_netsOf_15 : decode cX9_netsOf 15 = .ok (.if_icmp .ge 61, 3) := by decide +kernel
theorem dX9_netsOf_18 : decode cX9_netsOf 18 = .ok (.iload 4, 2) := by decide +kernel
theorem dX9_netsOf_20 : decode cX9_netsOf 20 = .ok (.iload_n 1, 1) := by decide +kernel
theorem dX9_netsOf_21 : decode cX9_netsOf 21 = .ok (.iconst (-1), 1) := by decide +kernel
theorem dX9_netsOf_22 : decode cX9_netsOf 22 = .ok (.if_icmp .eq 14, 3) := by decide +kernel
theorem dX9_netsOf_25 : decode cX9_netsOf 25 = .ok (.aload_n 0, 1) := by decide +kernel
theorem dX9_netsOf_26 : decode cX9_netsOf 26 = .ok (.iload 5, 2) := by decide +kernel
theorem dX9_netsOf_28 : decode cX9_netsOf 28 = .ok (.iconst 0, 1) := by decide +kernel
theorem dX9_netsOf_29 : decode cX9_netsOf 29 = .ok (.invokevirtual 258, 3) := by decide +kernel
theorem dX9_netsOf_32 : decode cX9_netsOf 32 = .ok (.iload_n 1, 1) := by decide +kernel
theorem dX9_netsOf_33 : decode cX9_netsOf 33 = .ok (.if_icmp .ne 33, 3) := by decide +kernel
theorem dX9_netsOf_36 : decode cX9_netsOf 36 = .ok (.aload_n 0, 1) := by decide +kernel
theorem dX9_netsOf_37 : decode cX9_netsOf 37 = .ok (.iload 5, 2) := by decide +kernel
theorem dX9_netsOf_39 : decode cX9_netsOf 39 = .ok (.iconst 1, 1) := by decide +kernel
theorem dX9_netsOf_40 : decode cX9_netsOf 40 = .ok (.invokevirtual 258, 3) := by decide +kernel
theorem dX9_netsOf_43 : decode cX9_netsOf 43 = .ok (.i2l, 1) := by decide +kernel
theorem dX9_netsOf_44 : decode cX9_netsOf 44 = .ok (.iload_n 2, 1) := by decide +kernel
theorem dX9_netsOf_45 : decode cX9_netsOf 45 = .ok (.i2l, 1) := by decide +kernel
theorem dX9_netsOf_46 : decode cX9_netsOf 46 = .ok (.iload_n 3, 1) := by decide +kernel
theorem dX9_netsOf_47 : decode cX9_netsOf 47 = .ok (.iconst 1, 1) := by decide +kernel
theorem dX9_netsOf_48 : decode cX9_netsOf 48 = .ok (.isub, 1) := by decide +kernel
theorem dX9_netsOf_49 : decode cX9_netsOf 49 = .ok (.i2l, 1) := by decide +kernel
theorem dX9_netsOf_50 : decode cX9_netsOf 50 = .ok (.invokestatic 74, 3) := by decide +kernel
theorem dX9_netsOf_53 : decode cX9_netsOf 53 = .ok (.ifCond .eq 13, 3) := by decide +kernel
theorem dX9_netsOf_56 : decode cX9_netsOf 56 = .ok (.aload_n 0, 1) := by decide +kernel
theorem dX9_netsOf_57 : decode cX9_netsOf 57 = .ok (.iload 5, 2) := by decide +kernel
theorem dX9_netsOf_59 : decode cX9_netsOf 59 = .ok (.iconst 2, 1) := by decide +kernel
theorem dX9_netsOf_60 : decode cX9_netsOf 60 = .ok (.invokevirtual 258, 3) := by decide +kernel
theorem dX9_netsOf_63 : decode cX9_netsOf 63 = .ok (.goto 4, 3) := by decide +kernel
theorem dX9_netsOf_66 : decode cX9_netsOf 66 = .ok (.iconst 0, 1) := by decide +kernel
theorem dX9_netsOf_67 : decode cX9_netsOf 67 = .ok (.iadd, 1) := by decide +kernel
theorem dX9_netsOf_68 : decode cX9_netsOf 68 = .ok (.istore 4, 2) := by decide +kernel
theorem dX9_netsOf_70 : decode cX9_netsOf 70 = .ok (.iinc 5 1, 3) := by decide +kernel
theorem dX9_netsOf_73 : decode cX9_netsOf 73 = .ok (.goto (-67), 3) := by decide +kernel
theorem dX9_netsOf_76 : decode cX9_netsOf 76 = .ok (.iload 4, 2) := by decide +kernel
theorem dX9_netsOf_78 : decode cX9_netsOf 78 = .ok (.ireturn, 1) := by decide +kernel
theorem dX9_scaled_0 : decode cX9_scaled 0 = .ok (.aload_n 0, 1) := by decide +kernel
theorem dX9_scaled_1 : decode cX9_scaled 1 = .ok (.aload_n 0, 1) := by decide +kernel
theorem dX9_scaled_2 : decode cX9_scaled 2 = .ok (.iload_n 1, 1) := by decide +kernel
theorem dX9_scaled_3 : decode cX9_scaled 3 = .ok (.invokevirtual 151, 3) := by decide +kernel
theorem dX9_scaled_6 : decode cX9_scaled 6 = .ok (.ifCond .ne 7, 3) := by decide +kernel
theorem dX9_scaled_9 : decode cX9_scaled 9 = .ok (.iconst 1, 1) := by decide +kernel
theorem dX9_scaled_10 : decode cX9_scaled 10 = .ok (.goto 47, 3) := by decide +kernel
theorem dX9_scaled_13 : decode cX9_scaled 13 = .ok (.iload_n 2, 1) := by decide +kernel
theorem dX9_scaled_14 : decode cX9_scaled 14 = .ok (.i2l, 1) := by decide +kernel
theorem dX9_scaled_15 : decode cX9_scaled 15 = .ok (.lconst 0, 1) := by decide +kernel
theorem dX9_scaled_16 : decode cX9_scaled 16 = .ok (.ldc2_w 264, 3) := by decide +kernel
theorem dX9_scaled_19 : decode cX9_scaled 19 = .ok (.invokestatic 74, 3) := by decide +kernel
theorem dX9_scaled_22 : decode cX9_scaled 22 = .ok (.ifCond .eq 16, 3) := by decide +kernel
theorem dX9_scaled_25 : decode cX9_scaled 25 = .ok (.iload_n 3, 1) := by decide +kernel
theorem dX9_scaled_26 : decode cX9_scaled 26 = .ok (.i2l, 1) := by decide +kernel
theorem dX9_scaled_27 : decode cX9_scaled 27 = .ok (.iload_n 2, 1) := by decide +kernel
theorem dX9_scaled_28 : decode cX9_scaled 28 = .ok (.i2l, 1) := by decide +kernel
theorem dX9_scaled_29 : decode cX9_scaled 29 = .ok (.ldc2_w 264, 3) := by decide +kernel
theorem dX9_scaled_32 : decode cX9_scaled 32 = .ok (.invokestatic 74, 3) := by decide +kernel
theorem dX9_scaled_35 : decode cX9_scaled 35 = .ok (.ifCond .ne 7, 3) := by decide +kernel
theorem dX9_scaled_38 : decode cX9_scaled 38 = .ok (.iconst 2, 1) := by decide +kernel
theorem dX9_scaled_39 : decode cX9_scaled 39 = .ok (.goto 18, 3) := by decide +kernel
theorem dX9_scaled_42 : decode cX9_scaled 42 = .ok (.aload_n 0, 1) := by decide +kernel
theorem dX9_scaled_43 : decode cX9_scaled 43 = .ok (.getfield 7, 3) := by decide +kernel
theorem dX9_scaled_46 : decode cX9_scaled 46 = .ok (.iconst 0, 1) := by decide +kernel
theorem dX9_scaled_47 : decode cX9_scaled 47 = .ok (.iaload, 1) := by decide +kernel
theorem dX9_scaled_48 : decode cX9_scaled 48 = .ok (.iconst 3, 1) := by decide +kernel
theorem dX9_scaled_49 : decode cX9_scaled 49 = .ok (.if_icmp .ge 7, 3) := by decide +kernel
theorem dX9_scaled_52 : decode cX9_scaled 52 = .ok (.iconst 3, 1) := by decide +kernel
theorem dX9_scaled_53 : decode cX9_scaled 53 = .ok (.goto 4, 3) := by decide +kernel
theorem dX9_scaled_56 : decode cX9_scaled 56 = .ok (.iconst 0, 1) := by decide +kernel
theorem dX9_scaled_57 : decode cX9_scaled 57 = .ok (.putfield 33, 3) := by decide +kernel
theorem dX9_scaled_60 : decode cX9_scaled 60 = .ok (.aload_n 0, 1) := by decide +kernel
theorem dX9_scaled_61 : decode cX9_scaled 61 = .ok (.getfield 33, 3) := by decide +kernel
theorem dX9_scaled_64 : decode cX9_scaled 64 = .ok (.ifCond .le 7, 3) := by decide +kernel
theorem dX9_scaled_67 : decode cX9_scaled 67 = .ok (.iconst 0, 1) := by decide +kernel
theorem dX9_scaled_68 : decode cX9_scaled 68 = .ok (.goto 10, 3) := by decide +kernel
theorem dX9_scaled_71 : decode cX9_scaled 71 = .ok (.aload_n 0, 1) := by decide +kernel
theorem dX9_scaled_72 : decode cX9_scaled 72 = .ok (.iload_n 1, 1) := by decide +kernel
theorem dX9_scaled_73 : decode cX9_scaled 73 = .ok (.iload_n 2, 1) := by decide +kernel
theorem dX9_scaled_74 : decode cX9_scaled 74 = .ok (.iload_n 3, 1) := by decide +kernel
theorem dX9_scaled_75 : decode cX9_scaled 75 = .ok (.invokevirtual 266, 3) := by decide +kernel
theorem dX9_scaled_78 : decode cX9_scaled 78 = .ok (.ireturn, 1) := by decide +kernel
theorem dX9_cutShare_0 : decode cX9_cutShare 0 = .ok (.aload_n 0, 1) := by decide +kernel
theorem dX9_cutShare_1 : decode cX9_cutShare 1 = .ok (.aload_n 0, 1) := by decide +kernel
theorem dX9_cutShare_2 : decode cX9_cutShare 2 = .ok (.getfield 7, 3) := by decide +kernel
theorem dX9_cutShare_5 : decode cX9_cutShare 5 = .ok (.iconst 0, 1) := by decide +kernel
theorem dX9_cutShare_6 : decode cX9_cutShare 6 = .ok (.iaload, 1) := by decide +kernel
theorem dX9_cutShare_7 : decode cX9_cutShare 7 = .ok (.iconst 3, 1) := by decide +kernel
theorem dX9_cutShare_8 : decode cX9_cutShare 8 = .ok (.if_icmp .ge 7, 3) := by decide +kernel
theorem dX9_cutShare_11 : decode cX9_cutShare 11 = .ok (.iconst 1, 1) := by decide +kernel
theorem dX9_cutShare_12 : decode cX9_cutShare 12 = .ok (.goto 4, 3) := by decide +kernel
theorem dX9_cutShare_15 : decode cX9_cutShare 15 = .ok (.iconst 0, 1) := by decide +kernel
theorem dX9_cutShare_16 : decode cX9_cutShare 16 = .ok (.putfield 33, 3) := by decide +kernel
theorem dX9_cutShare_19 : decode cX9_cutShare 19 = .ok (.aload_n 0, 1) := by decide +kernel
theorem dX9_cutShare_20 : decode cX9_cutShare 20 = .ok (.getfield 33, 3) := by decide +kernel
theorem dX9_cutShare_23 : decode cX9_cutShare 23 = .ok (.ifCond .le 5, 3) := by decide +kernel
theorem dX9_cutShare_26 : decode cX9_cutShare 26 = .ok (.lconst 0, 1) := by decide +kernel
theorem dX9_cutShare_27 : decode cX9_cutShare 27 = .ok (.lreturn, 1) := by decide +kernel
theorem dX9_cutShare_28 : decode cX9_cutShare 28 = .ok (.lconst 0, 1) := by decide +kernel
theorem dX9_cutShare_29 : decode cX9_cutShare 29 = .ok (.lstore_n 2, 1) := by decide +kernel
theorem dX9_cutShare_30 : decode cX9_cutShare 30 = .ok (.iconst 0, 1) := by decide +kernel
theorem dX9_cutShare_31 : decode cX9_cutShare 31 = .ok (.istore 4, 2) := by decide +kernel
theorem dX9_cutShare_33 : decode cX9_cutShare 33 = .ok (.iload 4, 2) := by decide +kernel
theorem dX9_cutShare_35 : decode cX9_cutShare 35 = .ok (.aload_n 0, 1) := by decide +kernel
theorem dX9_cutShare_36 : decode cX9_cutShare 36 = .ok (.getfield 7, 3) := by decide +kernel
theorem dX9_cutShare_39 : decode cX9_cutShare 39 = .ok (.bipush 8, 2) := by decide +kernel
theorem dX9_cutShare_41 : decode cX9_cutShare 41 = .ok (.iaload, 1) := by decide +kernel
theorem dX9_cutShare_42 : decode cX9_cutShare 42 = .ok (.if_icmp .ge 27, 3) := by decide +kernel
theorem dX9_cutShare_45 : decode cX9_cutShare 45 = .ok (.lload_n 2, 1) := by decide +kernel
theorem dX9_cutShare_46 : decode cX9_cutShare 46 = .ok (.ldc2_w 91, 3) := by decide +kernel
theorem dX9_cutShare_49 : decode cX9_cutShare 49 = .ok (.aload_n 0, 1) := by decide +kernel
theorem dX9_cutShare_50 : decode cX9_cutShare 50 = .ok (.getfield 7, 3) := by decide +kernel
theorem dX9_cutShare_53 : decode cX9_cutShare 53 = .ok (.bipush 32, 2) := by decide +kernel
theorem dX9_cutShare_55 : decode cX9_cutShare 55 = .ok (.iload 4, 2) := by decide +kernel
theorem dX9_cutShare_57 : decode cX9_cutShare 57 = .ok (.iadd, 1) := by decide +kernel
theorem dX9_cutShare_58 : decode cX9_cutShare 58 = .ok (.iaload, 1) := by decide +kernel
theorem dX9_cutShare_59 : decode cX9_cutShare 59 = .ok (.i2l, 1) := by decide +kernel
theorem dX9_cutShare_60 : decode cX9_cutShare 60 = .ok (.lmul, 1) := by decide +kernel
theorem dX9_cutShare_61 : decode cX9_cutShare 61 = .ok (.ladd, 1) := by decide +kernel
theorem dX9_cutShare_62 : decode cX9_cutShare 62 = .ok (.lstore_n 2, 1) := by decide +kernel
theorem dX9_cutShare_63 : decode cX9_cutShare 63 = .ok (.iinc 4 1, 3) := by decide +kernel
theorem dX9_cutShare_66 : decode cX9_cutShare 66 = .ok (.goto (-33), 3) := by decide +kernel
theorem dX9_cutShare_69 : decode cX9_cutShare 69 = .ok (.lload_n 2, 1) := by decide +kernel
theorem dX9_cutShare_70 : decode cX9_cutShare 70 = .ok (.lconst 0, 1) := by decide +kernel
theorem dX9_cutShare_71 : decode cX9_cutShare 71 = .ok (.lcmp, 1) := by decide +kernel
theorem dX9_cutShare_72 : decode cX9_cutShare 72 = .ok (.ifCond .ne 13, 3) := by decide +kernel
theorem dX9_cutShare_75 : decode cX9_cutShare 75 = .ok (.iload_n 1, 1) := by decide +kernel
theorem dX9_cutShare_76 : decode cX9_cutShare 76 = .ok (.ifCond .eq 7, 3) := by decide +kernel
theorem dX9_cutShare_79 : decode cX9_cutShare 79 = .ok (.lconst 1, 1) := by decide +kernel
theorem dX9_cutShare_80 : decode cX9_cutShare 80 = .ok (.goto 4, 3) := by decide +kernel
theorem dX9_cutShare_83 : decode cX9_cutShare 83 = .ok (.lconst 0, 1) := by decide +kernel
theorem dX9_cutShare_84 : decode cX9_cutShare 84 = .ok (.lreturn, 1) := by decide +kernel
theorem dX9_cutShare_85 : decode cX9_cutShare 85 = .ok (.aload_n 0, 1) := by decide +kernel
theorem dX9_cutShare_86 : decode cX9_cutShare 86 = .ok (.iconst (-1), 1) := by decide +kernel
theorem dX9_cutShare_87 : decode cX9_cutShare 87 = .ok (.iconst 0, 1) := by decide +kernel
theorem dX9_cutShare_88 : decode cX9_cutShare 88 = .ok (.bipush 36, 2) := by decide +kernel
theorem dX9_cutShare_90 : decode cX9_cutShare 90 = .ok (.invokevirtual 266, 3) := by decide +kernel
theorem dX9_cutShare_93 : decode cX9_cutShare 93 = .ok (.i2l, 1) := by decide +kernel
theorem dX9_cutShare_94 : decode cX9_cutShare 94 = .ok (.lload_n 2, 1) := by decide +kernel
theorem dX9_cutShare_95 : decode cX9_cutShare 95 = .ok (.iload_n 1, 1) := by decide +kernel
theorem dX9_cutShare_96 : decode cX9_cutShare 96 = .ok (.invokestatic 154, 3) := by decide +kernel
theorem dX9_cutShare_99 : decode cX9_cutShare 99 = .ok (.lreturn, 1) := by decide +kernel
theorem dX9_laysFactor_0 : decode cX9_laysFactor 0 = .ok (.aload_n 0, 1) := by decide +kernel
theorem dX9_laysFactor_1 : decode cX9_laysFactor 1 = .ok (.lconst 0, 1) := by decide +kernel
theorem dX9_laysFactor_2 : decode cX9_laysFactor 2 = .ok (.putfield 269, 3) := by decide +kernel
theorem dX9_laysFactor_5 : decode cX9_laysFactor 5 = .ok (.aload_n 0, 1) := by decide +kernel
theorem dX9_laysFactor_6 : decode cX9_laysFactor 6 = .ok (.lconst 0, 1) := by decide +kernel
theorem dX9_laysFactor_7 : decode cX9_laysFactor 7 = .ok (.putfield 272, 3) := by decide +kernel
theorem dX9_laysFactor_10 : decode cX9_laysFactor 10 = .ok (.iconst 0, 1) := by decide +kernel
theorem dX9_laysFactor_11 : decode cX9_laysFactor 11 = .ok (.istore_n 1, 1) := by decide +kernel
theorem dX9_laysFactor_12 : decode cX9_laysFactor 12 = .ok (.iload_n 1, 1) := by decide +kernel
theorem dX9_laysFactor_13 : decode cX9_laysFactor 13 = .ok (.aload_n 0, 1) := by decide +kernel
theorem dX9_laysFactor_14 : decode cX9_laysFactor 14 = .ok (.getfield 7, 3) := by decide +kernel
theorem dX9_laysFactor_17 : decode cX9_laysFactor 17 = .ok (.bipush 14, 2) := by decide +kernel
theorem dX9_laysFactor_19 : decode cX9_laysFactor 19 = .ok (.iaload, 1) := by decide +kernel
theorem dX9_laysFactor_20 : decode cX9_laysFactor 20 = .ok (.if_icmp .ge 54, 3) := by decide +kernel
theorem dX9_laysFactor_23 : decode cX9_laysFactor 23 = .ok (.aload_n 0, 1) := by decide +kernel
theorem dX9_laysFactor_24 : decode cX9_laysFactor 24 = .ok (.iload_n 1, 1) := by decide +kernel
theorem dX9_laysFactor_25 : decode cX9_laysFactor 25 = .ok (.iconst 3, 1) := by decide +kernel
theorem dX9_laysFactor_26 : decode cX9_laysFactor 26 = .ok (.invokevirtual 258, 3) := by decide +kernel
theorem dX9_laysFactor_29 : decode cX9_laysFactor 29 = .ok (.iconst (-1), 1) := by decide +kernel
theorem dX9_laysFactor_30 : decode cX9_laysFactor 30 = .ok (.if_icmp .ne 6, 3) := by decide +kernel
theorem dX9_laysFactor_33 : decode cX9_laysFactor 33 = .ok (.goto 35, 3) := by decide +kernel
theorem dX9_laysFactor_36 : decode cX9_laysFactor 36 = .ok (.aload_n 0, 1) := by decide +kernel
theorem dX9_laysFactor_37 : decode cX9_laysFactor 37 = .ok (.dup, 1) := by decide +kernel
theorem dX9_laysFactor_38 : decode cX9_laysFactor 38 = .ok (.getfield 269, 3) := by decide +kernel
theorem dX9_laysFactor_41 : decode cX9_laysFactor 41 = .ok (.aload_n 0, 1) := by decide +kernel
theorem dX9_laysFactor_42 : decode cX9_laysFactor 42 = .ok (.iload_n 1, 1) := by decide +kernel
theorem dX9_laysFactor_43 : decode cX9_laysFactor 43 = .ok (.iconst 2, 1) := by decide +kernel
theorem dX9_laysFactor_44 : decode cX9_laysFactor 44 = .ok (.invokevirtual 258, 3) := by decide +kernel
theorem dX9_laysFactor_47 : decode cX9_laysFactor 47 = .ok (.i2l, 1) := by decide +kernel
theorem dX9_laysFactor_48 : decode cX9_laysFactor 48 = .ok (.ladd, 1) := by decide +kernel
theorem dX9_laysFactor_49 : decode cX9_laysFactor 49 = .ok (.putfield 269, 3) := by decide +kernel
theorem dX9_laysFactor_52 : decode cX9_laysFactor 52 = .ok (.aload_n 0, 1) := by decide +kernel
theorem dX9_laysFactor_53 : decode cX9_laysFactor 53 = .ok (.dup, 1) := by decide +kernel
theorem dX9_laysFactor_54 : decode cX9_laysFactor 54 = .ok (.getfield 272, 3) := by decide +kernel
theorem dX9_laysFactor_57 : decode cX9_laysFactor 57 = .ok (.aload_n 0, 1) := by decide +kernel
theorem dX9_laysFactor_58 : decode cX9_laysFactor 58 = .ok (.iload_n 1, 1) := by decide +kernel
theorem dX9_laysFactor_59 : decode cX9_laysFactor 59 = .ok (.iconst 3, 1) := by decide +kernel
theorem dX9_laysFactor_60 : decode cX9_laysFactor 60 = .ok (.invokevirtual 258, 3) := by decide +kernel
theorem dX9_laysFactor_63 : decode cX9_laysFactor 63 = .ok (.i2l, 1) := by decide +kernel
theorem dX9_laysFactor_64 : decode cX9_laysFactor 64 = .ok (.ladd, 1) := by decide +kernel
theorem dX9_laysFactor_65 : decode cX9_laysFactor 65 = .ok (.putfield 272, 3) := by decide +kernel
theorem dX9_laysFactor_68 : decode cX9_laysFactor 68 = .ok (.iinc 1 1, 3) := by decide +kernel
theorem dX9_laysFactor_71 : decode cX9_laysFactor 71 = .ok (.goto (-59), 3) := by decide +kernel
theorem dX9_laysFactor_74 : decode cX9_laysFactor 74 = .ok (.aload_n 0, 1) := by decide +kernel
theorem dX9_laysFactor_75 : decode cX9_laysFactor 75 = .ok (.getfield 269, 3) := by decide +kernel
theorem dX9_laysFactor_78 : decode cX9_laysFactor 78 = .ok (.aload_n 0, 1) := by decide +kernel
theorem dX9_laysFactor_79 : decode cX9_laysFactor 79 = .ok (.getfield 272, 3) := by decide +kernel
theorem dX9_laysFactor_82 : decode cX9_laysFactor 82 = .ok (.lcmp, 1) := by decide +kernel
theorem dX9_laysFactor_83 : decode cX9_laysFactor 83 = .ok (.ifCond .le 15, 3) := by decide +kernel
theorem dX9_laysFactor_86 : decode cX9_laysFactor 86 = .ok (.aload_n 0, 1) := by decide +kernel
theorem dX9_laysFactor_87 : decode cX9_laysFactor 87 = .ok (.getfield 269, 3) := by decide +kernel
theorem dX9_laysFactor_90 : decode cX9_laysFactor 90 = .ok (.aload_n 0, 1) := by decide +kernel
theorem dX9_laysFactor_91 : decode cX9_laysFactor 91 = .ok (.getfield 272, 3) := by decide +kernel
theorem dX9_laysFactor_94 : decode cX9_laysFactor 94 = .ok (.lsub, 1) := by decide +kernel
theorem dX9_laysFactor_95 : decode cX9_laysFactor 95 = .ok (.goto 12, 3) := by decide +kernel
theorem dX9_laysFactor_98 : decode cX9_laysFactor 98 = .ok (.aload_n 0, 1) := by decide +kernel
theorem dX9_laysFactor_99 : decode cX9_laysFactor 99 = .ok (.getfield 272, 3) := by decide +kernel
theorem dX9_laysFactor_102 : decode cX9_laysFactor 102 = .ok (.aload_n 0, 1) := by decide +kernel
theorem dX9_laysFactor_103 : decode cX9_laysFactor 103 = .ok (.getfield 269, 3) := by decide +kernel
theorem dX9_laysFactor_106 : decode cX9_laysFactor 106 = .ok (.lsub, 1) := by decide +kernel
theorem dX9_laysFactor_107 : decode cX9_laysFactor 107 = .ok (.lstore_n 1, 1) := by decide +kernel
theorem dX9_laysFactor_108 : decode cX9_laysFactor 108 = .ok (.aload_n 0, 1) := by decide +kernel
theorem dX9_laysFactor_109 : decode cX9_laysFactor 109 = .ok (.getfield 269, 3) := by decide +kernel
theorem dX9_laysFactor_112 : decode cX9_laysFactor 112 = .ok (.lconst 0, 1) := by decide +kernel
theorem dX9_laysFactor_113 : decode cX9_laysFactor 113 = .ok (.lcmp, 1) := by decide +kernel
theorem dX9_laysFactor_114 : decode cX9_laysFactor 114 = .ok (.ifCond .le 34, 3) := by decide +kernel
theorem dX9_laysFactor_117 : decode cX9_laysFactor 117 = .ok (.aload_n 0, 1) := by decide +kernel
theorem dX9_laysFactor_118 : decode cX9_laysFactor 118 = .ok (.getfield 272, 3) := by decide +kernel
theorem dX9_laysFactor_121 : decode cX9_laysFactor 121 = .ok (.lconst 0, 1) := by decide +kernel
theorem dX9_laysFactor_122 : decode cX9_laysFactor 122 = .ok (.lcmp, 1) := by decide +kernel
theorem dX9_laysFactor_123 : decode cX9_laysFactor 123 = .ok (.ifCond .le 25, 3) := by decide +kernel
theorem dX9_laysFactor_126 : decode cX9_laysFactor 126 = .ok (.lload_n 1, 1) := by decide +kernel
theorem dX9_laysFactor_127 : decode cX9_laysFactor 127 = .ok (.ldc2_w 205, 3) := by decide +kernel
theorem dX9_laysFactor_130 : decode cX9_laysFactor 130 = .ok (.lmul, 1) := by decide +kernel
theorem dX9_laysFactor_131 : decode cX9_laysFactor 131 = .ok (.aload_n 0, 1) := by decide +kernel
theorem dX9_laysFactor_132 : decode cX9_laysFactor 132 = .ok (.getfield 269, 3) := by decide +kernel
theorem dX9_laysFactor_135 : decode cX9_laysFactor 135 = .ok (.aload_n 0, 1) := by decide +kernel
theorem dX9_laysFactor_136 : decode cX9_laysFactor 136 = .ok (.getfield 7, 3) := by decide +kernel
theorem dX9_laysFactor_139 : decode cX9_laysFactor 139 = .ok (.iconst 5, 1) := by decide +kernel
theorem dX9_laysFactor_140 : decode cX9_laysFactor 140 = .ok (.iaload, 1) := by decide +kernel
theorem dX9_laysFactor_141 : decode cX9_laysFactor 141 = .ok (.i2l, 1) := by decide +kernel
theorem dX9_laysFactor_142 : decode cX9_laysFactor 142 = .ok (.lmul, 1) := by decide +kernel
theorem dX9_laysFactor_143 : decode cX9_laysFactor 143 = .ok (.lcmp, 1) := by decide +kernel
theorem dX9_laysFactor_144 : decode cX9_laysFactor 144 = .ok (.ifCond .le 4, 3) := by decide +kernel
theorem dX9_laysFactor_147 : decode cX9_laysFactor 147 = .ok (.return_, 1) := by decide +kernel
theorem dX9_laysFactor_148 : decode cX9_laysFactor 148 = .ok (.aload_n 0, 1) := by decide +kernel
theorem dX9_laysFactor_149 : decode cX9_laysFactor 149 = .ok (.lconst 1, 1) := by decide +kernel
theorem dX9_laysFactor_150 : decode cX9_laysFactor 150 = .ok (.putfield 269, 3) := by decide +kernel
theorem dX9_laysFactor_153 : decode cX9_laysFactor 153 = .ok (.aload_n 0, 1) := by decide +kernel
theorem dX9_laysFactor_154 : decode cX9_laysFactor 154 = .ok (.lconst 1, 1) := by decide +kernel
theorem dX9_laysFactor_155 : decode cX9_laysFactor 155 = .ok (.putfield 272, 3) := by decide +kernel
theorem dX9_laysFactor_158 : decode cX9_laysFactor 158 = .ok (.return_, 1) := by decide +kernel
theorem dX9_factor_0 : decode cX9_factor 0 = .ok (.aload_n 0, 1) := by decide +kernel
theorem dX9_factor_1 : decode cX9_factor 1 = .ok (.iconst 0, 1) := by decide +kernel
theorem dX9_factor_2 : decode cX9_factor 2 = .ok (.putfield 33, 3) := by decide +kernel
theorem dX9_factor_5 : decode cX9_factor 5 = .ok (.aload_n 0, 1) := by decide +kernel
theorem dX9_factor_6 : decode cX9_factor 6 = .ok (.invokevirtual 275, 3) := by decide +kernel
theorem dX9_factor_9 : decode cX9_factor 9 = .ok (.aload_n 0, 1) := by decide +kernel
theorem dX9_factor_10 : decode cX9_factor 10 = .ok (.getfield 272, 3) := by decide +kernel
theorem dX9_factor_13 : decode cX9_factor 13 = .ok (.aload_n 0, 1) := by decide +kernel
theorem dX9_factor_14 : decode cX9_factor 14 = .ok (.getfield 269, 3) := by decide +kernel
theorem dX9_factor_17 : decode cX9_factor 17 = .ok (.iload_n 1, 1) := by decide +kernel
theorem dX9_factor_18 : decode cX9_factor 18 = .ok (.invokestatic 154, 3) := by decide +kernel
theorem dX9_factor_21 : decode cX9_factor 21 = .ok (.l2i, 1) := by decide +kernel
theorem dX9_factor_22 : decode cX9_factor 22 = .ok (.ireturn, 1) := by decide +kernel
theorem dX9_month_0 : decode cX9_month 0 = .ok (.aload_n 0, 1) := by decide +kernel
theorem dX9_month_1 : decode cX9_month 1 = .ok (.iconst 0, 1) := by decide +kernel
theorem dX9_month_2 : decode cX9_month 2 = .ok (.putfield 33, 3) := by decide +kernel
theorem dX9_month_5 : decode cX9_month 5 = .ok (.aload_n 0, 1) := by decide +kernel
theorem dX9_month_6 : decode cX9_month 6 = .ok (.getfield 7, 3) := by decide +kernel
theorem dX9_month_9 : decode cX9_month 9 = .ok (.bipush 13, 2) := by decide +kernel
theorem dX9_month_11 : decode cX9_month 11 = .ok (.iaload, 1) := by decide +kernel
theorem dX9_month_12 : decode cX9_month 12 = .ok (.ireturn, 1) := by decide +kernel
theorem dX9_chargeOf_0 : decode cX9_chargeOf 0 = .ok (.aload_n 0, 1) := by decide +kernel
theorem dX9_chargeOf_1 : decode cX9_chargeOf 1 = .ok (.invokevirtual 275, 3) := by decide +kernel
theorem dX9_chargeOf_4 : decode cX9_chargeOf 4 = .ok (.lconst 0, 1) := by decide +kernel
theorem dX9_chargeOf_5 : decode cX9_chargeOf 5 = .ok (.lstore_n 2, 1) := by decide +kernel
theorem dX9_chargeOf_6 : decode cX9_chargeOf 6 = .ok (.iconst 0, 1) := by decide +kernel
theorem dX9_chargeOf_7 : decode cX9_chargeOf 7 = .ok (.istore 4, 2) := by decide +kernel
theorem dX9_chargeOf_9 : decode cX9_chargeOf 9 = .ok (.iload 4, 2) := by decide +kernel
theorem dX9_chargeOf_11 : decode cX9_chargeOf 11 = .ok (.aload_n 0, 1) := by decide +kernel
theorem dX9_chargeOf_12 : decode cX9_chargeOf 12 = .ok (.getfield 7, 3) := by decide +kernel
theorem dX9_chargeOf_15 : decode cX9_chargeOf 15 = .ok (.bipush 8, 2) := by decide +kernel
theorem dX9_chargeOf_17 : decode cX9_chargeOf 17 = .ok (.iaload, 1) := by decide +kernel
theorem dX9_chargeOf_18 : decode cX9_chargeOf 18 = .ok (.if_icmp .ge 52, 3) := by decide +kernel
theorem dX9_chargeOf_21 : decode cX9_chargeOf 21 = .ok (.aload_n 0, 1) := by decide +kernel
theorem dX9_chargeOf_22 : decode cX9_chargeOf 22 = .ok (.iload 4, 2) := by decide +kernel
theorem dX9_chargeOf_24 : decode cX9_chargeOf 24 = .ok (.iload_n 1, 1) := by decide +kernel
theorem dX9_chargeOf_25 : decode cX9_chargeOf 25 = .ok (.iload_n 1, 1) := by decide +kernel
theorem dX9_chargeOf_26 : decode cX9_chargeOf 26 = .ok (.iconst 1, 1) := by decide +kernel
theorem dX9_chargeOf_27 : decode cX9_chargeOf 27 = .ok (.iadd, 1) := by decide +kernel
theorem dX9_chargeOf_28 : decode cX9_chargeOf 28 = .ok (.invokevirtual 266, 3) := by decide +kernel
theorem dX9_chargeOf_31 : decode cX9_chargeOf 31 = .ok (.i2l, 1) := by decide +kernel
theorem dX9_chargeOf_32 : decode cX9_chargeOf 32 = .ok (.lstore 5, 2) := by decide +kernel
theorem dX9_chargeOf_34 : decode cX9_chargeOf 34 = .ok (.lload_n 2, 1) := by decide +kernel
theorem dX9_chargeOf_35 : decode cX9_chargeOf 35 = .ok (.lload 5, 2) := by decide +kernel
theorem dX9_chargeOf_37 : decode cX9_chargeOf 37 = .ok (.aload_n 0, 1) := by decide +kernel
theorem dX9_chargeOf_38 : decode cX9_chargeOf 38 = .ok (.iload 4, 2) := by decide +kernel
theorem dX9_chargeOf_40 : decode cX9_chargeOf 40 = .ok (.iload_n 1, 1) := by decide +kernel
theorem dX9_chargeOf_41 : decode cX9_chargeOf 41 = .ok (.iconst 3, 1) := by decide +kernel
theorem dX9_chargeOf_42 : decode cX9_chargeOf 42 = .ok (.idiv, 1) := by decide +kernel
theorem dX9_chargeOf_43 : decode cX9_chargeOf 43 = .ok (.invokevirtual 246, 3) := by decide +kernel
theorem dX9_chargeOf_46 : decode cX9_chargeOf 46 = .ok (.i2l, 1) := by decide +kernel
theorem dX9_chargeOf_47 : decode cX9_chargeOf 47 = .ok (.lmul, 1) := by decide +kernel
theorem dX9_chargeOf_48 : decode cX9_chargeOf 48 = .ok (.aload_n 0, 1) := by decide +kernel
theorem dX9_chargeOf_49 : decode cX9_chargeOf 49 = .ok (.getfield 272, 3) := by decide +kernel
theorem dX9_chargeOf_52 : decode cX9_chargeOf 52 = .ok (.lmul, 1) := by decide +kernel
theorem dX9_chargeOf_53 : decode cX9_chargeOf 53 = .ok (.ldc2_w 91, 3) := by decide +kernel
theorem dX9_chargeOf_56 : decode cX9_chargeOf 56 = .ok (.aload_n 0, 1) := by decide +kernel
theorem dX9_chargeOf_57 : decode cX9_chargeOf 57 = .ok (.getfield 269, 3) := by decide +kernel
theorem dX9_chargeOf_60 : decode cX9_chargeOf 60 = .ok (.lmul, 1) := by decide +kernel
theorem dX9_chargeOf_61 : decode cX9_chargeOf 61 = .ok (.ldiv, 1) := by decide +kernel
theorem dX9_chargeOf_62 : decode cX9_chargeOf 62 = .ok (.ladd, 1) := by decide +kernel
theorem dX9_chargeOf_63 : decode cX9_chargeOf 63 = .ok (.lstore_n 2, 1) := by decide +kernel
theorem dX9_chargeOf_64 : decode cX9_chargeOf 64 = .ok (.iinc 4 1, 3) := by decide +kernel
theorem dX9_chargeOf_67 : decode cX9_chargeOf 67 = .ok (.goto (-58), 3) := by decide +kernel
theorem dX9_chargeOf_70 : decode cX9_chargeOf 70 = .ok (.lload_n 2, 1) := by decide +kernel
theorem dX9_chargeOf_71 : decode cX9_chargeOf 71 = .ok (.lreturn, 1) := by decide +kernel
theorem dX9_ends_0 : decode cX9_ends 0 = .ok (.aload_n 0, 1) := by decide +kernel
theorem dX9_ends_1 : decode cX9_ends 1 = .ok (.getfield 19, 3) := by decide +kernel
theorem dX9_ends_4 : decode cX9_ends 4 = .ok (.iconst 0, 1) := by decide +kernel
theorem dX9_ends_5 : decode cX9_ends 5 = .ok (.laload, 1) := by decide +kernel
theorem dX9_ends_6 : decode cX9_ends 6 = .ok (.lconst 0, 1) := by decide +kernel
theorem dX9_ends_7 : decode cX9_ends 7 = .ok (.lcmp, 1) := by decide +kernel
theorem dX9_ends_8 : decode cX9_ends 8 = .ok (.ifCond .le 31, 3) := by decide +kernel
theorem dX9_ends_11 : decode cX9_ends 11 = .ok (.aload_n 0, 1) := by decide +kernel
theorem dX9_ends_12 : decode cX9_ends 12 = .ok (.getfield 19, 3) := by decide +kernel
theorem dX9_ends_15 : decode cX9_ends 15 = .ok (.iconst 0, 1) := by decide +kernel
theorem dX9_ends_16 : decode cX9_ends 16 = .ok (.dup2, 1) := by decide +kernel
theorem dX9_ends_17 : decode cX9_ends 17 = .ok (.laload, 1) := by decide +kernel
theorem dX9_ends_18 : decode cX9_ends 18 = .ok (.aload_n 0, 1) := by decide +kernel
theorem dX9_ends_19 : decode cX9_ends 19 = .ok (.getfield 19, 3) := by decide +kernel
theorem dX9_ends_22 : decode cX9_ends 22 = .ok (.iconst 0, 1) := by decide +kernel
theorem dX9_ends_23 : decode cX9_ends 23 = .ok (.laload, 1) := by decide +kernel
theorem dX9_ends_24 : decode cX9_ends 24 = .ok (.aload_n 0, 1) := by decide +kernel
theorem dX9_ends_25 : decode cX9_ends 25 = .ok (.getfield 7, 3) := by decide +kernel
theorem dX9_ends_28 : decode cX9_ends 28 = .ok (.bipush 6, 2) := by decide +kernel
theorem dX9_ends_30 : decode cX9_ends 30 = .ok (.iaload, 1) := by decide +kernel
theorem dX9_ends_31 : decode cX9_ends 31 = .ok (.i2l, 1) := by decide +kernel
theorem dX9_ends_32 : decode cX9_ends 32 = .ok (.lmul, 1) := by decide +kernel
theorem dX9_ends_33 : decode cX9_ends 33 = .ok (.ldc2_w 278, 3) := by decide +kernel
theorem dX9_ends_36 : decode cX9_ends 36 = .ok (.ldiv, 1) := by decide +kernel
theorem dX9_ends_37 : decode cX9_ends 37 = .ok (.ladd, 1) := by decide +kernel
theorem dX9_ends_38 : decode cX9_ends 38 = .ok (.lastore, 1) := by decide +kernel
theorem dX9_ends_39 : decode cX9_ends 39 = .ok (.aload_n 0, 1) := by decide +kernel
theorem dX9_ends_40 : decode cX9_ends 40 = .ok (.aload_n 0, 1) := by decide +kernel
theorem dX9_ends_41 : decode cX9_ends 41 = .ok (.getfield 7, 3) := by decide +kernel
theorem dX9_ends_44 : decode cX9_ends 44 = .ok (.bipush 13, 2) := by decide +kernel
theorem dX9_ends_46 : decode cX9_ends 46 = .ok (.iaload, 1) := by decide +kernel
theorem dX9_ends_47 : decode cX9_ends 47 = .ok (.invokevirtual 280, 3) := by decide +kernel
theorem dX9_ends_50 : decode cX9_ends 50 = .ok (.lstore_n 1, 1) := by decide +kernel
theorem dX9_ends_51 : decode cX9_ends 51 = .ok (.aload_n 0, 1) := by decide +kernel
theorem dX9_ends_52 : decode cX9_ends 52 = .ok (.getfield 19, 3) := by decide +kernel
theorem dX9_ends_55 : decode cX9_ends 55 = .ok (.iconst 0, 1) := by decide +kernel
theorem dX9_ends_56 : decode cX9_ends 56 = .ok (.dup2, 1) := by decide +kernel
theorem dX9_ends_57 : decode cX9_ends 57 = .ok (.laload, 1) := by decide +kernel
theorem dX9_ends_58 : decode cX9_ends 58 = .ok (.lload_n 1, 1) := by decide +kernel
theorem dX9_ends_59 : decode cX9_ends 59 = .ok (.ladd, 1) := by decide +kernel
theorem dX9_ends_60 : decode cX9_ends 60 = .ok (.lastore, 1) := by decide +kernel
theorem dX9_ends_61 : decode cX9_ends 61 = .ok (.aload_n 0, 1) := by decide +kernel
theorem dX9_ends_62 : decode cX9_ends 62 = .ok (.getfield 19, 3) := by decide +kernel
theorem dX9_ends_65 : decode cX9_ends 65 = .ok (.iconst 1, 1) := by decide +kernel
theorem dX9_ends_66 : decode cX9_ends 66 = .ok (.aload_n 0, 1) := by decide +kernel
theorem dX9_ends_67 : decode cX9_ends 67 = .ok (.getfield 7, 3) := by decide +kernel
theorem dX9_ends_70 : decode cX9_ends 70 = .ok (.bipush 13, 2) := by decide +kernel
theorem dX9_ends_72 : decode cX9_ends 72 = .ok (.iaload, 1) := by decide +kernel
theorem dX9_ends_73 : decode cX9_ends 73 = .ok (.iadd, 1) := by decide +kernel
theorem dX9_ends_74 : decode cX9_ends 74 = .ok (.lload_n 1, 1) := by decide +kernel
theorem dX9_ends_75 : decode cX9_ends 75 = .ok (.lastore, 1) := by decide +kernel
theorem dX9_ends_76 : decode cX9_ends 76 = .ok (.return_, 1) := by decide +kernel
theorem dX9_adjusts_0 : decode cX9_adjusts 0 = .ok (.lconst 0, 1) := by decide +kernel
theorem dX9_adjusts_1 : decode cX9_adjusts 1 = .ok (.lstore_n 1, 1) := by decide +kernel
theorem dX9_adjusts_2 : decode cX9_adjusts 2 = .ok (.aload_n 0, 1) := by decide +kernel
theorem dX9_adjusts_3 : decode cX9_adjusts 3 = .ok (.getfield 7, 3) := by decide +kernel
theorem dX9_adjusts_6 : decode cX9_adjusts 6 = .ok (.bipush 13, 2) := by decide +kernel
theorem dX9_adjusts_8 : decode cX9_adjusts 8 = .ok (.iaload, 1) := by decide +kernel
theorem dX9_adjusts_9 : decode cX9_adjusts 9 = .ok (.aload_n 0, 1) := by decide +kernel
theorem dX9_adjusts_10 : decode cX9_adjusts 10 = .ok (.getfield 7, 3) := by decide +kernel
theorem dX9_adjusts_13 : decode cX9_adjusts 13 = .ok (.bipush 16, 2) := by decide +kernel
theorem dX9_adjusts_15 : decode cX9_adjusts 15 = .ok (.iaload, 1) := by decide +kernel
theorem dX9_adjusts_16 : decode cX9_adjusts 16 = .ok (.iadd, 1) := by decide +kernel
theorem dX9_adjusts_17 : decode cX9_adjusts 17 = .ok (.istore_n 3, 1) := by decide +kernel
theorem dX9_adjusts_18 : decode cX9_adjusts 18 = .ok (.iconst 0, 1) := by decide +kernel
theorem dX9_adjusts_19 : decode cX9_adjusts 19 = .ok (.istore 4, 2) := by decide +kernel
theorem dX9_adjusts_21 : decode cX9_adjusts 21 = .ok (.iload 4, 2) := by decide +kernel
theorem dX9_adjusts_23 : decode cX9_adjusts 23 = .ok (.iload_n 3, 1) := by decide +kernel
theorem dX9_adjusts_24 : decode cX9_adjusts 24 = .ok (.if_icmp .ge 28, 3) := by decide +kernel
theorem dX9_adjusts_27 : decode cX9_adjusts 27 = .ok (.lload_n 1, 1) := by decide +kernel
theorem dX9_adjusts_28 : decode cX9_adjusts 28 = .ok (.aload_n 0, 1) := by decide +kernel
theorem dX9_adjusts_29 : decode cX9_adjusts 29 = .ok (.iload 4, 2) := by decide +kernel
theorem dX9_adjusts_31 : decode cX9_adjusts 31 = .ok (.invokevirtual 280, 3) := by decide +kernel
theorem dX9_adjusts_34 : decode cX9_adjusts 34 = .ok (.aload_n 0, 1) := by decide +kernel
theorem dX9_adjusts_35 : decode cX9_adjusts 35 = .ok (.getfield 19, 3) := by decide +kernel
theorem dX9_adjusts_38 : decode cX9_adjusts 38 = .ok (.iconst 1, 1) := by decide +kernel
theorem dX9_adjusts_39 : decode cX9_adjusts 39 = .ok (.iload 4, 2) := by decide +kernel
theorem dX9_adjusts_41 : decode cX9_adjusts 41 = .ok (.iadd, 1) := by decide +kernel
theorem dX9_adjusts_42 : decode cX9_adjusts 42 = .ok (.laload, 1) := by decide +kernel
theorem dX9_adjusts_43 : decode cX9_adjusts 43 = .ok (.lsub, 1) := by decide +kernel
theorem dX9_adjusts_44 : decode cX9_adjusts 44 = .ok (.ladd, 1) := by decide +kernel
theorem dX9_adjusts_45 : decode cX9_adjusts 45 = .ok (.lstore_n 1, 1) := by decide +kernel
theorem dX9_adjusts_46 : decode cX9_adjusts 46 = .ok (.iinc 4 1, 3) := by decide +kernel
theorem dX9_adjusts_49 : decode cX9_adjusts 49 = .ok (.goto (-28), 3) := by decide +kernel
theorem dX9_adjusts_52 : decode cX9_adjusts 52 = .ok (.lload_n 1, 1) := by decide +kernel
theorem dX9_adjusts_53 : decode cX9_adjusts 53 = .ok (.lreturn, 1) := by decide +kernel
theorem dX9_endMonth_0 : decode cX9_endMonth 0 = .ok (.aload_n 0, 1) := by decide +kernel
theorem dX9_endMonth_1 : decode cX9_endMonth 1 = .ok (.aload_n 0, 1) := by decide +kernel
theorem dX9_endMonth_2 : decode cX9_endMonth 2 = .ok (.getfield 7, 3) := by decide +kernel
theorem dX9_endMonth_5 : decode cX9_endMonth 5 = .ok (.iconst 0, 1) := by decide +kernel
theorem dX9_endMonth_6 : decode cX9_endMonth 6 = .ok (.iaload, 1) := by decide +kernel
theorem dX9_endMonth_7 : decode cX9_endMonth 7 = .ok (.iconst 3, 1) := by decide +kernel
theorem dX9_endMonth_8 : decode cX9_endMonth 8 = .ok (.if_icmp .ne 15, 3) := by decide +kernel
theorem dX9_endMonth_11 : decode cX9_endMonth 11 = .ok (.aload_n 0, 1) := by decide +kernel
theorem dX9_endMonth_12 : decode cX9_endMonth 12 = .ok (.getfield 7, 3) := by decide +kernel
theorem dX9_endMonth_15 : decode cX9_endMonth 15 = .ok (.bipush 13, 2) := by decide +kernel
theorem dX9_endMonth_17 : decode cX9_endMonth 17 = .ok (.iaload, 1) := by decide +kernel
theorem dX9_endMonth_18 : decode cX9_endMonth 18 = .ok (.bipush 35, 2) := by decide +kernel
theorem dX9_endMonth_20 : decode cX9_endMonth 20 = .ok (.if_icmp .ne 7, 3) := by decide +kernel
theorem dX9_endMonth_23 : decode cX9_endMonth 23 = .ok (.iconst 1, 1) := by decide +kernel
theorem dX9_endMonth_24 : decode cX9_endMonth 24 = .ok (.goto 4, 3) := by decide +kernel
theorem dX9_endMonth_27 : decode cX9_endMonth 27 = .ok (.iconst 0, 1) := by decide +kernel
theorem dX9_endMonth_28 : decode cX9_endMonth 28 = .ok (.putfield 33, 3) := by decide +kernel
theorem dX9_endMonth_31 : decode cX9_endMonth 31 = .ok (.aload_n 0, 1) := by decide +kernel
theorem dX9_endMonth_32 : decode cX9_endMonth 32 = .ok (.getfield 33, 3) := by decide +kernel
theorem dX9_endMonth_35 : decode cX9_endMonth 35 = .ok (.ifCond .le 5, 3) := by decide +kernel
theorem dX9_endMonth_38 : decode cX9_endMonth 38 = .ok (.lconst 0, 1) := by decide +kernel
theorem dX9_endMonth_39 : decode cX9_endMonth 39 = .ok (.lreturn, 1) := by decide +kernel
theorem dX9_endMonth_40 : decode cX9_endMonth 40 = .ok (.aload_n 0, 1) := by decide +kernel
theorem dX9_endMonth_41 : decode cX9_endMonth 41 = .ok (.invokevirtual 128, 3) := by decide +kernel
theorem dX9_endMonth_44 : decode cX9_endMonth 44 = .ok (.aload_n 0, 1) := by decide +kernel
theorem dX9_endMonth_45 : decode cX9_endMonth 45 = .ok (.invokevirtual 283, 3) := by decide +kernel
theorem dX9_endMonth_48 : decode cX9_endMonth 48 = .ok (.aload_n 0, 1) := by decide +kernel
theorem dX9_endMonth_49 : decode cX9_endMonth 49 = .ok (.getfield 7, 3) := by decide +kernel
theorem dX9_endMonth_52 : decode cX9_endMonth 52 = .ok (.bipush 13, 2) := by decide +kernel
theorem dX9_endMonth_54 : decode cX9_endMonth 54 = .ok (.dup2, 1) := by decide +kernel
theorem dX9_endMonth_55 : decode cX9_endMonth 55 = .ok (.iaload, 1) := by decide +kernel
theorem dX9_endMonth_56 : decode cX9_endMonth 56 = .ok (.iconst 1, 1) := by decide +kernel
theorem dX9_endMonth_57 : decode cX9_endMonth 57 = .ok (.iadd, 1) := by decide +kernel
theorem dX9_endMonth_58 : decode cX9_endMonth 58 = .ok (.iastore, 1) := by decide +kernel
theorem dX9_endMonth_59 : decode cX9_endMonth 59 = .ok (.aload_n 0, 1) := by decide +kernel
theorem dX9_endMonth_60 : decode cX9_endMonth 60 = .ok (.getfield 19, 3) := by decide +kernel
theorem dX9_endMonth_63 : decode cX9_endMonth 63 = .ok (.iconst 0, 1) := by decide +kernel
theorem dX9_endMonth_64 : decode cX9_endMonth 64 = .ok (.laload, 1) := by decide +kernel
theorem dX9_endMonth_65 : decode cX9_endMonth 65 = .ok (.lreturn, 1) := by decide +kernel
theorem dX9_charge_0 : decode cX9_charge 0 = .ok (.aload_n 0, 1) := by decide +kernel
theorem dX9_charge_1 : decode cX9_charge 1 = .ok (.iload_n 1, 1) := by decide +kernel
theorem dX9_charge_2 : decode cX9_charge 2 = .ok (.i2l, 1) := by decide +kernel
theorem dX9_charge_3 : decode cX9_charge 3 = .ok (.lconst 0, 1) := by decide +kernel
theorem dX9_charge_4 : decode cX9_charge 4 = .ok (.aload_n 0, 1) := by decide +kernel
theorem dX9_charge_5 : decode cX9_charge 5 = .ok (.getfield 7, 3) := by decide +kernel
theorem dX9_charge_8 : decode cX9_charge 8 = .ok (.bipush 13, 2) := by decide +kernel
theorem dX9_charge_10 : decode cX9_charge 10 = .ok (.iaload, 1) := by decide +kernel
theorem dX9_charge_11 : decode cX9_charge 11 = .ok (.i2l, 1) := by decide +kernel
theorem dX9_charge_12 : decode cX9_charge 12 = .ok (.invokestatic 74, 3) := by decide +kernel
theorem dX9_charge_15 : decode cX9_charge 15 = .ok (.ifCond .ne 7, 3) := by decide +kernel
theorem dX9_charge_18 : decode cX9_charge 18 = .ok (.iconst 1, 1) := by decide +kernel
theorem dX9_charge_19 : decode cX9_charge 19 = .ok (.goto 18, 3) := by decide +kernel
theorem dX9_charge_22 : decode cX9_charge 22 = .ok (.aload_n 0, 1) := by decide +kernel
theorem dX9_charge_23 : decode cX9_charge 23 = .ok (.getfield 7, 3) := by decide +kernel
theorem dX9_charge_26 : decode cX9_charge 26 = .ok (.iconst 0, 1) := by decide +kernel
theorem dX9_charge_27 : decode cX9_charge 27 = .ok (.iaload, 1) := by decide +kernel
theorem dX9_charge_28 : decode cX9_charge 28 = .ok (.iconst 3, 1) := by decide +kernel
theorem dX9_charge_29 : decode cX9_charge 29 = .ok (.if_icmp .ge 7, 3) := by decide +kernel
theorem dX9_charge_32 : decode cX9_charge 32 = .ok (.iconst 2, 1) := by decide +kernel
theorem dX9_charge_33 : decode cX9_charge 33 = .ok (.goto 4, 3) := by decide +kernel
theorem dX9_charge_36 : decode cX9_charge 36 = .ok (.iconst 0, 1) := by decide +kernel
theorem dX9_charge_37 : decode cX9_charge 37 = .ok (.putfield 33, 3) := by decide +kernel
theorem dX9_charge_40 : decode cX9_charge 40 = .ok (.aload_n 0, 1) := by decide +kernel
theorem dX9_charge_41 : decode cX9_charge 41 = .ok (.getfield 33, 3) := by decide +kernel
theorem dX9_charge_44 : decode cX9_charge 44 = .ok (.ifCond .le 7, 3) := by decide +kernel
theorem dX9_charge_47 : decode cX9_charge 47 = .ok (.lconst 0, 1) := by decide +kernel
theorem dX9_charge_48 : decode cX9_charge 48 = .ok (.goto 8, 3) := by decide +kernel
theorem dX9_charge_51 : decode cX9_charge 51 = .ok (.aload_n 0, 1) := by decide +kernel
theorem dX9_charge_52 : decode cX9_charge 52 = .ok (.iload_n 1, 1) := by decide +kernel
theorem dX9_charge_53 : decode cX9_charge 53 = .ok (.invokevirtual 280, 3) := by decide +kernel
theorem dX9_charge_56 : decode cX9_charge 56 = .ok (.lreturn, 1) := by decide +kernel
theorem dX9_pay_0 : decode cX9_pay 0 = .ok (.aload_n 0, 1) := by decide +kernel
theorem dX9_pay_1 : decode cX9_pay 1 = .ok (.iload_n 1, 1) := by decide +kernel
theorem dX9_pay_2 : decode cX9_pay 2 = .ok (.i2l, 1) := by decide +kernel
theorem dX9_pay_3 : decode cX9_pay 3 = .ok (.lconst 1, 1) := by decide +kernel
theorem dX9_pay_4 : decode cX9_pay 4 = .ok (.ldc2_w 200, 3) := by decide +kernel
theorem dX9_pay_7 : decode cX9_pay 7 = .ok (.invokestatic 74, 3) := by decide +kernel
theorem dX9_pay_10 : decode cX9_pay 10 = .ok (.ifCond .ne 7, 3) := by decide +kernel
theorem dX9_pay_13 : decode cX9_pay 13 = .ok (.iconst 1, 1) := by decide +kernel
theorem dX9_pay_14 : decode cX9_pay 14 = .ok (.goto 28, 3) := by decide +kernel
theorem dX9_pay_17 : decode cX9_pay 17 = .ok (.aload_n 0, 1) := by decide +kernel
theorem dX9_pay_18 : decode cX9_pay 18 = .ok (.getfield 7, 3) := by decide +kernel
theorem dX9_pay_21 : decode cX9_pay 21 = .ok (.iconst 0, 1) := by decide +kernel
theorem dX9_pay_22 : decode cX9_pay 22 = .ok (.iaload, 1) := by decide +kernel
theorem dX9_pay_23 : decode cX9_pay 23 = .ok (.iconst 3, 1) := by decide +kernel
theorem dX9_pay_24 : decode cX9_pay 24 = .ok (.if_icmp .eq 17, 3) := by decide +kernel
theorem dX9_pay_27 : decode cX9_pay 27 = .ok (.aload_n 0, 1) := by decide +kernel
theorem dX9_pay_28 : decode cX9_pay 28 = .ok (.getfield 7, 3) := by decide +kernel
theorem dX9_pay_31 : decode cX9_pay 31 = .ok (.iconst 0, 1) := by decide +kernel
theorem dX9_pay_32 : decode cX9_pay 32 = .ok (.iaload, 1) := by decide +kernel
theorem dX9_pay_33 : decode cX9_pay 33 = .ok (.iconst 4, 1) := by decide +kernel
theorem dX9_pay_34 : decode cX9_pay 34 = .ok (.if_icmp .eq 7, 3) := by decide +kernel
theorem dX9_pay_37 : decode cX9_pay 37 = .ok (.iconst 2, 1) := by decide +kernel
theorem dX9_pay_38 : decode cX9_pay 38 = .ok (.goto 4, 3) := by decide +kernel
theorem dX9_pay_41 : decode cX9_pay 41 = .ok (.iconst 0, 1) := by decide +kernel
theorem dX9_pay_42 : decode cX9_pay 42 = .ok (.putfield 33, 3) := by decide +kernel
theorem dX9_pay_45 : decode cX9_pay 45 = .ok (.aload_n 0, 1) := by decide +kernel
theorem dX9_pay_46 : decode cX9_pay 46 = .ok (.getfield 33, 3) := by decide +kernel
theorem dX9_pay_49 : decode cX9_pay 49 = .ok (.ifCond .le 5, 3) := by decide +kernel
theorem dX9_pay_52 : decode cX9_pay 52 = .ok (.lconst 0, 1) := by decide +kernel
theorem dX9_pay_53 : decode cX9_pay 53 = .ok (.lreturn, 1) := by decide +kernel
theorem dX9_pay_54 : decode cX9_pay 54 = .ok (.aload_n 0, 1) := by decide +kernel
theorem dX9_pay_55 : decode cX9_pay 55 = .ok (.invokevirtual 128, 3) := by decide +kernel
theorem dX9_pay_58 : decode cX9_pay 58 = .ok (.aload_n 0, 1) := by decide +kernel
theorem dX9_pay_59 : decode cX9_pay 59 = .ok (.getfield 19, 3) := by decide +kernel
theorem dX9_pay_62 : decode cX9_pay 62 = .ok (.iconst 0, 1) := by decide +kernel
theorem dX9_pay_63 : decode cX9_pay 63 = .ok (.dup2, 1) := by decide +kernel
theorem dX9_pay_64 : decode cX9_pay 64 = .ok (.laload, 1) := by decide +kernel
theorem dX9_pay_65 : decode cX9_pay 65 = .ok (.iload_n 1, 1) := by decide +kernel
theorem dX9_pay_66 : decode cX9_pay 66 = .ok (.i2l, 1) := by decide +kernel
theorem dX9_pay_67 : decode cX9_pay 67 = .ok (.lsub, 1) := by decide +kernel
theorem dX9_pay_68 : decode cX9_pay 68 = .ok (.lastore, 1) := by decide +kernel
theorem dX9_pay_69 : decode cX9_pay 69 = .ok (.aload_n 0, 1) := by decide +kernel
theorem dX9_pay_70 : decode cX9_pay 70 = .ok (.getfield 19, 3) := by decide +kernel
theorem dX9_pay_73 : decode cX9_pay 73 = .ok (.iconst 0, 1) := by decide +kernel
theorem dX9_pay_74 : decode cX9_pay 74 = .ok (.laload, 1) := by decide +kernel
theorem dX9_pay_75 : decode cX9_pay 75 = .ok (.lreturn, 1) := by decide +kernel
theorem dX9_projectedDebt_0 : decode cX9_projectedDebt 0 = .ok (.aload_n 0, 1) := by decide +kernel
theorem dX9_projectedDebt_1 : decode cX9_projectedDebt 1 = .ok (.iload_n 1, 1) := by decide +kernel
theorem dX9_projectedDebt_2 : decode cX9_projectedDebt 2 = .ok (.i2l, 1) := by decide +kernel
theorem dX9_projectedDebt_3 : decode cX9_projectedDebt 3 = .ok (.lconst 1, 1) := by decide +kernel
theorem dX9_projectedDebt_4 : decode cX9_projectedDebt 4 = .ok (.ldc2_w 286, 3) := by decide +kernel
theorem dX9_projectedDebt_7 : decode cX9_projectedDebt 7 = .ok (.invokestatic 74, 3) := by decide +kernel
theorem dX9_projectedDebt_10 : decode cX9_projectedDebt 10 = .ok (.ifCond .ne 7, 3) := by decide +kernel
theorem dX9_projectedDebt_13 : decode cX9_projectedDebt 13 = .ok (.iconst 1, 1) := by decide +kernel
theorem dX9_projectedDebt_14 : decode cX9_projectedDebt 14 = .ok (.goto 18, 3) := by decide +kernel
theorem dX9_projectedDebt_17 : decode cX9_projectedDebt 17 = .ok (.aload_n 0, 1) := by decide +kernel
theorem dX9_projectedDebt_18 : decode cX9_projectedDebt 18 = .ok (.getfield 7, 3) := by decide +kernel
theorem dX9_projectedDebt_21 : decode cX9_projectedDebt 21 = .ok (.iconst 0, 1) := by decide +kernel
theorem dX9_projectedDebt_22 : decode cX9_projectedDebt 22 = .ok (.iaload, 1) := by decide +kernel
theorem dX9_projectedDebt_23 : decode cX9_projectedDebt 23 = .ok (.iconst 3, 1) := by decide +kernel
theorem dX9_projectedDebt_24 : decode cX9_projectedDebt 24 = .ok (.if_icmp .eq 7, 3) := by decide +kernel
theorem dX9_projectedDebt_27 : decode cX9_projectedDebt 27 = .ok (.iconst 2, 1) := by decide +kernel
theorem dX9_projectedDebt_28 : decode cX9_projectedDebt 28 = .ok (.goto 4, 3) := by decide +kernel
theorem dX9_projectedDebt_31 : decode cX9_projectedDebt 31 = .ok (.iconst 0, 1) := by decide +kernel
theorem dX9_projectedDebt_32 : decode cX9_projectedDebt 32 = .ok (.putfield 33, 3) := by decide +kernel
theorem dX9_projectedDebt_35 : decode cX9_projectedDebt 35 = .ok (.aload_n 0, 1) := by decide +kernel
theorem dX9_projectedDebt_36 : decode cX9_projectedDebt 36 = .ok (.getfield 33, 3) := by decide +kernel
theorem dX9_projectedDebt_39 : decode cX9_projectedDebt 39 = .ok (.ifCond .le 5, 3) := by decide +kernel
theorem dX9_projectedDebt_42 : decode cX9_projectedDebt 42 = .ok (.lconst 0, 1) := by decide +kernel
theorem dX9_projectedDebt_43 : decode cX9_projectedDebt 43 = .ok (.lreturn, 1) := by decide +kernel
theorem dX9_projectedDebt_44 : decode cX9_projectedDebt 44 = .ok (.aload_n 0, 1) := by decide +kernel
theorem dX9_projectedDebt_45 : decode cX9_projectedDebt 45 = .ok (.getfield 19, 3) := by decide +kernel
theorem dX9_projectedDebt_48 : decode cX9_projectedDebt 48 = .ok (.iconst 0, 1) := by decide +kernel
theorem dX9_projectedDebt_49 : decode cX9_projectedDebt 49 = .ok (.laload, 1) := by decide +kernel
theorem dX9_projectedDebt_50 : decode cX9_projectedDebt 50 = .ok (.lstore_n 2, 1) := by decide +kernel
theorem dX9_projectedDebt_51 : decode cX9_projectedDebt 51 = .ok (.iconst 0, 1) := by decide +kernel
theorem dX9_projectedDebt_52 : decode cX9_projectedDebt 52 = .ok (.istore 4, 2) := by decide +kernel
theorem dX9_projectedDebt_54 : decode cX9_projectedDebt 54 = .ok (.iload 4, 2) := by decide +kernel
theorem dX9_projectedDebt_56 : decode cX9_projectedDebt 56 = .ok (.iload_n 1, 1) := by decide +kernel
theorem dX9_projectedDebt_57 : decode cX9_projectedDebt 57 = .ok (.if_icmp .ge 51, 3) := by decide +kernel
theorem dX9_projectedDebt_60 : decode cX9_projectedDebt 60 = .ok (.lload_n 2, 1) := by decide +kernel
theorem dX9_projectedDebt_61 : decode cX9_projectedDebt 61 = .ok (.lconst 0, 1) := by decide +kernel
theorem dX9_projectedDebt_62 : decode cX9_projectedDebt 62 = .ok (.lcmp, 1) := by decide +kernel
theorem dX9_projectedDebt_63 : decode cX9_projectedDebt 63 = .ok (.ifCond .le 20, 3) := by decide +kernel
theorem dX9_projectedDebt_66 : decode cX9_projectedDebt 66 = .ok (.lload_n 2, 1) := by decide +kernel
theorem dX9_projectedDebt_67 : decode cX9_projectedDebt 67 = .ok (.lload_n 2, 1) := by decide +kernel
theorem dX9_projectedDebt_68 : decode cX9_projectedDebt 68 = .ok (.aload_n 0, 1) := by decide +kernel
theorem dX9_projectedDebt_69 : decode cX9_projectedDebt 69 = .ok (.getfield 7, 3) := by decide +kernel
theorem dX9_projectedDebt_72 : decode cX9_projectedDebt 72 = .ok (.bipush 6, 2) := by decide +kernel
theorem dX9_projectedDebt_74 : decode cX9_projectedDebt 74 = .ok (.iaload, 1) := by decide +kernel
theorem dX9_projectedDebt_75 : decode cX9_projectedDebt 75 = .ok (.i2l, 1) := by decide +kernel
theorem dX9_projectedDebt_76 : decode cX9_projectedDebt 76 = .ok (.lmul, 1) := by decide +kernel
theorem dX9_projectedDebt_77 : decode cX9_projectedDebt 77 = .ok (.ldc2_w 278, 3) := by decide +kernel
theorem dX9_projectedDebt_80 : decode cX9_projectedDebt 80 = .ok (.ldiv, 1) := by decide +kernel
theorem dX9_projectedDebt_81 : decode cX9_projectedDebt 81 = .ok (.ladd, 1) := by decide +kernel
theorem dX9_projectedDebt_82 : decode cX9_projectedDebt 82 = .ok (.lstore_n 2, 1) := by decide +kernel
theorem dX9_projectedDebt_83 : decode cX9_projectedDebt 83 = .ok (.iload 4, 2) := by decide +kernel
theorem dX9_projectedDebt_85 : decode cX9_projectedDebt 85 = .ok (.ifCond .ne 17, 3) := by decide +kernel
theorem dX9_projectedDebt_88 : decode cX9_projectedDebt 88 = .ok (.lload_n 2, 1) := by decide +kernel
theorem dX9_projectedDebt_89 : decode cX9_projectedDebt 89 = .ok (.aload_n 0, 1) := by decide +kernel
theorem dX9_projectedDebt_90 : decode cX9_projectedDebt 90 = .ok (.aload_n 0, 1) := by decide +kernel
theorem dX9_projectedDebt_91 : decode cX9_projectedDebt 91 = .ok (.getfield 7, 3) := by decide +kernel
theorem dX9_projectedDebt_94 : decode cX9_projectedDebt 94 = .ok (.bipush 13, 2) := by decide +kernel
theorem dX9_projectedDebt_96 : decode cX9_projectedDebt 96 = .ok (.iaload, 1) := by decide +kernel
theorem dX9_projectedDebt_97 : decode cX9_projectedDebt 97 = .ok (.invokevirtual 280, 3) := by decide +kernel
theorem dX9_projectedDebt_100 : decode cX9_projectedDebt 100 = .ok (.ladd, 1) := by decide +kernel
theorem dX9_projectedDebt_101 : decode cX9_projectedDebt 101 = .ok (.lstore_n 2, 1) := by decide +kernel
theorem dX9_projectedDebt_102 : decode cX9_projectedDebt 102 = .ok (.iinc 4 1, 3) := by decide +kernel
theorem dX9_projectedDebt_105 : decode cX9_projectedDebt 105 = .ok (.goto (-51), 3) := by decide +kernel
theorem dX9_projectedDebt_108 : decode cX9_projectedDebt 108 = .ok (.lload_n 2, 1) := by decide +kernel
theorem dX9_projectedDebt_109 : decode cX9_projectedDebt 109 = .ok (.lreturn, 1) := by decide +kernel
theorem dX9_debt_0 : decode cX9_debt 0 = .ok (.aload_n 0, 1) := by decide +kernel
theorem dX9_debt_1 : decode cX9_debt 1 = .ok (.iconst 0, 1) := by decide +kernel
theorem dX9_debt_2 : decode cX9_debt 2 = .ok (.putfield 33, 3) := by decide +kernel
theorem dX9_debt_5 : decode cX9_debt 5 = .ok (.aload_n 0, 1) := by decide +kernel
theorem dX9_debt_6 : decode cX9_debt 6 = .ok (.getfield 19, 3) := by decide +kernel
theorem dX9_debt_9 : decode cX9_debt 9 = .ok (.iconst 0, 1) := by decide +kernel
theorem dX9_debt_10 : decode cX9_debt 10 = .ok (.laload, 1) := by decide +kernel
theorem dX9_debt_11 : decode cX9_debt 11 = .ok (.lreturn, 1) := by decide +kernel
theorem dX9_adjustment_0 : decode cX9_adjustment 0 = .ok (.aload_n 0, 1) := by decide +kernel
theorem dX9_adjustment_1 : decode cX9_adjustment 1 = .ok (.iconst 0, 1) := by decide +kernel
theorem dX9_adjustment_2 : decode cX9_adjustment 2 = .ok (.putfield 33, 3) := by decide +kernel
theorem dX9_adjustment_5 : decode cX9_adjustment 5 = .ok (.aload_n 0, 1) := by decide +kernel
theorem dX9_adjustment_6 : decode cX9_adjustment 6 = .ok (.invokevirtual 288, 3) := by decide +kernel
theorem dX9_adjustment_9 : decode cX9_adjustment 9 = .ok (.lreturn, 1) := by decide +kernel
theorem dX9_close_0 : decode cX9_close 0 = .ok (.aload_n 0, 1) := by decide +kernel
theorem dX9_close_1 : decode cX9_close 1 = .ok (.aload_n 0, 1) := by decide +kernel
theorem dX9_close_2 : decode cX9_close 2 = .ok (.getfield 7, 3) := by decide +kernel
theorem dX9_close_5 : decode cX9_close 5 = .ok (.iconst 0, 1) := by decide +kernel
theorem dX9_close_6 : decode cX9_close 6 = .ok (.iaload, 1) := by decide +kernel
theorem dX9_close_7 : decode cX9_close 7 = .ok (.iconst 3, 1) := by decide +kernel
theorem dX9_close_8 : decode cX9_close 8 = .ok (.if_icmp .ne 7, 3) := by decide +kernel
theorem dX9_close_11 : decode cX9_close 11 = .ok (.iconst 0, 1) := by decide +kernel
theorem dX9_close_12 : decode cX9_close 12 = .ok (.goto 4, 3) := by decide +kernel
theorem dX9_close_15 : decode cX9_close 15 = .ok (.iconst 1, 1) := by decide +kernel
theorem dX9_close_16 : decode cX9_close 16 = .ok (.putfield 33, 3) := by decide +kernel
theorem dX9_close_19 : decode cX9_close 19 = .ok (.aload_n 0, 1) := by decide +kernel
theorem dX9_close_20 : decode cX9_close 20 = .ok (.getfield 33, 3) := by decide +kernel
theorem dX9_close_23 : decode cX9_close 23 = .ok (.ifCond .le 5, 3) := by decide +kernel
theorem dX9_close_26 : decode cX9_close 26 = .ok (.lconst 0, 1) := by decide +kernel
theorem dX9_close_27 : decode cX9_close 27 = .ok (.lreturn, 1) := by decide +kernel
theorem dX9_close_28 : decode cX9_close 28 = .ok (.aload_n 0, 1) := by decide +kernel
theorem dX9_close_29 : decode cX9_close 29 = .ok (.invokevirtual 128, 3) := by decide +kernel
theorem dX9_close_32 : decode cX9_close 32 = .ok (.aload_n 0, 1) := by decide +kernel
theorem dX9_close_33 : decode cX9_close 33 = .ok (.invokevirtual 283, 3) := by decide +kernel
theorem dX9_close_36 : decode cX9_close 36 = .ok (.aload_n 0, 1) := by decide +kernel
theorem dX9_close_37 : decode cX9_close 37 = .ok (.invokevirtual 288, 3) := by decide +kernel
theorem dX9_close_40 : decode cX9_close 40 = .ok (.lstore_n 1, 1) := by decide +kernel
theorem dX9_close_41 : decode cX9_close 41 = .ok (.aload_n 0, 1) := by decide +kernel
theorem dX9_close_42 : decode cX9_close 42 = .ok (.getfield 19, 3) := by decide +kernel
theorem dX9_close_45 : decode cX9_close 45 = .ok (.iconst 0, 1) := by decide +kernel
theorem dX9_close_46 : decode cX9_close 46 = .ok (.dup2, 1) := by decide +kernel
theorem dX9_close_47 : decode cX9_close 47 = .ok (.laload, 1) := by decide +kernel
theorem dX9_close_48 : decode cX9_close 48 = .ok (.lload_n 1, 1) := by decide +kernel
theorem dX9_close_49 : decode cX9_close 49 = .ok (.aload_n 0, 1) := by decide +kernel
theorem dX9_close_50 : decode cX9_close 50 = .ok (.getfield 7, 3) := by decide +kernel
theorem dX9_close_53 : decode cX9_close 53 = .ok (.bipush 15, 2) := by decide +kernel
theorem dX9_close_55 : decode cX9_close 55 = .ok (.iaload, 1) := by decide +kernel
theorem dX9_close_56 : decode cX9_close 56 = .ok (.i2l, 1) := by decide +kernel
theorem dX9_close_57 : decode cX9_close 57 = .ok (.lsub, 1) := by decide +kernel
theorem dX9_close_58 : decode cX9_close 58 = .ok (.ladd, 1) := by decide +kernel
theorem dX9_close_59 : decode cX9_close 59 = .ok (.lastore, 1) := by decide +kernel
theorem dX9_close_60 : decode cX9_close 60 = .ok (.aload_n 0, 1) := by decide +kernel
theorem dX9_close_61 : decode cX9_close 61 = .ok (.getfield 19, 3) := by decide +kernel
theorem dX9_close_64 : decode cX9_close 64 = .ok (.iconst 1, 1) := by decide +kernel
theorem dX9_close_65 : decode cX9_close 65 = .ok (.aload_n 0, 1) := by decide +kernel
theorem dX9_close_66 : decode cX9_close 66 = .ok (.getfield 7, 3) := by decide +kernel
theorem dX9_close_69 : decode cX9_close 69 = .ok (.bipush 13, 2) := by decide +kernel
theorem dX9_close_71 : decode cX9_close 71 = .ok (.iaload, 1) := by decide +kernel
theorem dX9_close_72 : decode cX9_close 72 = .ok (.iadd, 1) := by decide +kernel
theorem dX9_close_73 : decode cX9_close 73 = .ok (.dup2, 1) := by decide +kernel
theorem dX9_close_74 : decode cX9_close 74 = .ok (.laload, 1) := by decide +kernel
theorem dX9_close_75 : decode cX9_close 75 = .ok (.lload_n 1, 1) := by decide +kernel
theorem dX9_close_76 : decode cX9_close 76 = .ok (.ladd, 1) := by decide +kernel
theorem dX9_close_77 : decode cX9_close 77 = .ok (.lastore, 1) := by decide +kernel
theorem dX9_close_78 : decode cX9_close 78 = .ok (.aload_n 0, 1) := by decide +kernel
theorem dX9_close_79 : decode cX9_close 79 = .ok (.getfield 7, 3) := by decide +kernel
theorem dX9_close_82 : decode cX9_close 82 = .ok (.bipush 16, 2) := by decide +kernel
theorem dX9_close_84 : decode cX9_close 84 = .ok (.iconst 1, 1) := by decide +kernel
theorem dX9_close_85 : decode cX9_close 85 = .ok (.iastore, 1) := by decide +kernel
theorem dX9_close_86 : decode cX9_close 86 = .ok (.aload_n 0, 1) := by decide +kernel
theorem dX9_close_87 : decode cX9_close 87 = .ok (.getfield 7, 3) := by decide +kernel
theorem dX9_close_90 : decode cX9_close 90 = .ok (.iconst 0, 1) := by decide +kernel
theorem dX9_close_91 : decode cX9_close 91 = .ok (.iconst 4, 1) := by decide +kernel
theorem dX9_close_92 : decode cX9_close 92 = .ok (.iastore, 1) := by decide +kernel
theorem dX9_close_93 : decode cX9_close 93 = .ok (.aload_n 0, 1) := by decide +kernel
theorem dX9_close_94 : decode cX9_close 94 = .ok (.getfield 19, 3) := by decide +kernel
theorem dX9_close_97 : decode cX9_close 97 = .ok (.iconst 0, 1) := by decide +kernel
theorem dX9_close_98 : decode cX9_close 98 = .ok (.laload, 1) := by decide +kernel
theorem dX9_close_99 : decode cX9_close 99 = .ok (.lreturn, 1) := by decide +kernel
theorem dX9_remains_0 : decode cX9_remains 0 = .ok (.bipush 10, 2) := by decide +kernel
theorem dX9_remains_2 : decode cX9_remains 2 = .ok (.aload_n 0, 1) := by decide +kernel
theorem dX9_remains_3 : decode cX9_remains 3 = .ok (.getfield 7, 3) := by decide +kernel
theorem dX9_remains_6 : decode cX9_remains 6 = .ok (.bipush 32, 2) := by decide +kernel
theorem dX9_remains_8 : decode cX9_remains 8 = .ok (.iload_n 1, 1) := by decide +kernel
theorem dX9_remains_9 : decode cX9_remains 9 = .ok (.iadd, 1) := by decide +kernel
theorem dX9_remains_10 : decode cX9_remains 10 = .ok (.iaload, 1) := by decide +kernel
theorem dX9_remains_11 : decode cX9_remains 11 = .ok (.imul, 1) := by decide +kernel
theorem dX9_remains_12 : decode cX9_remains 12 = .ok (.aload_n 0, 1) := by decide +kernel
theorem dX9_remains_13 : decode cX9_remains 13 = .ok (.iload_n 1, 1) := by decide +kernel
theorem dX9_remains_14 : decode cX9_remains 14 = .ok (.iconst 0, 1) := by decide +kernel
theorem dX9_remains_15 : decode cX9_remains 15 = .ok (.bipush 36, 2) := by decide +kernel
theorem dX9_remains_17 : decode cX9_remains 17 = .ok (.invokevirtual 266, 3) := by decide +kernel
theorem dX9_remains_20 : decode cX9_remains 20 = .ok (.isub, 1) := by decide +kernel
theorem dX9_remains_21 : decode cX9_remains 21 = .ok (.istore_n 2, 1) := by decide +kernel
theorem dX9_remains_22 : decode cX9_remains 22 = .ok (.iload_n 2, 1) := by decide +kernel
theorem dX9_remains_23 : decode cX9_remains 23 = .ok (.ifCond .le 10, 3) := by decide +kernel
theorem dX9_remains_26 : decode cX9_remains 26 = .ok (.iload_n 2, 1) := by decide +kernel
theorem dX9_remains_27 : decode cX9_remains 27 = .ok (.bipush 10, 2) := by decide +kernel
theorem dX9_remains_29 : decode cX9_remains 29 = .ok (.idiv, 1) := by decide +kernel
theorem dX9_remains_30 : decode cX9_remains 30 = .ok (.goto 4, 3) := by decide +kernel
theorem dX9_remains_33 : decode cX9_remains 33 = .ok (.iconst 0, 1) := by decide +kernel
theorem dX9_remains_34 : decode cX9_remains 34 = .ok (.ireturn, 1) := by decide +kernel
theorem dX9_remaining_0 : decode cX9_remaining 0 = .ok (.aload_n 0, 1) := by decide +kernel
theorem dX9_remaining_1 : decode cX9_remaining 1 = .ok (.aload_n 0, 1) := by decide +kernel
theorem dX9_remaining_2 : decode cX9_remaining 2 = .ok (.iload_n 1, 1) := by decide +kernel
theorem dX9_remaining_3 : decode cX9_remaining 3 = .ok (.invokevirtual 137, 3) := by decide +kernel
theorem dX9_remaining_6 : decode cX9_remaining 6 = .ok (.ifCond .ne 7, 3) := by decide +kernel
theorem dX9_remaining_9 : decode cX9_remaining 9 = .ok (.iconst 1, 1) := by decide +kernel
theorem dX9_remaining_10 : decode cX9_remaining 10 = .ok (.goto 18, 3) := by decide +kernel
theorem dX9_remaining_13 : decode cX9_remaining 13 = .ok (.aload_n 0, 1) := by decide +kernel
theorem dX9_remaining_14 : decode cX9_remaining 14 = .ok (.getfield 7, 3) := by decide +kernel
theorem dX9_remaining_17 : decode cX9_remaining 17 = .ok (.iconst 0, 1) := by decide +kernel
theorem dX9_remaining_18 : decode cX9_remaining 18 = .ok (.iaload, 1) := by decide +kernel
theorem dX9_remaining_19 : decode cX9_remaining 19 = .ok (.iconst 3, 1) := by decide +kernel
theorem dX9_remaining_20 : decode cX9_remaining 20 = .ok (.if_icmp .ge 7, 3) := by decide +kernel
theorem dX9_remaining_23 : decode cX9_remaining 23 = .ok (.iconst 2, 1) := by decide +kernel
theorem dX9_remaining_24 : decode cX9_remaining 24 = .ok (.goto 4, 3) := by decide +kernel
theorem dX9_remaining_27 : decode cX9_remaining 27 = .ok (.iconst 0, 1) := by decide +kernel
theorem dX9_remaining_28 : decode cX9_remaining 28 = .ok (.putfield 33, 3) := by decide +kernel
theorem dX9_remaining_31 : decode cX9_remaining 31 = .ok (.aload_n 0, 1) := by decide +kernel
theorem dX9_remaining_32 : decode cX9_remaining 32 = .ok (.getfield 33, 3) := by decide +kernel
theorem dX9_remaining_35 : decode cX9_remaining 35 = .ok (.ifCond .le 7, 3) := by decide +kernel
theorem dX9_remaining_38 : decode cX9_remaining 38 = .ok (.iconst 0, 1) := by decide +kernel
theorem dX9_remaining_39 : decode cX9_remaining 39 = .ok (.goto 8, 3) := by decide +kernel
theorem dX9_remaining_42 : decode cX9_remaining 42 = .ok (.aload_n 0, 1) := by decide +kernel
theorem dX9_remaining_43 : decode cX9_remaining 43 = .ok (.iload_n 1, 1) := by decide +kernel
theorem dX9_remaining_44 : decode cX9_remaining 44 = .ok (.invokevirtual 174, 3) := by decide +kernel
theorem dX9_remaining_47 : decode cX9_remaining 47 = .ok (.ireturn, 1) := by decide +kernel
theorem dX9_remainsInAll_0 : decode cX9_remainsInAll 0 = .ok (.iconst 0, 1) := by decide +kernel
theorem dX9_remainsInAll_1 : decode cX9_remainsInAll 1 = .ok (.istore_n 1, 1) := by decide +kernel
theorem dX9_remainsInAll_2 : decode cX9_remainsInAll 2 = .ok (.iconst 0, 1) := by decide +kernel
theorem dX9_remainsInAll_3 : decode cX9_remainsInAll 3 = .ok (.istore_n 2, 1) := by decide +kernel
theorem dX9_remainsInAll_4 : decode cX9_remainsInAll 4 = .ok (.iload_n 2, 1) := by decide +kernel
theorem dX9_remainsInAll_5 : decode cX9_remainsInAll 5 = .ok (.aload_n 0, 1) := by decide +kernel
theorem dX9_remainsInAll_6 : decode cX9_remainsInAll 6 = .ok (.getfield 7, 3) := by decide +kernel
theorem dX9_remainsInAll_9 : decode cX9_remainsInAll 9 = .ok (.bipush 8, 2) := by decide +kernel
theorem dX9_remainsInAll_11 : decode cX9_remainsInAll 11 = .ok (.iaload, 1) := by decide +kernel
theorem dX9_remainsInAll_12 : decode cX9_remainsInAll 12 = .ok (.if_icmp .ge 17, 3) := by decide +kernel
theorem dX9_remainsInAll_15 : decode cX9_remainsInAll 15 = .ok (.iload_n 1, 1) := by decide +kernel
theorem dX9_remainsInAll_16 : decode cX9_remainsInAll 16 = .ok (.aload_n 0, 1) := by decide +kernel
theorem dX9_remainsInAll_17 : decode cX9_remainsInAll 17 = .ok (.iload_n 2, 1) := by decide +kernel
theorem dX9_remainsInAll_18 : decode cX9_remainsInAll 18 = .ok (.invokevirtual 174, 3) := by decide +kernel
theorem dX9_remainsInAll_21 : decode cX9_remainsInAll 21 = .ok (.iadd, 1) := by decide +kernel
theorem dX9_remainsInAll_22 : decode cX9_remainsInAll 22 = .ok (.istore_n 1, 1) := by decide +kernel
theorem dX9_remainsInAll_23 : decode cX9_remainsInAll 23 = .ok (.iinc 2 1, 3) := by decide +kernel
theorem dX9_remainsInAll_26 : decode cX9_remainsInAll 26 = .ok (.goto (-22), 3) := by decide +kernel
theorem dX9_remainsInAll_29 : decode cX9_remainsInAll 29 = .ok (.iload_n 1, 1) := by decide +kernel
theorem dX9_remainsInAll_30 : decode cX9_remainsInAll 30 = .ok (.ireturn, 1) := by decide +kernel
theorem dX9_declareDefault_0 : decode cX9_declareDefault 0 = .ok (.aload_n 0, 1) := by decide +kernel
theorem dX9_declareDefault_1 : decode cX9_declareDefault 1 = .ok (.getfield 7, 3) := by decide +kernel
theorem dX9_declareDefault_4 : decode cX9_declareDefault 4 = .ok (.iconst 0, 1) := by decide +kernel
theorem dX9_declareDefault_5 : decode cX9_declareDefault 5 = .ok (.iaload, 1) := by decide +kernel
theorem dX9_declareDefault_6 : decode cX9_declareDefault 6 = .ok (.iconst 3, 1) := by decide +kernel
theorem dX9_declareDefault_7 : decode cX9_declareDefault 7 = .ok (.if_icmp .ne 48, 3) := by decide +kernel
theorem dX9_declareDefault_10 : decode cX9_declareDefault 10 = .ok (.aload_n 0, 1) := by decide +kernel
theorem dX9_declareDefault_11 : decode cX9_declareDefault 11 = .ok (.getfield 19, 3) := by decide +kernel
theorem dX9_declareDefault_14 : decode cX9_declareDefault 14 = .ok (.iconst 0, 1) := by decide +kernel
theorem dX9_declareDefault_15 : decode cX9_declareDefault 15 = .ok (.laload, 1) := by decide +kernel
theorem dX9_declareDefault_16 : decode cX9_declareDefault 16 = .ok (.aload_n 0, 1) := by decide +kernel
theorem dX9_declareDefault_17 : decode cX9_declareDefault 17 = .ok (.getfield 7, 3) := by decide +kernel
theorem dX9_declareDefault_20 : decode cX9_declareDefault 20 = .ok (.bipush 15, 2) := by decide +kernel
theorem dX9_declareDefault_22 : decode cX9_declareDefault 22 = .ok (.iaload, 1) := by decide +kernel
theorem dX9_declareDefault_23 : decode cX9_declareDefault 23 = .ok (.i2l, 1) := by decide +kernel
theorem dX9_declareDefault_24 : decode cX9_declareDefault 24 = .ok (.lcmp, 1) := by decide +kernel
theorem dX9_declareDefault_25 : decode cX9_declareDefault 25 = .ok (.ifCond .gt 26, 3) := by decide +kernel
theorem dX9_declareDefault_28 : decode cX9_declareDefault 28 = .ok (.aload_n 0, 1) := by decide +kernel
theorem dX9_declareDefault_29 : decode cX9_declareDefault 29 = .ok (.getfield 7, 3) := by decide +kernel
theorem dX9_declareDefault_32 : decode cX9_declareDefault 32 = .ok (.bipush 13, 2) := by decide +kernel
theorem dX9_declareDefault_34 : decode cX9_declareDefault 34 = .ok (.iaload, 1) := by decide +kernel
theorem dX9_declareDefault_35 : decode cX9_declareDefault 35 = .ok (.aload_n 0, 1) := by decide +kernel
theorem dX9_declareDefault_36 : decode cX9_declareDefault 36 = .ok (.getfield 7, 3) := by decide +kernel
theorem dX9_declareDefault_39 : decode cX9_declareDefault 39 = .ok (.iconst 2, 1) := by decide +kernel
theorem dX9_declareDefault_40 : decode cX9_declareDefault 40 = .ok (.iaload, 1) := by decide +kernel
theorem dX9_declareDefault_41 : decode cX9_declareDefault 41 = .ok (.if_icmp .lt 14, 3) := by decide +kernel
theorem dX9_declareDefault_44 : decode cX9_declareDefault 44 = .ok (.aload_n 0, 1) := by decide +kernel
theorem dX9_declareDefault_45 : decode cX9_declareDefault 45 = .ok (.invokevirtual 292, 3) := by decide +kernel
theorem dX9_declareDefault_48 : decode cX9_declareDefault 48 = .ok (.ifCond .le 7, 3) := by decide +kernel
theorem dX9_declareDefault_51 : decode cX9_declareDefault 51 = .ok (.iconst 1, 1) := by decide +kernel
theorem dX9_declareDefault_52 : decode cX9_declareDefault 52 = .ok (.goto 4, 3) := by decide +kernel
theorem dX9_declareDefault_55 : decode cX9_declareDefault 55 = .ok (.iconst 0, 1) := by decide +kernel
theorem dX9_declareDefault_56 : decode cX9_declareDefault 56 = .ok (.istore_n 1, 1) := by decide +kernel
theorem dX9_declareDefault_57 : decode cX9_declareDefault 57 = .ok (.aload_n 0, 1) := by decide +kernel
theorem dX9_declareDefault_58 : decode cX9_declareDefault 58 = .ok (.iload_n 1, 1) := by decide +kernel
theorem dX9_declareDefault_59 : decode cX9_declareDefault 59 = .ok (.ifCond .eq 7, 3) := by decide +kernel
theorem dX9_declareDefault_62 : decode cX9_declareDefault 62 = .ok (.iconst 0, 1) := by decide +kernel
theorem dX9_declareDefault_63 : decode cX9_declareDefault 63 = .ok (.goto 4, 3) := by decide +kernel
theorem dX9_declareDefault_66 : decode cX9_declareDefault 66 = .ok (.iconst 1, 1) := by decide +kernel
theorem dX9_declareDefault_67 : decode cX9_declareDefault 67 = .ok (.putfield 33, 3) := by decide +kernel
theorem dX9_declareDefault_70 : decode cX9_declareDefault 70 = .ok (.aload_n 0, 1) := by decide +kernel
theorem dX9_declareDefault_71 : decode cX9_declareDefault 71 = .ok (.getfield 33, 3) := by decide +kernel
theorem dX9_declareDefault_74 : decode cX9_declareDefault 74 = .ok (.ifCond .le 5, 3) := by decide +kernel
theorem dX9_declareDefault_77 : decode cX9_declareDefault 77 = .ok (.iconst 0, 1) := by decide +kernel
theorem dX9_declareDefault_78 : decode cX9_declareDefault 78 = .ok (.ireturn, 1) := by decide +kernel
theorem dX9_declareDefault_79 : decode cX9_declareDefault 79 = .ok (.aload_n 0, 1) := by decide +kernel
theorem dX9_declareDefault_80 : decode cX9_declareDefault 80 = .ok (.invokevirtual 128, 3) := by decide +kernel
theorem dX9_declareDefault_83 : decode cX9_declareDefault 83 = .ok (.aload_n 0, 1) := by decide +kernel
theorem dX9_declareDefault_84 : decode cX9_declareDefault 84 = .ok (.getfield 7, 3) := by decide +kernel
theorem dX9_declareDefault_87 : decode cX9_declareDefault 87 = .ok (.iconst 0, 1) := by decide +kernel
theorem dX9_declareDefault_88 : decode cX9_declareDefault 88 = .ok (.iconst 5, 1) := by decide +kernel
theorem dX9_declareDefault_89 : decode cX9_declareDefault 89 = .ok (.iastore, 1) := by decide +kernel
theorem dX9_declareDefault_90 : decode cX9_declareDefault 90 = .ok (.aload_n 0, 1) := by decide +kernel
theorem dX9_declareDefault_91 : decode cX9_declareDefault 91 = .ok (.invokevirtual 292, 3) := by decide +kernel
theorem dX9_declareDefault_94 : decode cX9_declareDefault 94 = .ok (.ireturn, 1) := by decide +kernel
theorem dX9_damages_0 : decode cX9_damages 0 = .ok (.aload_n 0, 1) := by decide +kernel
theorem dX9_damages_1 : decode cX9_damages 1 = .ok (.aload_n 0, 1) := by decide +kernel
theorem dX9_damages_2 : decode cX9_damages 2 = .ok (.getfield 7, 3) := by decide +kernel
theorem dX9_damages_5 : decode cX9_damages 5 = .ok (.iconst 0, 1) := by decide +kernel
theorem dX9_damages_6 : decode cX9_damages 6 = .ok (.iaload, 1) := by decide +kernel
theorem dX9_damages_7 : decode cX9_damages 7 = .ok (.bipush 8, 2) := by decide +kernel
theorem dX9_damages_9 : decode cX9_damages 9 = .ok (.if_icmp .ne 7, 3) := by decide +kernel
theorem dX9_damages_12 : decode cX9_damages 12 = .ok (.iconst 0, 1) := by decide +kernel
theorem dX9_damages_13 : decode cX9_damages 13 = .ok (.goto 4, 3) := by decide +kernel
theorem dX9_damages_16 : decode cX9_damages 16 = .ok (.iconst 1, 1) := by decide +kernel
theorem dX9_damages_17 : decode cX9_damages 17 = .ok (.putfield 33, 3) := by decide +kernel
theorem dX9_damages_20 : decode cX9_damages 20 = .ok (.aload_n 0, 1) := by decide +kernel
theorem dX9_damages_21 : decode cX9_damages 21 = .ok (.getfield 33, 3) := by decide +kernel
theorem dX9_damages_24 : decode cX9_damages 24 = .ok (.ifCond .le 5, 3) := by decide +kernel
theorem dX9_damages_27 : decode cX9_damages 27 = .ok (.lconst 0, 1) := by decide +kernel
theorem dX9_damages_28 : decode cX9_damages 28 = .ok (.lreturn, 1) := by decide +kernel
theorem dX9_damages_29 : decode cX9_damages 29 = .ok (.aload_n 0, 1) := by decide +kernel
theorem dX9_damages_30 : decode cX9_damages 30 = .ok (.getfield 7, 3) := by decide +kernel
theorem dX9_damages_33 : decode cX9_damages 33 = .ok (.bipush 7, 2) := by decide +kernel
theorem dX9_damages_35 : decode cX9_damages 35 = .ok (.iaload, 1) := by decide +kernel
theorem dX9_damages_36 : decode cX9_damages 36 = .ok (.i2l, 1) := by decide +kernel
theorem dX9_damages_37 : decode cX9_damages 37 = .ok (.aload_n 0, 1) := by decide +kernel
theorem dX9_damages_38 : decode cX9_damages 38 = .ok (.getfield 19, 3) := by decide +kernel
theorem dX9_damages_41 : decode cX9_damages 41 = .ok (.iconst 0, 1) := by decide +kernel
theorem dX9_damages_42 : decode cX9_damages 42 = .ok (.laload, 1) := by decide +kernel
theorem dX9_damages_43 : decode cX9_damages 43 = .ok (.ladd, 1) := by decide +kernel
theorem dX9_damages_44 : decode cX9_damages 44 = .ok (.aload_n 0, 1) := by decide +kernel
theorem dX9_damages_45 : decode cX9_damages 45 = .ok (.getfield 7, 3) := by decide +kernel
theorem dX9_damages_48 : decode cX9_damages 48 = .ok (.bipush 15, 2) := by decide +kernel
theorem dX9_damages_50 : decode cX9_damages 50 = .ok (.iaload, 1) := by decide +kernel
theorem dX9_damages_51 : decode cX9_damages 51 = .ok (.i2l, 1) := by decide +kernel
theorem dX9_damages_52 : decode cX9_damages 52 = .ok (.lsub, 1) := by decide +kernel
theorem dX9_damages_53 : decode cX9_damages 53 = .ok (.aload_n 0, 1) := by decide +kernel
theorem dX9_damages_54 : decode cX9_damages 54 = .ok (.aload_n 0, 1) := by decide +kernel
theorem dX9_damages_55 : decode cX9_damages 55 = .ok (.getfield 7, 3) := by decide +kernel
theorem dX9_damages_58 : decode cX9_damages 58 = .ok (.bipush 12, 2) := by decide +kernel
theorem dX9_damages_60 : decode cX9_damages 60 = .ok (.iaload, 1) := by decide +kernel
theorem dX9_damages_61 : decode cX9_damages 61 = .ok (.iconst (-1), 1) := by decide +kernel
theorem dX9_damages_62 : decode cX9_damages 62 = .ok (.bipush 100, 2) := by decide +kernel
theorem dX9_damages_64 : decode cX9_damages 64 = .ok (.invokevirtual 207, 3) := by decide +kernel
theorem dX9_damages_67 : decode cX9_damages 67 = .ok (.lsub, 1) := by decide +kernel
theorem dX9_damages_68 : decode cX9_damages 68 = .ok (.lstore_n 1, 1) := by decide +kernel
theorem dX9_damages_69 : decode cX9_damages 69 = .ok (.iconst 0, 1) := by decide +kernel
theorem dX9_damages_70 : decode cX9_damages 70 = .ok (.istore_n 3, 1) := by decide +kernel
theorem dX9_damages_71 : decode cX9_damages 71 = .ok (.iload_n 3, 1) := by decide +kernel
theorem dX9_damages_72 : decode cX9_damages 72 = .ok (.aload_n 0, 1) := by decide +kernel
theorem dX9_damages_73 : decode cX9_damages 73 = .ok (.getfield 7, 3) := by decide +kernel
theorem dX9_damages_76 : decode cX9_damages 76 = .ok (.bipush 8, 2) := by decide +kernel
theorem dX9_damages_78 : decode cX9_damages 78 = .ok (.iaload, 1) := by decide +kernel
theorem dX9_damages_79 : decode cX9_damages 79 = .ok (.if_icmp .ge 34, 3) := by decide +kernel
theorem dX9_damages_82 : decode cX9_damages 82 = .ok (.lload_n 1, 1) := by decide +kernel
theorem dX9_damages_83 : decode cX9_damages 83 = .ok (.aload_n 0, 1) := by decide +kernel
theorem dX9_damages_84 : decode cX9_damages 84 = .ok (.iload_n 3, 1) := by decide +kernel
theorem dX9_damages_85 : decode cX9_damages 85 = .ok (.invokevirtual 174, 3) := by decide +kernel
theorem dX9_damages_88 : decode cX9_damages 88 = .ok (.i2l, 1) := by decide +kernel
theorem dX9_damages_89 : decode cX9_damages 89 = .ok (.aload_n 0, 1) := by decide +kernel
theorem dX9_damages_90 : decode cX9_damages 90 = .ok (.iload_n 3, 1) := by decide +kernel
theorem dX9_damages_91 : decode cX9_damages 91 = .ok (.aload_n 0, 1) := by decide +kernel
theorem dX9_damages_92 : decode cX9_damages 92 = .ok (.getfield 7, 3) := by decide +kernel
theorem dX9_damages_95 : decode cX9_damages 95 = .ok (.bipush 13, 2) := by decide +kernel
theorem dX9_damages_97 : decode cX9_damages 97 = .ok (.iaload, 1) := by decide +kernel
theorem dX9_damages_98 : decode cX9_damages 98 = .ok (.iconst 3, 1) := by decide +kernel
theorem dX9_damages_99 : decode cX9_damages 99 = .ok (.idiv, 1) := by decide +kernel
theorem dX9_damages_100 : decode cX9_damages 100 = .ok (.invokevirtual 246, 3) := by decide +kernel
theorem dX9_damages_103 : decode cX9_damages 103 = .ok (.i2l, 1) := by decide +kernel
theorem dX9_damages_104 : decode cX9_damages 104 = .ok (.lmul, 1) := by decide +kernel
theorem dX9_damages_105 : decode cX9_damages 105 = .ok (.ladd, 1) := by decide +kernel
theorem dX9_damages_106 : decode cX9_damages 106 = .ok (.lstore_n 1, 1) := by decide +kernel
theorem dX9_damages_107 : decode cX9_damages 107 = .ok (.iinc 3 1, 3) := by decide +kernel
theorem dX9_damages_110 : decode cX9_damages 110 = .ok (.goto (-39), 3) := by decide +kernel
theorem dX9_damages_113 : decode cX9_damages 113 = .ok (.lload_n 1, 1) := by decide +kernel
theorem dX9_damages_114 : decode cX9_damages 114 = .ok (.lreturn, 1) := by decide +kernel
