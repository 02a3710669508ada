theorem d_V_count_0 : decode b_V_count 0 = .ok (.aload_n 0, 1) := by decide +kernel
theorem d_V_count_1 : decode b_V_count 1 = .ok (.iload_n 1, 1) := by decide +kernel
theorem d_V_count_2 : decode b_V_count 2 = .ok (.invokevirtual 92, 3) := by decide +kernel
theorem d_V_count_5 : decode b_V_count 5 = .ok (.astore_n 3, 1) := by decide +kernel
theorem d_V_count_6 : decode b_V_count 6 = .ok (.aload_n 3, 1) := by decide +kernel
theorem d_V_count_7 : decode b_V_count 7 = .ok (.ifnull 17, 3) := by decide +kernel
theorem d_V_count_10 : decode b_V_count 10 = .ok (.iload_n 2, 1) := by decide +kernel
theorem d_V_count_11 : decode b_V_count 11 = .ok (.iconst 0, 1) := by decide +kernel
theorem d_V_count_12 : decode b_V_count 12 = .ok (.aload_n 3, 1) := by decide +kernel
theorem d_V_count_13 : decode b_V_count 13 = .ok (.getfield 133, 3) := by decide +kernel
theorem d_V_count_16 : decode b_V_count 16 = .ok (.iconst 1, 1) := by decide +kernel
theorem d_V_count_17 : decode b_V_count 17 = .ok (.isub, 1) := by decide +kernel
theorem d_V_count_18 : decode b_V_count 18 = .ok (.invokestatic 44, 3) := by decide +kernel
theorem d_V_count_21 : decode b_V_count 21 = .ok (.ifCond .eq 5, 3) := by decide +kernel
theorem d_V_count_24 : decode b_V_count 24 = .ok (.iconst (-1), 1) := by decide +kernel
theorem d_V_count_25 : decode b_V_count 25 = .ok (.ireturn, 1) := by decide +kernel
theorem d_V_count_26 : decode b_V_count 26 = .ok (.aload_n 0, 1) := by decide +kernel
theorem d_V_count_27 : decode b_V_count 27 = .ok (.aload_n 3, 1) := by decide +kernel
theorem d_V_count_28 : decode b_V_count 28 = .ok (.invokevirtual 136, 3) := by decide +kernel
theorem d_V_count_31 : decode b_V_count 31 = .ok (.aload_n 0, 1) := by decide +kernel
theorem d_V_count_32 : decode b_V_count 32 = .ok (.getfield 38, 3) := by decide +kernel
theorem d_V_count_35 : decode b_V_count 35 = .ok (.iload_n 2, 1) := by decide +kernel
theorem d_V_count_36 : decode b_V_count 36 = .ok (.iaload, 1) := by decide +kernel
theorem d_V_count_37 : decode b_V_count 37 = .ok (.ireturn, 1) := by decide +kernel
theorem d_V_fallen_0 : decode b_V_fallen 0 = .ok (.aload_n 0, 1) := by decide +kernel
theorem d_V_fallen_1 : decode b_V_fallen 1 = .ok (.iload_n 1, 1) := by decide +kernel
theorem d_V_fallen_2 : decode b_V_fallen 2 = .ok (.invokevirtual 92, 3) := by decide +kernel
theorem d_V_fallen_5 : decode b_V_fallen 5 = .ok (.astore_n 3, 1) := by decide +kernel
theorem d_V_fallen_6 : decode b_V_fallen 6 = .ok (.aload_n 3, 1) := by decide +kernel
theorem d_V_fallen_7 : decode b_V_fallen 7 = .ok (.ifnonnull 5, 3) := by decide +kernel
theorem d_V_fallen_10 : decode b_V_fallen 10 = .ok (.iconst (-1), 1) := by decide +kernel
theorem d_V_fallen_11 : decode b_V_fallen 11 = .ok (.ireturn, 1) := by decide +kernel
theorem d_V_fallen_12 : decode b_V_fallen 12 = .ok (.aload_n 3, 1) := by decide +kernel
theorem d_V_fallen_13 : decode b_V_fallen 13 = .ok (.getfield 140, 3) := by decide +kernel
theorem d_V_fallen_16 : decode b_V_fallen 16 = .ok (.iconst 2, 1) := by decide +kernel
theorem d_V_fallen_17 : decode b_V_fallen 17 = .ok (.if_icmp .eq 6, 3) := by decide +kernel
theorem d_V_fallen_20 : decode b_V_fallen 20 = .ok (.bipush (-3), 2) := by decide +kernel
theorem d_V_fallen_22 : decode b_V_fallen 22 = .ok (.ireturn, 1) := by decide +kernel
theorem d_V_fallen_23 : decode b_V_fallen 23 = .ok (.aload_n 0, 1) := by decide +kernel
theorem d_V_fallen_24 : decode b_V_fallen 24 = .ok (.aload_n 3, 1) := by decide +kernel
theorem d_V_fallen_25 : decode b_V_fallen 25 = .ok (.invokevirtual 136, 3) := by decide +kernel
theorem d_V_fallen_28 : decode b_V_fallen 28 = .ok (.iload_n 2, 1) := by decide +kernel
theorem d_V_fallen_29 : decode b_V_fallen 29 = .ok (.iconst 0, 1) := by decide +kernel
theorem d_V_fallen_30 : decode b_V_fallen 30 = .ok (.aload_n 0, 1) := by decide +kernel
theorem d_V_fallen_31 : decode b_V_fallen 31 = .ok (.getfield 143, 3) := by decide +kernel
theorem d_V_fallen_34 : decode b_V_fallen 34 = .ok (.iconst 1, 1) := by decide +kernel
theorem d_V_fallen_35 : decode b_V_fallen 35 = .ok (.isub, 1) := by decide +kernel
theorem d_V_fallen_36 : decode b_V_fallen 36 = .ok (.invokestatic 44, 3) := by decide +kernel
theorem d_V_fallen_39 : decode b_V_fallen 39 = .ok (.ifCond .eq 7, 3) := by decide +kernel
theorem d_V_fallen_42 : decode b_V_fallen 42 = .ok (.iconst (-1), 1) := by decide +kernel
theorem d_V_fallen_43 : decode b_V_fallen 43 = .ok (.goto 9, 3) := by decide +kernel
theorem d_V_fallen_46 : decode b_V_fallen 46 = .ok (.aload_n 0, 1) := by decide +kernel
theorem d_V_fallen_47 : decode b_V_fallen 47 = .ok (.getfield 41, 3) := by decide +kernel
theorem d_V_fallen_50 : decode b_V_fallen 50 = .ok (.iload_n 2, 1) := by decide +kernel
theorem d_V_fallen_51 : decode b_V_fallen 51 = .ok (.iaload, 1) := by decide +kernel
theorem d_V_fallen_52 : decode b_V_fallen 52 = .ok (.ireturn, 1) := by decide +kernel
theorem d_V_mostCounted_0 : decode b_V_mostCounted 0 = .ok (.iconst (-1), 1) := by decide +kernel
theorem d_V_mostCounted_1 : decode b_V_mostCounted 1 = .ok (.istore_n 2, 1) := by decide +kernel
theorem d_V_mostCounted_2 : decode b_V_mostCounted 2 = .ok (.iconst 0, 1) := by decide +kernel
theorem d_V_mostCounted_3 : decode b_V_mostCounted 3 = .ok (.istore_n 3, 1) := by decide +kernel
theorem d_V_mostCounted_4 : decode b_V_mostCounted 4 = .ok (.iconst 0, 1) := by decide +kernel
theorem d_V_mostCounted_5 : decode b_V_mostCounted 5 = .ok (.istore 4, 2) := by decide +kernel
theorem d_V_mostCounted_7 : decode b_V_mostCounted 7 = .ok (.iload 4, 2) := by decide +kernel
theorem d_V_mostCounted_9 : decode b_V_mostCounted 9 = .ok (.aload_n 1, 1) := by decide +kernel
theorem d_V_mostCounted_10 : decode b_V_mostCounted 10 = .ok (.getfield 133, 3) := by decide +kernel
theorem d_V_mostCounted_13 : decode b_V_mostCounted 13 = .ok (.if_icmp .ge 31, 3) := by decide +kernel
theorem d_V_mostCounted_16 : decode b_V_mostCounted 16 = .ok (.aload_n 0, 1) := by decide +kernel
theorem d_V_mostCounted_17 : decode b_V_mostCounted 17 = .ok (.getfield 38, 3) := by decide +kernel
theorem d_V_mostCounted_20 : decode b_V_mostCounted 20 = .ok (.iload 4, 2) := by decide +kernel
theorem d_V_mostCounted_22 : decode b_V_mostCounted 22 = .ok (.iaload, 1) := by decide +kernel
theorem d_V_mostCounted_23 : decode b_V_mostCounted 23 = .ok (.iload_n 3, 1) := by decide +kernel
theorem d_V_mostCounted_24 : decode b_V_mostCounted 24 = .ok (.if_icmp .le 14, 3) := by decide +kernel
theorem d_V_mostCounted_27 : decode b_V_mostCounted 27 = .ok (.iload 4, 2) := by decide +kernel
theorem d_V_mostCounted_29 : decode b_V_mostCounted 29 = .ok (.istore_n 2, 1) := by decide +kernel
theorem d_V_mostCounted_30 : decode b_V_mostCounted 30 = .ok (.aload_n 0, 1) := by decide +kernel
theorem d_V_mostCounted_31 : decode b_V_mostCounted 31 = .ok (.getfield 38, 3) := by decide +kernel
theorem d_V_mostCounted_34 : decode b_V_mostCounted 34 = .ok (.iload 4, 2) := by decide +kernel
theorem d_V_mostCounted_36 : decode b_V_mostCounted 36 = .ok (.iaload, 1) := by decide +kernel
theorem d_V_mostCounted_37 : decode b_V_mostCounted 37 = .ok (.istore_n 3, 1) := by decide +kernel
theorem d_V_mostCounted_38 : decode b_V_mostCounted 38 = .ok (.iinc 4 1, 3) := by decide +kernel
theorem d_V_mostCounted_41 : decode b_V_mostCounted 41 = .ok (.goto (-34), 3) := by decide +kernel
theorem d_V_mostCounted_44 : decode b_V_mostCounted 44 = .ok (.iload_n 2, 1) := by decide +kernel
theorem d_V_mostCounted_45 : decode b_V_mostCounted 45 = .ok (.ireturn, 1) := by decide +kernel
theorem d_V_winner_0 : decode b_V_winner 0 = .ok (.aload_n 0, 1) := by decide +kernel
theorem d_V_winner_1 : decode b_V_winner 1 = .ok (.iload_n 1, 1) := by decide +kernel
theorem d_V_winner_2 : decode b_V_winner 2 = .ok (.invokevirtual 92, 3) := by decide +kernel
theorem d_V_winner_5 : decode b_V_winner 5 = .ok (.astore_n 2, 1) := by decide +kernel
theorem d_V_winner_6 : decode b_V_winner 6 = .ok (.aload_n 2, 1) := by decide +kernel
theorem d_V_winner_7 : decode b_V_winner 7 = .ok (.ifnonnull 5, 3) := by decide +kernel
theorem d_V_winner_10 : decode b_V_winner 10 = .ok (.iconst (-1), 1) := by decide +kernel
theorem d_V_winner_11 : decode b_V_winner 11 = .ok (.ireturn, 1) := by decide +kernel
theorem d_V_winner_12 : decode b_V_winner 12 = .ok (.aload_n 0, 1) := by decide +kernel
theorem d_V_winner_13 : decode b_V_winner 13 = .ok (.aload_n 2, 1) := by decide +kernel
theorem d_V_winner_14 : decode b_V_winner 14 = .ok (.invokevirtual 136, 3) := by decide +kernel
theorem d_V_winner_17 : decode b_V_winner 17 = .ok (.aload_n 0, 1) := by decide +kernel
theorem d_V_winner_18 : decode b_V_winner 18 = .ok (.aload_n 2, 1) := by decide +kernel
theorem d_V_winner_19 : decode b_V_winner 19 = .ok (.invokevirtual 146, 3) := by decide +kernel
theorem d_V_winner_22 : decode b_V_winner 22 = .ok (.istore_n 3, 1) := by decide +kernel
theorem d_V_winner_23 : decode b_V_winner 23 = .ok (.iload_n 3, 1) := by decide +kernel
theorem d_V_winner_24 : decode b_V_winner 24 = .ok (.iconst (-1), 1) := by decide +kernel
theorem d_V_winner_25 : decode b_V_winner 25 = .ok (.if_icmp .ne 8, 3) := by decide +kernel
theorem d_V_winner_28 : decode b_V_winner 28 = .ok (.bipush (-3), 2) := by decide +kernel
theorem d_V_winner_30 : decode b_V_winner 30 = .ok (.goto 4, 3) := by decide +kernel
theorem d_V_winner_33 : decode b_V_winner 33 = .ok (.iload_n 3, 1) := by decide +kernel
theorem d_V_winner_34 : decode b_V_winner 34 = .ok (.ireturn, 1) := by decide +kernel
theorem d_V_isPassed_0 : decode b_V_isPassed 0 = .ok (.aload_n 0, 1) := by decide +kernel
theorem d_V_isPassed_1 : decode b_V_isPassed 1 = .ok (.getfield 66, 3) := by decide +kernel
theorem d_V_isPassed_4 : decode b_V_isPassed 4 = .ok (.aload_n 1, 1) := by decide +kernel
theorem d_V_isPassed_5 : decode b_V_isPassed 5 = .ok (.getfield 105, 3) := by decide +kernel
theorem d_V_isPassed_8 : decode b_V_isPassed 8 = .ok (.if_icmp .ge 5, 3) := by decide +kernel
theorem d_V_isPassed_11 : decode b_V_isPassed 11 = .ok (.iconst 0, 1) := by decide +kernel
theorem d_V_isPassed_12 : decode b_V_isPassed 12 = .ok (.ireturn, 1) := by decide +kernel
theorem d_V_isPassed_13 : decode b_V_isPassed 13 = .ok (.aload_n 0, 1) := by decide +kernel
theorem d_V_isPassed_14 : decode b_V_isPassed 14 = .ok (.aload_n 1, 1) := by decide +kernel
theorem d_V_isPassed_15 : decode b_V_isPassed 15 = .ok (.invokevirtual 136, 3) := by decide +kernel
theorem d_V_isPassed_18 : decode b_V_isPassed 18 = .ok (.iconst 0, 1) := by decide +kernel
theorem d_V_isPassed_19 : decode b_V_isPassed 19 = .ok (.istore_n 2, 1) := by decide +kernel
theorem d_V_isPassed_20 : decode b_V_isPassed 20 = .ok (.iconst 0, 1) := by decide +kernel
theorem d_V_isPassed_21 : decode b_V_isPassed 21 = .ok (.istore_n 3, 1) := by decide +kernel
theorem d_V_isPassed_22 : decode b_V_isPassed 22 = .ok (.iconst 0, 1) := by decide +kernel
theorem d_V_isPassed_23 : decode b_V_isPassed 23 = .ok (.istore 4, 2) := by decide +kernel
theorem d_V_isPassed_25 : decode b_V_isPassed 25 = .ok (.iload 4, 2) := by decide +kernel
theorem d_V_isPassed_27 : decode b_V_isPassed 27 = .ok (.bipush 8, 2) := by decide +kernel
theorem d_V_isPassed_29 : decode b_V_isPassed 29 = .ok (.if_icmp .ge 40, 3) := by decide +kernel
theorem d_V_isPassed_32 : decode b_V_isPassed 32 = .ok (.iload_n 3, 1) := by decide +kernel
theorem d_V_isPassed_33 : decode b_V_isPassed 33 = .ok (.aload_n 1, 1) := by decide +kernel
theorem d_V_isPassed_34 : decode b_V_isPassed 34 = .ok (.getfield 85, 3) := by decide +kernel
theorem d_V_isPassed_37 : decode b_V_isPassed 37 = .ok (.iload 4, 2) := by decide +kernel
theorem d_V_isPassed_39 : decode b_V_isPassed 39 = .ok (.iaload, 1) := by decide +kernel
theorem d_V_isPassed_40 : decode b_V_isPassed 40 = .ok (.iadd, 1) := by decide +kernel
theorem d_V_isPassed_41 : decode b_V_isPassed 41 = .ok (.istore_n 3, 1) := by decide +kernel
theorem d_V_isPassed_42 : decode b_V_isPassed 42 = .ok (.aload_n 0, 1) := by decide +kernel
theorem d_V_isPassed_43 : decode b_V_isPassed 43 = .ok (.getfield 35, 3) := by decide +kernel
theorem d_V_isPassed_46 : decode b_V_isPassed 46 = .ok (.iload 4, 2) := by decide +kernel
theorem d_V_isPassed_48 : decode b_V_isPassed 48 = .ok (.iaload, 1) := by decide +kernel
theorem d_V_isPassed_49 : decode b_V_isPassed 49 = .ok (.iconst (-1), 1) := by decide +kernel
theorem d_V_isPassed_50 : decode b_V_isPassed 50 = .ok (.if_icmp .eq 13, 3) := by decide +kernel
theorem d_V_isPassed_53 : decode b_V_isPassed 53 = .ok (.iload_n 2, 1) := by decide +kernel
theorem d_V_isPassed_54 : decode b_V_isPassed 54 = .ok (.aload_n 1, 1) := by decide +kernel
theorem d_V_isPassed_55 : decode b_V_isPassed 55 = .ok (.getfield 85, 3) := by decide +kernel
theorem d_V_isPassed_58 : decode b_V_isPassed 58 = .ok (.iload 4, 2) := by decide +kernel
theorem d_V_isPassed_60 : decode b_V_isPassed 60 = .ok (.iaload, 1) := by decide +kernel
theorem d_V_isPassed_61 : decode b_V_isPassed 61 = .ok (.iadd, 1) := by decide +kernel
theorem d_V_isPassed_62 : decode b_V_isPassed 62 = .ok (.istore_n 2, 1) := by decide +kernel
theorem d_V_isPassed_63 : decode b_V_isPassed 63 = .ok (.iinc 4 1, 3) := by decide +kernel
theorem d_V_isPassed_66 : decode b_V_isPassed 66 = .ok (.goto (-41), 3) := by decide +kernel
theorem d_V_isPassed_69 : decode b_V_isPassed 69 = .ok (.aload_n 0, 1) := by decide +kernel
theorem d_V_isPassed_70 : decode b_V_isPassed 70 = .ok (.aload_n 1, 1) := by decide +kernel
theorem d_V_isPassed_71 : decode b_V_isPassed 71 = .ok (.invokevirtual 146, 3) := by decide +kernel
theorem d_V_isPassed_74 : decode b_V_isPassed 74 = .ok (.ifCond .ne 20, 3) := by decide +kernel
theorem d_V_isPassed_77 : decode b_V_isPassed 77 = .ok (.iload_n 2, 1) := by decide +kernel
theorem d_V_isPassed_78 : decode b_V_isPassed 78 = .ok (.bipush 100, 2) := by decide +kernel
theorem d_V_isPassed_80 : decode b_V_isPassed 80 = .ok (.imul, 1) := by decide +kernel
theorem d_V_isPassed_81 : decode b_V_isPassed 81 = .ok (.aload_n 1, 1) := by decide +kernel
theorem d_V_isPassed_82 : decode b_V_isPassed 82 = .ok (.getfield 276, 3) := by decide +kernel
theorem d_V_isPassed_85 : decode b_V_isPassed 85 = .ok (.iload_n 3, 1) := by decide +kernel
theorem d_V_isPassed_86 : decode b_V_isPassed 86 = .ok (.imul, 1) := by decide +kernel
theorem d_V_isPassed_87 : decode b_V_isPassed 87 = .ok (.if_icmp .lt 7, 3) := by decide +kernel
theorem d_V_isPassed_90 : decode b_V_isPassed 90 = .ok (.iconst 1, 1) := by decide +kernel
theorem d_V_isPassed_91 : decode b_V_isPassed 91 = .ok (.goto 4, 3) := by decide +kernel
theorem d_V_isPassed_94 : decode b_V_isPassed 94 = .ok (.iconst 0, 1) := by decide +kernel
theorem d_V_isPassed_95 : decode b_V_isPassed 95 = .ok (.ireturn, 1) := by decide +kernel
theorem d_V_passed_0 : decode b_V_passed 0 = .ok (.aload_n 0, 1) := by decide +kernel
theorem d_V_passed_1 : decode b_V_passed 1 = .ok (.iload_n 1, 1) := by decide +kernel
theorem d_V_passed_2 : decode b_V_passed 2 = .ok (.invokevirtual 92, 3) := by decide +kernel
theorem d_V_passed_5 : decode b_V_passed 5 = .ok (.astore_n 2, 1) := by decide +kernel
theorem d_V_passed_6 : decode b_V_passed 6 = .ok (.aload_n 2, 1) := by decide +kernel
theorem d_V_passed_7 : decode b_V_passed 7 = .ok (.ifnonnull 5, 3) := by decide +kernel
theorem d_V_passed_10 : decode b_V_passed 10 = .ok (.iconst (-1), 1) := by decide +kernel
theorem d_V_passed_11 : decode b_V_passed 11 = .ok (.ireturn, 1) := by decide +kernel
theorem d_V_passed_12 : decode b_V_passed 12 = .ok (.aload_n 0, 1) := by decide +kernel
theorem d_V_passed_13 : decode b_V_passed 13 = .ok (.getfield 66, 3) := by decide +kernel
theorem d_V_passed_16 : decode b_V_passed 16 = .ok (.aload_n 2, 1) := by decide +kernel
theorem d_V_passed_17 : decode b_V_passed 17 = .ok (.getfield 105, 3) := by decide +kernel
theorem d_V_passed_20 : decode b_V_passed 20 = .ok (.if_icmp .ge 6, 3) := by decide +kernel
theorem d_V_passed_23 : decode b_V_passed 23 = .ok (.bipush (-3), 2) := by decide +kernel
theorem d_V_passed_25 : decode b_V_passed 25 = .ok (.ireturn, 1) := by decide +kernel
theorem d_V_passed_26 : decode b_V_passed 26 = .ok (.aload_n 0, 1) := by decide +kernel
theorem d_V_passed_27 : decode b_V_passed 27 = .ok (.aload_n 2, 1) := by decide +kernel
theorem d_V_passed_28 : decode b_V_passed 28 = .ok (.invokevirtual 150, 3) := by decide +kernel
theorem d_V_passed_31 : decode b_V_passed 31 = .ok (.ifCond .eq 7, 3) := by decide +kernel
theorem d_V_passed_34 : decode b_V_passed 34 = .ok (.iconst 1, 1) := by decide +kernel
theorem d_V_passed_35 : decode b_V_passed 35 = .ok (.goto 4, 3) := by decide +kernel
theorem d_V_passed_38 : decode b_V_passed 38 = .ok (.iconst 0, 1) := by decide +kernel
theorem d_V_passed_39 : decode b_V_passed 39 = .ok (.ireturn, 1) := by decide +kernel
theorem d_V_run_0 : decode b_V_run 0 = .ok (.aload_n 0, 1) := by decide +kernel
theorem d_V_run_1 : decode b_V_run 1 = .ok (.iload_n 1, 1) := by decide +kernel
theorem d_V_run_2 : decode b_V_run 2 = .ok (.invokevirtual 92, 3) := by decide +kernel
theorem d_V_run_5 : decode b_V_run 5 = .ok (.astore_n 2, 1) := by decide +kernel
theorem d_V_run_6 : decode b_V_run 6 = .ok (.aload_n 2, 1) := by decide +kernel
theorem d_V_run_7 : decode b_V_run 7 = .ok (.ifnonnull 5, 3) := by decide +kernel
theorem d_V_run_10 : decode b_V_run 10 = .ok (.iconst (-1), 1) := by decide +kernel
theorem d_V_run_11 : decode b_V_run 11 = .ok (.ireturn, 1) := by decide +kernel
theorem d_V_run_12 : decode b_V_run 12 = .ok (.aload_n 0, 1) := by decide +kernel
theorem d_V_run_13 : decode b_V_run 13 = .ok (.aload_n 2, 1) := by decide +kernel
theorem d_V_run_14 : decode b_V_run 14 = .ok (.getfield 99, 3) := by decide +kernel
theorem d_V_run_17 : decode b_V_run 17 = .ok (.invokevirtual 53, 3) := by decide +kernel
theorem d_V_run_20 : decode b_V_run 20 = .ok (.ifCond .ne 42, 3) := by decide +kernel
theorem d_V_run_23 : decode b_V_run 23 = .ok (.aload_n 2, 1) := by decide +kernel
theorem d_V_run_24 : decode b_V_run 24 = .ok (.getfield 154, 3) := by decide +kernel
theorem d_V_run_27 : decode b_V_run 27 = .ok (.ifCond .ne 35, 3) := by decide +kernel
theorem d_V_run_30 : decode b_V_run 30 = .ok (.aload_n 0, 1) := by decide +kernel
theorem d_V_run_31 : decode b_V_run 31 = .ok (.getfield 66, 3) := by decide +kernel
theorem d_V_run_34 : decode b_V_run 34 = .ok (.aload_n 2, 1) := by decide +kernel
theorem d_V_run_35 : decode b_V_run 35 = .ok (.getfield 108, 3) := by decide +kernel
theorem d_V_run_38 : decode b_V_run 38 = .ok (.if_icmp .lt 24, 3) := by decide +kernel
theorem d_V_run_41 : decode b_V_run 41 = .ok (.aload_n 0, 1) := by decide +kernel
theorem d_V_run_42 : decode b_V_run 42 = .ok (.getfield 62, 3) := by decide +kernel
theorem d_V_run_45 : decode b_V_run 45 = .ok (.aload_n 2, 1) := by decide +kernel
theorem d_V_run_46 : decode b_V_run 46 = .ok (.getfield 102, 3) := by decide +kernel
theorem d_V_run_49 : decode b_V_run 49 = .ok (.i2l, 1) := by decide +kernel
theorem d_V_run_50 : decode b_V_run 50 = .ok (.lcmp, 1) := by decide +kernel
theorem d_V_run_51 : decode b_V_run 51 = .ok (.ifCond .lt 11, 3) := by decide +kernel
theorem d_V_run_54 : decode b_V_run 54 = .ok (.aload_n 0, 1) := by decide +kernel
theorem d_V_run_55 : decode b_V_run 55 = .ok (.aload_n 2, 1) := by decide +kernel
theorem d_V_run_56 : decode b_V_run 56 = .ok (.invokevirtual 150, 3) := by decide +kernel
theorem d_V_run_59 : decode b_V_run 59 = .ok (.ifCond .ne 6, 3) := by decide +kernel
theorem d_V_run_62 : decode b_V_run 62 = .ok (.bipush (-3), 2) := by decide +kernel
theorem d_V_run_64 : decode b_V_run 64 = .ok (.ireturn, 1) := by decide +kernel
theorem d_V_run_65 : decode b_V_run 65 = .ok (.aload_n 2, 1) := by decide +kernel
theorem d_V_run_66 : decode b_V_run 66 = .ok (.iconst 1, 1) := by decide +kernel
theorem d_V_run_67 : decode b_V_run 67 = .ok (.putfield 154, 3) := by decide +kernel
theorem d_V_run_70 : decode b_V_run 70 = .ok (.aload_n 0, 1) := by decide +kernel
theorem d_V_run_71 : decode b_V_run 71 = .ok (.dup, 1) := by decide +kernel
theorem d_V_run_72 : decode b_V_run 72 = .ok (.getfield 62, 3) := by decide +kernel
theorem d_V_run_75 : decode b_V_run 75 = .ok (.aload_n 2, 1) := by decide +kernel
theorem d_V_run_76 : decode b_V_run 76 = .ok (.getfield 102, 3) := by decide +kernel
theorem d_V_run_79 : decode b_V_run 79 = .ok (.i2l, 1) := by decide +kernel
theorem d_V_run_80 : decode b_V_run 80 = .ok (.lsub, 1) := by decide +kernel
theorem d_V_run_81 : decode b_V_run 81 = .ok (.putfield 62, 3) := by decide +kernel
theorem d_V_run_84 : decode b_V_run 84 = .ok (.aload_n 0, 1) := by decide +kernel
theorem d_V_run_85 : decode b_V_run 85 = .ok (.getfield 13, 3) := by decide +kernel
theorem d_V_run_88 : decode b_V_run 88 = .ok (.aload_n 2, 1) := by decide +kernel
theorem d_V_run_89 : decode b_V_run 89 = .ok (.getfield 99, 3) := by decide +kernel
theorem d_V_run_92 : decode b_V_run 92 = .ok (.dup2, 1) := by decide +kernel
theorem d_V_run_93 : decode b_V_run 93 = .ok (.laload, 1) := by decide +kernel
theorem d_V_run_94 : decode b_V_run 94 = .ok (.aload_n 2, 1) := by decide +kernel
theorem d_V_run_95 : decode b_V_run 95 = .ok (.getfield 102, 3) := by decide +kernel
theorem d_V_run_98 : decode b_V_run 98 = .ok (.i2l, 1) := by decide +kernel
theorem d_V_run_99 : decode b_V_run 99 = .ok (.ladd, 1) := by decide +kernel
theorem d_V_run_100 : decode b_V_run 100 = .ok (.lastore, 1) := by decide +kernel
theorem d_V_run_101 : decode b_V_run 101 = .ok (.iconst 1, 1) := by decide +kernel
theorem d_V_run_102 : decode b_V_run 102 = .ok (.ireturn, 1) := by decide +kernel
theorem d_A_init_0 : decode b_A_init 0 = .ok (.aload_n 0, 1) := by decide +kernel
theorem d_A_init_1 : decode b_A_init 1 = .ok (.invokespecial 3, 3) := by decide +kernel
theorem d_A_init_4 : decode b_A_init 4 = .ok (.aload_n 0, 1) := by decide +kernel
theorem d_A_init_5 : decode b_A_init 5 = .ok (.iload_n 1, 1) := by decide +kernel
theorem d_A_init_6 : decode b_A_init 6 = .ok (.putfield 9, 3) := by decide +kernel
theorem d_A_init_9 : decode b_A_init 9 = .ok (.aload_n 0, 1) := by decide +kernel
theorem d_A_init_10 : decode b_A_init 10 = .ok (.iload_n 2, 1) := by decide +kernel
theorem d_A_init_11 : decode b_A_init 11 = .ok (.putfield 15, 3) := by decide +kernel
theorem d_A_init_14 : decode b_A_init 14 = .ok (.aload_n 0, 1) := by decide +kernel
theorem d_A_init_15 : decode b_A_init 15 = .ok (.iload_n 3, 1) := by decide +kernel
theorem d_A_init_16 : decode b_A_init 16 = .ok (.putfield 18, 3) := by decide +kernel
theorem d_A_init_19 : decode b_A_init 19 = .ok (.aload_n 0, 1) := by decide +kernel
theorem d_A_init_20 : decode b_A_init 20 = .ok (.iload 4, 2) := by decide +kernel
theorem d_A_init_22 : decode b_A_init 22 = .ok (.putfield 21, 3) := by decide +kernel
theorem d_A_init_25 : decode b_A_init 25 = .ok (.aload_n 0, 1) := by decide +kernel
theorem d_A_init_26 : decode b_A_init 26 = .ok (.iload 5, 2) := by decide +kernel
theorem d_A_init_28 : decode b_A_init 28 = .ok (.putfield 24, 3) := by decide +kernel
theorem d_A_init_31 : decode b_A_init 31 = .ok (.aload_n 0, 1) := by decide +kernel
theorem d_A_init_32 : decode b_A_init 32 = .ok (.iload 6, 2) := by decide +kernel
theorem d_A_init_34 : decode b_A_init 34 = .ok (.putfield 27, 3) := by decide +kernel
theorem d_A_init_37 : decode b_A_init 37 = .ok (.aload_n 0, 1) := by decide +kernel
theorem d_A_init_38 : decode b_A_init 38 = .ok (.bipush 8, 2) := by decide +kernel
theorem d_A_init_40 : decode b_A_init 40 = .ok (.newarray .int, 2) := by decide +kernel
theorem d_A_init_42 : decode b_A_init 42 = .ok (.putfield 30, 3) := by decide +kernel
theorem d_A_init_45 : decode b_A_init 45 = .ok (.aload_n 0, 1) := by decide +kernel
theorem d_A_init_46 : decode b_A_init 46 = .ok (.bipush 8, 2) := by decide +kernel
theorem d_A_init_48 : decode b_A_init 48 = .ok (.newarray .long, 2) := by decide +kernel
theorem d_A_init_50 : decode b_A_init 50 = .ok (.putfield 34, 3) := by decide +kernel
theorem d_A_init_53 : decode b_A_init 53 = .ok (.aload_n 0, 1) := by decide +kernel
theorem d_A_init_54 : decode b_A_init 54 = .ok (.bipush 8, 2) := by decide +kernel
theorem d_A_init_56 : decode b_A_init 56 = .ok (.newarray .int, 2) := by decide +kernel
theorem d_A_init_58 : decode b_A_init 58 = .ok (.putfield 38, 3) := by decide +kernel
theorem d_A_init_61 : decode b_A_init 61 = .ok (.aload_n 0, 1) := by decide +kernel
theorem d_A_init_62 : decode b_A_init 62 = .ok (.bipush 8, 2) := by decide +kernel
theorem d_A_init_64 : decode b_A_init 64 = .ok (.newarray .int, 2) := by decide +kernel
theorem d_A_init_66 : decode b_A_init 66 = .ok (.putfield 41, 3) := by decide +kernel
theorem d_A_init_69 : decode b_A_init 69 = .ok (.aload_n 0, 1) := by decide +kernel
theorem d_A_init_70 : decode b_A_init 70 = .ok (.bipush 8, 2) := by decide +kernel
theorem d_A_init_72 : decode b_A_init 72 = .ok (.newarray .int, 2) := by decide +kernel
theorem d_A_init_74 : decode b_A_init 74 = .ok (.putfield 44, 3) := by decide +kernel
theorem d_A_init_77 : decode b_A_init 77 = .ok (.aload_n 0, 1) := by decide +kernel
theorem d_A_init_78 : decode b_A_init 78 = .ok (.iconst (-1), 1) := by decide +kernel
theorem d_A_init_79 : decode b_A_init 79 = .ok (.putfield 47, 3) := by decide +kernel
theorem d_A_init_82 : decode b_A_init 82 = .ok (.return_, 1) := by decide +kernel
theorem d_V_auction_0 : decode b_V_auction 0 = .ok (.iload_n 1, 1) := by decide +kernel
theorem d_V_auction_1 : decode b_V_auction 1 = .ok (.iconst 0, 1) := by decide +kernel
theorem d_V_auction_2 : decode b_V_auction 2 = .ok (.iconst 4, 1) := by decide +kernel
theorem d_V_auction_3 : decode b_V_auction 3 = .ok (.invokestatic 44, 3) := by decide +kernel
theorem d_V_auction_6 : decode b_V_auction 6 = .ok (.ifCond .ne 56, 3) := by decide +kernel
theorem d_V_auction_9 : decode b_V_auction 9 = .ok (.iload_n 2, 1) := by decide +kernel
theorem d_V_auction_10 : decode b_V_auction 10 = .ok (.iconst 1, 1) := by decide +kernel
theorem d_V_auction_11 : decode b_V_auction 11 = .ok (.iload_n 1, 1) := by decide +kernel
theorem d_V_auction_12 : decode b_V_auction 12 = .ok (.iconst 4, 1) := by decide +kernel
theorem d_V_auction_13 : decode b_V_auction 13 = .ok (.if_icmp .ne 8, 3) := by decide +kernel
theorem d_V_auction_16 : decode b_V_auction 16 = .ok (.bipush 20, 2) := by decide +kernel
theorem d_V_auction_18 : decode b_V_auction 18 = .ok (.goto 4, 3) := by decide +kernel
theorem d_V_auction_21 : decode b_V_auction 21 = .ok (.iconst 1, 1) := by decide +kernel
theorem d_V_auction_22 : decode b_V_auction 22 = .ok (.invokestatic 44, 3) := by decide +kernel
theorem d_V_auction_25 : decode b_V_auction 25 = .ok (.ifCond .ne 37, 3) := by decide +kernel
theorem d_V_auction_28 : decode b_V_auction 28 = .ok (.iload_n 3, 1) := by decide +kernel
theorem d_V_auction_29 : decode b_V_auction 29 = .ok (.iconst 1, 1) := by decide +kernel
theorem d_V_auction_30 : decode b_V_auction 30 = .ok (.sipush 10000, 3) := by decide +kernel
theorem d_V_auction_33 : decode b_V_auction 33 = .ok (.invokestatic 44, 3) := by decide +kernel
theorem d_V_auction_36 : decode b_V_auction 36 = .ok (.ifCond .ne 26, 3) := by decide +kernel
theorem d_V_auction_39 : decode b_V_auction 39 = .ok (.iload 4, 2) := by decide +kernel
theorem d_V_auction_41 : decode b_V_auction 41 = .ok (.iconst 0, 1) := by decide +kernel
theorem d_V_auction_42 : decode b_V_auction 42 = .ok (.sipush 1000, 3) := by decide +kernel
theorem d_V_auction_45 : decode b_V_auction 45 = .ok (.invokestatic 44, 3) := by decide +kernel
theorem d_V_auction_48 : decode b_V_auction 48 = .ok (.ifCond .ne 14, 3) := by decide +kernel
theorem d_V_auction_51 : decode b_V_auction 51 = .ok (.iload 5, 2) := by decide +kernel
theorem d_V_auction_53 : decode b_V_auction 53 = .ok (.iconst 1, 1) := by decide +kernel
theorem d_V_auction_54 : decode b_V_auction 54 = .ok (.bipush 50, 2) := by decide +kernel
theorem d_V_auction_56 : decode b_V_auction 56 = .ok (.invokestatic 44, 3) := by decide +kernel
theorem d_V_auction_59 : decode b_V_auction 59 = .ok (.ifCond .eq 6, 3) := by decide +kernel
theorem d_V_auction_62 : decode b_V_auction 62 = .ok (.bipush (-2), 2) := by decide +kernel
theorem d_V_auction_64 : decode b_V_auction 64 = .ok (.ireturn, 1) := by decide +kernel
theorem d_V_auction_65 : decode b_V_auction 65 = .ok (.aload_n 0, 1) := by decide +kernel
theorem d_V_auction_66 : decode b_V_auction 66 = .ok (.getfield 158, 3) := by decide +kernel
theorem d_V_auction_69 : decode b_V_auction 69 = .ok (.bipush 6, 2) := by decide +kernel
theorem d_V_auction_71 : decode b_V_auction 71 = .ok (.if_icmp .lt 6, 3) := by decide +kernel
theorem d_V_auction_74 : decode b_V_auction 74 = .ok (.bipush (-4), 2) := by decide +kernel
theorem d_V_auction_76 : decode b_V_auction 76 = .ok (.ireturn, 1) := by decide +kernel
theorem d_V_auction_77 : decode b_V_auction 77 = .ok (.aload_n 0, 1) := by decide +kernel
theorem d_V_auction_78 : decode b_V_auction 78 = .ok (.getfield 158, 3) := by decide +kernel
theorem d_V_auction_81 : decode b_V_auction 81 = .ok (.istore 6, 2) := by decide +kernel
theorem d_V_auction_83 : decode b_V_auction 83 = .ok (.iload_n 1, 1) := by decide +kernel
theorem d_V_auction_84 : decode b_V_auction 84 = .ok (.iconst 1, 1) := by decide +kernel
theorem d_V_auction_85 : decode b_V_auction 85 = .ok (.if_icmp .eq 8, 3) := by decide +kernel
theorem d_V_auction_88 : decode b_V_auction 88 = .ok (.iload_n 1, 1) := by decide +kernel
theorem d_V_auction_89 : decode b_V_auction 89 = .ok (.iconst 2, 1) := by decide +kernel
theorem d_V_auction_90 : decode b_V_auction 90 = .ok (.if_icmp .ne 7, 3) := by decide +kernel
theorem d_V_auction_93 : decode b_V_auction 93 = .ok (.iconst 1, 1) := by decide +kernel
theorem d_V_auction_94 : decode b_V_auction 94 = .ok (.goto 4, 3) := by decide +kernel
theorem d_V_auction_97 : decode b_V_auction 97 = .ok (.iconst 0, 1) := by decide +kernel
theorem d_V_auction_98 : decode b_V_auction 98 = .ok (.istore 7, 2) := by decide +kernel
theorem d_V_auction_100 : decode b_V_auction 100 = .ok (.aload_n 0, 1) := by decide +kernel
theorem d_V_auction_101 : decode b_V_auction 101 = .ok (.getfield 66, 3) := by decide +kernel
theorem d_V_auction_104 : decode b_V_auction 104 = .ok (.iload 5, 2) := by decide +kernel
theorem d_V_auction_106 : decode b_V_auction 106 = .ok (.iadd, 1) := by decide +kernel
theorem d_V_auction_107 : decode b_V_auction 107 = .ok (.istore 8, 2) := by decide +kernel
theorem d_V_auction_109 : decode b_V_auction 109 = .ok (.iload 7, 2) := by decide +kernel
theorem d_V_auction_111 : decode b_V_auction 111 = .ok (.ifCond .eq 10, 3) := by decide +kernel
theorem d_V_auction_114 : decode b_V_auction 114 = .ok (.iload 8, 2) := by decide +kernel
theorem d_V_auction_116 : decode b_V_auction 116 = .ok (.iconst 5, 1) := by decide +kernel
theorem d_V_auction_117 : decode b_V_auction 117 = .ok (.iadd, 1) := by decide +kernel
theorem d_V_auction_118 : decode b_V_auction 118 = .ok (.goto 5, 3) := by decide +kernel
theorem d_V_auction_121 : decode b_V_auction 121 = .ok (.iload 8, 2) := by decide +kernel
theorem d_V_auction_123 : decode b_V_auction 123 = .ok (.istore 9, 2) := by decide +kernel
theorem d_V_auction_125 : decode b_V_auction 125 = .ok (.aload_n 0, 1) := by decide +kernel
theorem d_V_auction_126 : decode b_V_auction 126 = .ok (.getfield 31, 3) := by decide +kernel
theorem d_V_auction_129 : decode b_V_auction 129 = .ok (.iload 6, 2) := by decide +kernel
theorem d_V_auction_131 : decode b_V_auction 131 = .ok (.new 29, 3) := by decide +kernel
theorem d_V_auction_134 : decode b_V_auction 134 = .ok (.dup, 1) := by decide +kernel
theorem d_V_auction_135 : decode b_V_auction 135 = .ok (.iload_n 1, 1) := by decide +kernel
theorem d_V_auction_136 : decode b_V_auction 136 = .ok (.iload_n 2, 1) := by decide +kernel
theorem d_V_auction_137 : decode b_V_auction 137 = .ok (.iload_n 3, 1) := by decide +kernel
theorem d_V_auction_138 : decode b_V_auction 138 = .ok (.iload 4, 2) := by decide +kernel
theorem d_V_auction_140 : decode b_V_auction 140 = .ok (.iload 8, 2) := by decide +kernel
theorem d_V_auction_142 : decode b_V_auction 142 = .ok (.iload 9, 2) := by decide +kernel
theorem d_V_auction_144 : decode b_V_auction 144 = .ok (.invokespecial 161, 3) := by decide +kernel
theorem d_V_auction_147 : decode b_V_auction 147 = .ok (.aastore, 1) := by decide +kernel
theorem d_V_auction_148 : decode b_V_auction 148 = .ok (.aload_n 0, 1) := by decide +kernel
theorem d_V_auction_149 : decode b_V_auction 149 = .ok (.dup, 1) := by decide +kernel
theorem d_V_auction_150 : decode b_V_auction 150 = .ok (.getfield 158, 3) := by decide +kernel
theorem d_V_auction_153 : decode b_V_auction 153 = .ok (.iconst 1, 1) := by decide +kernel
theorem d_V_auction_154 : decode b_V_auction 154 = .ok (.iadd, 1) := by decide +kernel
theorem d_V_auction_155 : decode b_V_auction 155 = .ok (.putfield 158, 3) := by decide +kernel
theorem d_V_auction_158 : decode b_V_auction 158 = .ok (.iload 6, 2) := by decide +kernel
theorem d_V_auction_160 : decode b_V_auction 160 = .ok (.ireturn, 1) := by decide +kernel
theorem d_V_auctionAt_0 : decode b_V_auctionAt 0 = .ok (.iload_n 1, 1) := by decide +kernel
theorem d_V_auctionAt_1 : decode b_V_auctionAt 1 = .ok (.iconst 0, 1) := by decide +kernel
theorem d_V_auctionAt_2 : decode b_V_auctionAt 2 = .ok (.iconst 5, 1) := by decide +kernel
theorem d_V_auctionAt_3 : decode b_V_auctionAt 3 = .ok (.invokestatic 44, 3) := by decide +kernel
theorem d_V_auctionAt_6 : decode b_V_auctionAt 6 = .ok (.ifCond .eq 7, 3) := by decide +kernel
theorem d_V_auctionAt_9 : decode b_V_auctionAt 9 = .ok (.aconst_null, 1) := by decide +kernel
theorem d_V_auctionAt_10 : decode b_V_auctionAt 10 = .ok (.goto 9, 3) := by decide +kernel
theorem d_V_auctionAt_13 : decode b_V_auctionAt 13 = .ok (.aload_n 0, 1) := by decide +kernel
theorem d_V_auctionAt_14 : decode b_V_auctionAt 14 = .ok (.getfield 31, 3) := by decide +kernel
theorem d_V_auctionAt_17 : decode b_V_auctionAt 17 = .ok (.iload_n 1, 1) := by decide +kernel
theorem d_V_auctionAt_18 : decode b_V_auctionAt 18 = .ok (.aaload, 1) := by decide +kernel
theorem d_V_auctionAt_19 : decode b_V_auctionAt 19 = .ok (.areturn, 1) := by decide +kernel
theorem d_V_isBelowStep_0 : decode b_V_isBelowStep 0 = .ok (.aload_n 0, 1) := by decide +kernel
theorem d_V_isBelowStep_1 : decode b_V_isBelowStep 1 = .ok (.getfield 174, 3) := by decide +kernel
theorem d_V_isBelowStep_4 : decode b_V_isBelowStep 4 = .ok (.ifCond .ne 28, 3) := by decide +kernel
theorem d_V_isBelowStep_7 : decode b_V_isBelowStep 7 = .ok (.aload_n 0, 1) := by decide +kernel
theorem d_V_isBelowStep_8 : decode b_V_isBelowStep 8 = .ok (.getfield 184, 3) := by decide +kernel
theorem d_V_isBelowStep_11 : decode b_V_isBelowStep 11 = .ok (.iconst (-1), 1) := by decide +kernel
theorem d_V_isBelowStep_12 : decode b_V_isBelowStep 12 = .ok (.if_icmp .eq 20, 3) := by decide +kernel
theorem d_V_isBelowStep_15 : decode b_V_isBelowStep 15 = .ok (.iload_n 1, 1) := by decide +kernel
theorem d_V_isBelowStep_16 : decode b_V_isBelowStep 16 = .ok (.aload_n 0, 1) := by decide +kernel
theorem d_V_isBelowStep_17 : decode b_V_isBelowStep 17 = .ok (.getfield 191, 3) := by decide +kernel
theorem d_V_isBelowStep_20 : decode b_V_isBelowStep 20 = .ok (.aload_n 0, 1) := by decide +kernel
theorem d_V_isBelowStep_21 : decode b_V_isBelowStep 21 = .ok (.getfield 279, 3) := by decide +kernel
theorem d_V_isBelowStep_24 : decode b_V_isBelowStep 24 = .ok (.iadd, 1) := by decide +kernel
theorem d_V_isBelowStep_25 : decode b_V_isBelowStep 25 = .ok (.if_icmp .ge 7, 3) := by decide +kernel
theorem d_V_isBelowStep_28 : decode b_V_isBelowStep 28 = .ok (.iconst 1, 1) := by decide +kernel
theorem d_V_isBelowStep_29 : decode b_V_isBelowStep 29 = .ok (.goto 4, 3) := by decide +kernel
theorem d_V_isBelowStep_32 : decode b_V_isBelowStep 32 = .ok (.iconst 0, 1) := by decide +kernel
theorem d_V_isBelowStep_33 : decode b_V_isBelowStep 33 = .ok (.ireturn, 1) := by decide +kernel
theorem d_V_dropBid_0 : decode b_V_dropBid 0 = .ok (.aload_n 0, 1) := by decide +kernel
theorem d_V_dropBid_1 : decode b_V_dropBid 1 = .ok (.iload_n 2, 1) := by decide +kernel
theorem d_V_dropBid_2 : decode b_V_dropBid 2 = .ok (.invokevirtual 53, 3) := by decide +kernel
theorem d_V_dropBid_5 : decode b_V_dropBid 5 = .ok (.ifCond .eq 4, 3) := by decide +kernel
theorem d_V_dropBid_8 : decode b_V_dropBid 8 = .ok (.return_, 1) := by decide +kernel
theorem d_V_dropBid_9 : decode b_V_dropBid 9 = .ok (.aload_n 0, 1) := by decide +kernel
theorem d_V_dropBid_10 : decode b_V_dropBid 10 = .ok (.iload_n 2, 1) := by decide +kernel
theorem d_V_dropBid_11 : decode b_V_dropBid 11 = .ok (.aload_n 1, 1) := by decide +kernel
theorem d_V_dropBid_12 : decode b_V_dropBid 12 = .ok (.iload_n 2, 1) := by decide +kernel
theorem d_V_dropBid_13 : decode b_V_dropBid 13 = .ok (.invokevirtual 180, 3) := by decide +kernel
theorem d_V_dropBid_16 : decode b_V_dropBid 16 = .ok (.invokevirtual 216, 3) := by decide +kernel
theorem d_V_dropBid_19 : decode b_V_dropBid 19 = .ok (.aload_n 1, 1) := by decide +kernel
theorem d_V_dropBid_20 : decode b_V_dropBid 20 = .ok (.getfield 198, 3) := by decide +kernel
theorem d_V_dropBid_23 : decode b_V_dropBid 23 = .ok (.iload_n 2, 1) := by decide +kernel
theorem d_V_dropBid_24 : decode b_V_dropBid 24 = .ok (.iconst 0, 1) := by decide +kernel
theorem d_V_dropBid_25 : decode b_V_dropBid 25 = .ok (.iastore, 1) := by decide +kernel
theorem d_V_dropBid_26 : decode b_V_dropBid 26 = .ok (.aload_n 1, 1) := by decide +kernel
theorem d_V_dropBid_27 : decode b_V_dropBid 27 = .ok (.getfield 201, 3) := by decide +kernel
theorem d_V_dropBid_30 : decode b_V_dropBid 30 = .ok (.iload_n 2, 1) := by decide +kernel
theorem d_V_dropBid_31 : decode b_V_dropBid 31 = .ok (.iconst 0, 1) := by decide +kernel
theorem d_V_dropBid_32 : decode b_V_dropBid 32 = .ok (.iastore, 1) := by decide +kernel
theorem d_V_dropBid_33 : decode b_V_dropBid 33 = .ok (.return_, 1) := by decide +kernel
theorem d_A_tell_0 : decode b_A_tell 0 = .ok (.aload_n 0, 1) := by decide +kernel
theorem d_A_tell_1 : decode b_A_tell 1 = .ok (.dup, 1) := by decide +kernel
theorem d_A_tell_2 : decode b_A_tell 2 = .ok (.getfield 50, 3) := by decide +kernel
theorem d_A_tell_5 : decode b_A_tell 5 = .ok (.iconst 1, 1) := by decide +kernel
theorem d_A_tell_6 : decode b_A_tell 6 = .ok (.iadd, 1) := by decide +kernel
theorem d_A_tell_7 : decode b_A_tell 7 = .ok (.putfield 50, 3) := by decide +kernel
theorem d_A_tell_10 : decode b_A_tell 10 = .ok (.aload_n 0, 1) := by decide +kernel
theorem d_A_tell_11 : decode b_A_tell 11 = .ok (.getfield 30, 3) := by decide +kernel
theorem d_A_tell_14 : decode b_A_tell 14 = .ok (.iload_n 1, 1) := by decide +kernel
theorem d_A_tell_15 : decode b_A_tell 15 = .ok (.aload_n 0, 1) := by decide +kernel
theorem d_A_tell_16 : decode b_A_tell 16 = .ok (.getfield 50, 3) := by decide +kernel
theorem d_A_tell_19 : decode b_A_tell 19 = .ok (.iastore, 1) := by decide +kernel
theorem d_A_tell_20 : decode b_A_tell 20 = .ok (.return_, 1) := by decide +kernel
theorem d_V_setAside_0 : decode b_V_setAside 0 = .ok (.aload_n 0, 1) := by decide +kernel
theorem d_V_setAside_1 : decode b_V_setAside 1 = .ok (.getfield 13, 3) := by decide +kernel
theorem d_V_setAside_4 : decode b_V_setAside 4 = .ok (.iload_n 1, 1) := by decide +kernel
theorem d_V_setAside_5 : decode b_V_setAside 5 = .ok (.dup2, 1) := by decide +kernel
theorem d_V_setAside_6 : decode b_V_setAside 6 = .ok (.laload, 1) := by decide +kernel
theorem d_V_setAside_7 : decode b_V_setAside 7 = .ok (.lload_n 2, 1) := by decide +kernel
theorem d_V_setAside_8 : decode b_V_setAside 8 = .ok (.lsub, 1) := by decide +kernel
theorem d_V_setAside_9 : decode b_V_setAside 9 = .ok (.lastore, 1) := by decide +kernel
theorem d_V_setAside_10 : decode b_V_setAside 10 = .ok (.aload_n 0, 1) := by decide +kernel
theorem d_V_setAside_11 : decode b_V_setAside 11 = .ok (.getfield 17, 3) := by decide +kernel
theorem d_V_setAside_14 : decode b_V_setAside 14 = .ok (.iload_n 1, 1) := by decide +kernel
theorem d_V_setAside_15 : decode b_V_setAside 15 = .ok (.dup2, 1) := by decide +kernel
theorem d_V_setAside_16 : decode b_V_setAside 16 = .ok (.laload, 1) := by decide +kernel
theorem d_V_setAside_17 : decode b_V_setAside 17 = .ok (.lload_n 2, 1) := by decide +kernel
theorem d_V_setAside_18 : decode b_V_setAside 18 = .ok (.ladd, 1) := by decide +kernel
theorem d_V_setAside_19 : decode b_V_setAside 19 = .ok (.lastore, 1) := by decide +kernel
theorem d_V_setAside_20 : decode b_V_setAside 20 = .ok (.return_, 1) := by decide +kernel
