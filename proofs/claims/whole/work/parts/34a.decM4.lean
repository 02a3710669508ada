theorem d_M_winner_0 : decode b_M_winner 0 = .ok (.aload_n 0, 1) := by decide +kernel
theorem d_M_winner_1 : decode b_M_winner 1 = .ok (.iload_n 1, 1) := by decide +kernel
theorem d_M_winner_2 : decode b_M_winner 2 = .ok (.invokevirtual 173, 3) := by decide +kernel
theorem d_M_winner_5 : decode b_M_winner 5 = .ok (.ifCond .eq 11, 3) := by decide +kernel
theorem d_M_winner_8 : decode b_M_winner 8 = .ok (.aload_n 0, 1) := by decide +kernel
theorem d_M_winner_9 : decode b_M_winner 9 = .ok (.iload_n 1, 1) := by decide +kernel
theorem d_M_winner_10 : decode b_M_winner 10 = .ok (.invokevirtual 220, 3) := by decide +kernel
theorem d_M_winner_13 : decode b_M_winner 13 = .ok (.goto 4, 3) := by decide +kernel
theorem d_M_winner_16 : decode b_M_winner 16 = .ok (.iconst (-1), 1) := by decide +kernel
theorem d_M_winner_17 : decode b_M_winner 17 = .ok (.ireturn, 1) := by decide +kernel
theorem d_M_isPassed_0 : decode b_M_isPassed 0 = .ok (.aload_n 0, 1) := by decide +kernel
theorem d_M_isPassed_1 : decode b_M_isPassed 1 = .ok (.getfield 156, 3) := by decide +kernel
theorem d_M_isPassed_4 : decode b_M_isPassed 4 = .ok (.aload_n 0, 1) := by decide +kernel
theorem d_M_isPassed_5 : decode b_M_isPassed 5 = .ok (.getfield 32, 3) := by decide +kernel
theorem d_M_isPassed_8 : decode b_M_isPassed 8 = .ok (.iload_n 1, 1) := by decide +kernel
theorem d_M_isPassed_9 : decode b_M_isPassed 9 = .ok (.iaload, 1) := by decide +kernel
theorem d_M_isPassed_10 : decode b_M_isPassed 10 = .ok (.if_icmp .lt 11, 3) := by decide +kernel
theorem d_M_isPassed_13 : decode b_M_isPassed 13 = .ok (.aload_n 0, 1) := by decide +kernel
theorem d_M_isPassed_14 : decode b_M_isPassed 14 = .ok (.iload_n 1, 1) := by decide +kernel
theorem d_M_isPassed_15 : decode b_M_isPassed 15 = .ok (.invokevirtual 220, 3) := by decide +kernel
theorem d_M_isPassed_18 : decode b_M_isPassed 18 = .ok (.ifCond .eq 5, 3) := by decide +kernel
theorem d_M_isPassed_21 : decode b_M_isPassed 21 = .ok (.iconst 0, 1) := by decide +kernel
theorem d_M_isPassed_22 : decode b_M_isPassed 22 = .ok (.ireturn, 1) := by decide +kernel
theorem d_M_isPassed_23 : decode b_M_isPassed 23 = .ok (.iconst 0, 1) := by decide +kernel
theorem d_M_isPassed_24 : decode b_M_isPassed 24 = .ok (.istore_n 2, 1) := by decide +kernel
theorem d_M_isPassed_25 : decode b_M_isPassed 25 = .ok (.iconst 0, 1) := by decide +kernel
theorem d_M_isPassed_26 : decode b_M_isPassed 26 = .ok (.istore_n 3, 1) := by decide +kernel
theorem d_M_isPassed_27 : decode b_M_isPassed 27 = .ok (.iload_n 3, 1) := by decide +kernel
theorem d_M_isPassed_28 : decode b_M_isPassed 28 = .ok (.bipush 8, 2) := by decide +kernel
theorem d_M_isPassed_30 : decode b_M_isPassed 30 = .ok (.if_icmp .ge 18, 3) := by decide +kernel
theorem d_M_isPassed_33 : decode b_M_isPassed 33 = .ok (.iload_n 2, 1) := by decide +kernel
theorem d_M_isPassed_34 : decode b_M_isPassed 34 = .ok (.aload_n 0, 1) := by decide +kernel
theorem d_M_isPassed_35 : decode b_M_isPassed 35 = .ok (.iload_n 1, 1) := by decide +kernel
theorem d_M_isPassed_36 : decode b_M_isPassed 36 = .ok (.iload_n 3, 1) := by decide +kernel
theorem d_M_isPassed_37 : decode b_M_isPassed 37 = .ok (.invokevirtual 203, 3) := by decide +kernel
theorem d_M_isPassed_40 : decode b_M_isPassed 40 = .ok (.iadd, 1) := by decide +kernel
theorem d_M_isPassed_41 : decode b_M_isPassed 41 = .ok (.istore_n 2, 1) := by decide +kernel
theorem d_M_isPassed_42 : decode b_M_isPassed 42 = .ok (.iinc 3 1, 3) := by decide +kernel
theorem d_M_isPassed_45 : decode b_M_isPassed 45 = .ok (.goto (-18), 3) := by decide +kernel
theorem d_M_isPassed_48 : decode b_M_isPassed 48 = .ok (.bipush 100, 2) := by decide +kernel
theorem d_M_isPassed_50 : decode b_M_isPassed 50 = .ok (.aload_n 0, 1) := by decide +kernel
theorem d_M_isPassed_51 : decode b_M_isPassed 51 = .ok (.getfield 197, 3) := by decide +kernel
theorem d_M_isPassed_54 : decode b_M_isPassed 54 = .ok (.imul, 1) := by decide +kernel
theorem d_M_isPassed_55 : decode b_M_isPassed 55 = .ok (.aload_n 0, 1) := by decide +kernel
theorem d_M_isPassed_56 : decode b_M_isPassed 56 = .ok (.getfield 35, 3) := by decide +kernel
theorem d_M_isPassed_59 : decode b_M_isPassed 59 = .ok (.iload_n 1, 1) := by decide +kernel
theorem d_M_isPassed_60 : decode b_M_isPassed 60 = .ok (.iaload, 1) := by decide +kernel
theorem d_M_isPassed_61 : decode b_M_isPassed 61 = .ok (.iload_n 2, 1) := by decide +kernel
theorem d_M_isPassed_62 : decode b_M_isPassed 62 = .ok (.imul, 1) := by decide +kernel
theorem d_M_isPassed_63 : decode b_M_isPassed 63 = .ok (.if_icmp .lt 7, 3) := by decide +kernel
theorem d_M_isPassed_66 : decode b_M_isPassed 66 = .ok (.iconst 1, 1) := by decide +kernel
theorem d_M_isPassed_67 : decode b_M_isPassed 67 = .ok (.goto 4, 3) := by decide +kernel
theorem d_M_isPassed_70 : decode b_M_isPassed 70 = .ok (.iconst 0, 1) := by decide +kernel
theorem d_M_isPassed_71 : decode b_M_isPassed 71 = .ok (.ireturn, 1) := by decide +kernel
theorem d_M_passed_0 : decode b_M_passed 0 = .ok (.aload_n 0, 1) := by decide +kernel
theorem d_M_passed_1 : decode b_M_passed 1 = .ok (.iload_n 1, 1) := by decide +kernel
theorem d_M_passed_2 : decode b_M_passed 2 = .ok (.invokevirtual 173, 3) := by decide +kernel
theorem d_M_passed_5 : decode b_M_passed 5 = .ok (.ifCond .ne 5, 3) := by decide +kernel
theorem d_M_passed_8 : decode b_M_passed 8 = .ok (.iconst (-1), 1) := by decide +kernel
theorem d_M_passed_9 : decode b_M_passed 9 = .ok (.ireturn, 1) := by decide +kernel
theorem d_M_passed_10 : decode b_M_passed 10 = .ok (.aload_n 0, 1) := by decide +kernel
theorem d_M_passed_11 : decode b_M_passed 11 = .ok (.getfield 156, 3) := by decide +kernel
theorem d_M_passed_14 : decode b_M_passed 14 = .ok (.aload_n 0, 1) := by decide +kernel
theorem d_M_passed_15 : decode b_M_passed 15 = .ok (.getfield 32, 3) := by decide +kernel
theorem d_M_passed_18 : decode b_M_passed 18 = .ok (.iload_n 1, 1) := by decide +kernel
theorem d_M_passed_19 : decode b_M_passed 19 = .ok (.iaload, 1) := by decide +kernel
theorem d_M_passed_20 : decode b_M_passed 20 = .ok (.if_icmp .ge 8, 3) := by decide +kernel
theorem d_M_passed_23 : decode b_M_passed 23 = .ok (.bipush (-3), 2) := by decide +kernel
theorem d_M_passed_25 : decode b_M_passed 25 = .ok (.goto 16, 3) := by decide +kernel
theorem d_M_passed_28 : decode b_M_passed 28 = .ok (.aload_n 0, 1) := by decide +kernel
theorem d_M_passed_29 : decode b_M_passed 29 = .ok (.iload_n 1, 1) := by decide +kernel
theorem d_M_passed_30 : decode b_M_passed 30 = .ok (.invokevirtual 223, 3) := by decide +kernel
theorem d_M_passed_33 : decode b_M_passed 33 = .ok (.ifCond .eq 7, 3) := by decide +kernel
theorem d_M_passed_36 : decode b_M_passed 36 = .ok (.iconst 1, 1) := by decide +kernel
theorem d_M_passed_37 : decode b_M_passed 37 = .ok (.goto 4, 3) := by decide +kernel
theorem d_M_passed_40 : decode b_M_passed 40 = .ok (.iconst 0, 1) := by decide +kernel
theorem d_M_passed_41 : decode b_M_passed 41 = .ok (.ireturn, 1) := by decide +kernel
theorem d_M_run_0 : decode b_M_run 0 = .ok (.aload_n 0, 1) := by decide +kernel
theorem d_M_run_1 : decode b_M_run 1 = .ok (.iload_n 1, 1) := by decide +kernel
theorem d_M_run_2 : decode b_M_run 2 = .ok (.invokevirtual 173, 3) := by decide +kernel
theorem d_M_run_5 : decode b_M_run 5 = .ok (.ifCond .ne 5, 3) := by decide +kernel
theorem d_M_run_8 : decode b_M_run 8 = .ok (.iconst (-1), 1) := by decide +kernel
theorem d_M_run_9 : decode b_M_run 9 = .ok (.ireturn, 1) := by decide +kernel
theorem d_M_run_10 : decode b_M_run 10 = .ok (.aload_n 0, 1) := by decide +kernel
theorem d_M_run_11 : decode b_M_run 11 = .ok (.iload_n 1, 1) := by decide +kernel
theorem d_M_run_12 : decode b_M_run 12 = .ok (.invokevirtual 223, 3) := by decide +kernel
theorem d_M_run_15 : decode b_M_run 15 = .ok (.ifCond .eq 56, 3) := by decide +kernel
theorem d_M_run_18 : decode b_M_run 18 = .ok (.aload_n 0, 1) := by decide +kernel
theorem d_M_run_19 : decode b_M_run 19 = .ok (.getfield 38, 3) := by decide +kernel
theorem d_M_run_22 : decode b_M_run 22 = .ok (.iload_n 1, 1) := by decide +kernel
theorem d_M_run_23 : decode b_M_run 23 = .ok (.baload, 1) := by decide +kernel
theorem d_M_run_24 : decode b_M_run 24 = .ok (.ifCond .eq 47, 3) := by decide +kernel
theorem d_M_run_27 : decode b_M_run 27 = .ok (.aload_n 0, 1) := by decide +kernel
theorem d_M_run_28 : decode b_M_run 28 = .ok (.getfield 42, 3) := by decide +kernel
theorem d_M_run_31 : decode b_M_run 31 = .ok (.iload_n 1, 1) := by decide +kernel
theorem d_M_run_32 : decode b_M_run 32 = .ok (.baload, 1) := by decide +kernel
theorem d_M_run_33 : decode b_M_run 33 = .ok (.ifCond .ne 38, 3) := by decide +kernel
theorem d_M_run_36 : decode b_M_run 36 = .ok (.aload_n 0, 1) := by decide +kernel
theorem d_M_run_37 : decode b_M_run 37 = .ok (.getfield 156, 3) := by decide +kernel
theorem d_M_run_40 : decode b_M_run 40 = .ok (.aload_n 0, 1) := by decide +kernel
theorem d_M_run_41 : decode b_M_run 41 = .ok (.getfield 32, 3) := by decide +kernel
theorem d_M_run_44 : decode b_M_run 44 = .ok (.iload_n 1, 1) := by decide +kernel
theorem d_M_run_45 : decode b_M_run 45 = .ok (.iaload, 1) := by decide +kernel
theorem d_M_run_46 : decode b_M_run 46 = .ok (.aload_n 0, 1) := by decide +kernel
theorem d_M_run_47 : decode b_M_run 47 = .ok (.getfield 51, 3) := by decide +kernel
theorem d_M_run_50 : decode b_M_run 50 = .ok (.iload_n 1, 1) := by decide +kernel
theorem d_M_run_51 : decode b_M_run 51 = .ok (.iaload, 1) := by decide +kernel
theorem d_M_run_52 : decode b_M_run 52 = .ok (.iadd, 1) := by decide +kernel
theorem d_M_run_53 : decode b_M_run 53 = .ok (.if_icmp .lt 18, 3) := by decide +kernel
theorem d_M_run_56 : decode b_M_run 56 = .ok (.aload_n 0, 1) := by decide +kernel
theorem d_M_run_57 : decode b_M_run 57 = .ok (.getfield 152, 3) := by decide +kernel
theorem d_M_run_60 : decode b_M_run 60 = .ok (.aload_n 0, 1) := by decide +kernel
theorem d_M_run_61 : decode b_M_run 61 = .ok (.getfield 48, 3) := by decide +kernel
theorem d_M_run_64 : decode b_M_run 64 = .ok (.iload_n 1, 1) := by decide +kernel
theorem d_M_run_65 : decode b_M_run 65 = .ok (.iaload, 1) := by decide +kernel
theorem d_M_run_66 : decode b_M_run 66 = .ok (.i2l, 1) := by decide +kernel
theorem d_M_run_67 : decode b_M_run 67 = .ok (.lcmp, 1) := by decide +kernel
theorem d_M_run_68 : decode b_M_run 68 = .ok (.ifCond .ge 6, 3) := by decide +kernel
theorem d_M_run_71 : decode b_M_run 71 = .ok (.bipush (-3), 2) := by decide +kernel
theorem d_M_run_73 : decode b_M_run 73 = .ok (.ireturn, 1) := by decide +kernel
theorem d_M_run_74 : decode b_M_run 74 = .ok (.aload_n 0, 1) := by decide +kernel
theorem d_M_run_75 : decode b_M_run 75 = .ok (.getfield 42, 3) := by decide +kernel
theorem d_M_run_78 : decode b_M_run 78 = .ok (.iload_n 1, 1) := by decide +kernel
theorem d_M_run_79 : decode b_M_run 79 = .ok (.iconst 1, 1) := by decide +kernel
theorem d_M_run_80 : decode b_M_run 80 = .ok (.bastore, 1) := by decide +kernel
theorem d_M_run_81 : decode b_M_run 81 = .ok (.aload_n 0, 1) := by decide +kernel
theorem d_M_run_82 : decode b_M_run 82 = .ok (.dup, 1) := by decide +kernel
theorem d_M_run_83 : decode b_M_run 83 = .ok (.getfield 152, 3) := by decide +kernel
theorem d_M_run_86 : decode b_M_run 86 = .ok (.aload_n 0, 1) := by decide +kernel
theorem d_M_run_87 : decode b_M_run 87 = .ok (.getfield 48, 3) := by decide +kernel
theorem d_M_run_90 : decode b_M_run 90 = .ok (.iload_n 1, 1) := by decide +kernel
theorem d_M_run_91 : decode b_M_run 91 = .ok (.iaload, 1) := by decide +kernel
theorem d_M_run_92 : decode b_M_run 92 = .ok (.i2l, 1) := by decide +kernel
theorem d_M_run_93 : decode b_M_run 93 = .ok (.lsub, 1) := by decide +kernel
theorem d_M_run_94 : decode b_M_run 94 = .ok (.putfield 152, 3) := by decide +kernel
theorem d_M_run_97 : decode b_M_run 97 = .ok (.aload_n 0, 1) := by decide +kernel
theorem d_M_run_98 : decode b_M_run 98 = .ok (.getfield 13, 3) := by decide +kernel
theorem d_M_run_101 : decode b_M_run 101 = .ok (.aload_n 0, 1) := by decide +kernel
theorem d_M_run_102 : decode b_M_run 102 = .ok (.getfield 45, 3) := by decide +kernel
theorem d_M_run_105 : decode b_M_run 105 = .ok (.iload_n 1, 1) := by decide +kernel
theorem d_M_run_106 : decode b_M_run 106 = .ok (.iaload, 1) := by decide +kernel
theorem d_M_run_107 : decode b_M_run 107 = .ok (.dup2, 1) := by decide +kernel
theorem d_M_run_108 : decode b_M_run 108 = .ok (.laload, 1) := by decide +kernel
theorem d_M_run_109 : decode b_M_run 109 = .ok (.aload_n 0, 1) := by decide +kernel
theorem d_M_run_110 : decode b_M_run 110 = .ok (.getfield 48, 3) := by decide +kernel
theorem d_M_run_113 : decode b_M_run 113 = .ok (.iload_n 1, 1) := by decide +kernel
theorem d_M_run_114 : decode b_M_run 114 = .ok (.iaload, 1) := by decide +kernel
theorem d_M_run_115 : decode b_M_run 115 = .ok (.i2l, 1) := by decide +kernel
theorem d_M_run_116 : decode b_M_run 116 = .ok (.ladd, 1) := by decide +kernel
theorem d_M_run_117 : decode b_M_run 117 = .ok (.lastore, 1) := by decide +kernel
theorem d_M_run_118 : decode b_M_run 118 = .ok (.iconst 1, 1) := by decide +kernel
theorem d_M_run_119 : decode b_M_run 119 = .ok (.ireturn, 1) := by decide +kernel
theorem d_M_isAuction_0 : decode b_M_isAuction 0 = .ok (.iload_n 1, 1) := by decide +kernel
theorem d_M_isAuction_1 : decode b_M_isAuction 1 = .ok (.ifCond .lt 15, 3) := by decide +kernel
theorem d_M_isAuction_4 : decode b_M_isAuction 4 = .ok (.iload_n 1, 1) := by decide +kernel
theorem d_M_isAuction_5 : decode b_M_isAuction 5 = .ok (.aload_n 0, 1) := by decide +kernel
theorem d_M_isAuction_6 : decode b_M_isAuction 6 = .ok (.getfield 162, 3) := by decide +kernel
theorem d_M_isAuction_9 : decode b_M_isAuction 9 = .ok (.if_icmp .ge 7, 3) := by decide +kernel
theorem d_M_isAuction_12 : decode b_M_isAuction 12 = .ok (.iconst 1, 1) := by decide +kernel
theorem d_M_isAuction_13 : decode b_M_isAuction 13 = .ok (.goto 4, 3) := by decide +kernel
theorem d_M_isAuction_16 : decode b_M_isAuction 16 = .ok (.iconst 0, 1) := by decide +kernel
theorem d_M_isAuction_17 : decode b_M_isAuction 17 = .ok (.ireturn, 1) := by decide +kernel
theorem d_M_auction_0 : decode b_M_auction 0 = .ok (.iload_n 1, 1) := by decide +kernel
theorem d_M_auction_1 : decode b_M_auction 1 = .ok (.iconst 0, 1) := by decide +kernel
theorem d_M_auction_2 : decode b_M_auction 2 = .ok (.iconst 4, 1) := by decide +kernel
theorem d_M_auction_3 : decode b_M_auction 3 = .ok (.invokestatic 139, 3) := by decide +kernel
theorem d_M_auction_6 : decode b_M_auction 6 = .ok (.ifCond .eq 56, 3) := by decide +kernel
theorem d_M_auction_9 : decode b_M_auction 9 = .ok (.iload_n 2, 1) := by decide +kernel
theorem d_M_auction_10 : decode b_M_auction 10 = .ok (.iconst 1, 1) := by decide +kernel
theorem d_M_auction_11 : decode b_M_auction 11 = .ok (.iload_n 1, 1) := by decide +kernel
theorem d_M_auction_12 : decode b_M_auction 12 = .ok (.iconst 4, 1) := by decide +kernel
theorem d_M_auction_13 : decode b_M_auction 13 = .ok (.if_icmp .ne 8, 3) := by decide +kernel
theorem d_M_auction_16 : decode b_M_auction 16 = .ok (.bipush 20, 2) := by decide +kernel
theorem d_M_auction_18 : decode b_M_auction 18 = .ok (.goto 4, 3) := by decide +kernel
theorem d_M_auction_21 : decode b_M_auction 21 = .ok (.iconst 1, 1) := by decide +kernel
theorem d_M_auction_22 : decode b_M_auction 22 = .ok (.invokestatic 139, 3) := by decide +kernel
theorem d_M_auction_25 : decode b_M_auction 25 = .ok (.ifCond .eq 37, 3) := by decide +kernel
theorem d_M_auction_28 : decode b_M_auction 28 = .ok (.iload_n 3, 1) := by decide +kernel
theorem d_M_auction_29 : decode b_M_auction 29 = .ok (.iconst 1, 1) := by decide +kernel
theorem d_M_auction_30 : decode b_M_auction 30 = .ok (.sipush 10000, 3) := by decide +kernel
theorem d_M_auction_33 : decode b_M_auction 33 = .ok (.invokestatic 139, 3) := by decide +kernel
theorem d_M_auction_36 : decode b_M_auction 36 = .ok (.ifCond .eq 26, 3) := by decide +kernel
theorem d_M_auction_39 : decode b_M_auction 39 = .ok (.iload 4, 2) := by decide +kernel
theorem d_M_auction_41 : decode b_M_auction 41 = .ok (.iconst 0, 1) := by decide +kernel
theorem d_M_auction_42 : decode b_M_auction 42 = .ok (.sipush 1000, 3) := by decide +kernel
theorem d_M_auction_45 : decode b_M_auction 45 = .ok (.invokestatic 139, 3) := by decide +kernel
theorem d_M_auction_48 : decode b_M_auction 48 = .ok (.ifCond .eq 14, 3) := by decide +kernel
theorem d_M_auction_51 : decode b_M_auction 51 = .ok (.iload 5, 2) := by decide +kernel
theorem d_M_auction_53 : decode b_M_auction 53 = .ok (.iconst 1, 1) := by decide +kernel
theorem d_M_auction_54 : decode b_M_auction 54 = .ok (.bipush 50, 2) := by decide +kernel
theorem d_M_auction_56 : decode b_M_auction 56 = .ok (.invokestatic 139, 3) := by decide +kernel
theorem d_M_auction_59 : decode b_M_auction 59 = .ok (.ifCond .ne 6, 3) := by decide +kernel
theorem d_M_auction_62 : decode b_M_auction 62 = .ok (.bipush (-2), 2) := by decide +kernel
theorem d_M_auction_64 : decode b_M_auction 64 = .ok (.ireturn, 1) := by decide +kernel
theorem d_M_auction_65 : decode b_M_auction 65 = .ok (.aload_n 0, 1) := by decide +kernel
theorem d_M_auction_66 : decode b_M_auction 66 = .ok (.getfield 162, 3) := by decide +kernel
theorem d_M_auction_69 : decode b_M_auction 69 = .ok (.bipush 6, 2) := by decide +kernel
theorem d_M_auction_71 : decode b_M_auction 71 = .ok (.if_icmp .ne 6, 3) := by decide +kernel
theorem d_M_auction_74 : decode b_M_auction 74 = .ok (.bipush (-4), 2) := by decide +kernel
theorem d_M_auction_76 : decode b_M_auction 76 = .ok (.ireturn, 1) := by decide +kernel
theorem d_M_auction_77 : decode b_M_auction 77 = .ok (.aload_n 0, 1) := by decide +kernel
theorem d_M_auction_78 : decode b_M_auction 78 = .ok (.getfield 162, 3) := by decide +kernel
theorem d_M_auction_81 : decode b_M_auction 81 = .ok (.istore 6, 2) := by decide +kernel
theorem d_M_auction_83 : decode b_M_auction 83 = .ok (.aload_n 0, 1) := by decide +kernel
theorem d_M_auction_84 : decode b_M_auction 84 = .ok (.getfield 72, 3) := by decide +kernel
theorem d_M_auction_87 : decode b_M_auction 87 = .ok (.iload 6, 2) := by decide +kernel
theorem d_M_auction_89 : decode b_M_auction 89 = .ok (.iload_n 1, 1) := by decide +kernel
theorem d_M_auction_90 : decode b_M_auction 90 = .ok (.iastore, 1) := by decide +kernel
theorem d_M_auction_91 : decode b_M_auction 91 = .ok (.aload_n 0, 1) := by decide +kernel
theorem d_M_auction_92 : decode b_M_auction 92 = .ok (.getfield 75, 3) := by decide +kernel
theorem d_M_auction_95 : decode b_M_auction 95 = .ok (.iload 6, 2) := by decide +kernel
theorem d_M_auction_97 : decode b_M_auction 97 = .ok (.iload_n 2, 1) := by decide +kernel
theorem d_M_auction_98 : decode b_M_auction 98 = .ok (.iastore, 1) := by decide +kernel
theorem d_M_auction_99 : decode b_M_auction 99 = .ok (.aload_n 0, 1) := by decide +kernel
theorem d_M_auction_100 : decode b_M_auction 100 = .ok (.getfield 78, 3) := by decide +kernel
theorem d_M_auction_103 : decode b_M_auction 103 = .ok (.iload 6, 2) := by decide +kernel
theorem d_M_auction_105 : decode b_M_auction 105 = .ok (.iload_n 3, 1) := by decide +kernel
theorem d_M_auction_106 : decode b_M_auction 106 = .ok (.iastore, 1) := by decide +kernel
theorem d_M_auction_107 : decode b_M_auction 107 = .ok (.aload_n 0, 1) := by decide +kernel
theorem d_M_auction_108 : decode b_M_auction 108 = .ok (.getfield 81, 3) := by decide +kernel
theorem d_M_auction_111 : decode b_M_auction 111 = .ok (.iload 6, 2) := by decide +kernel
theorem d_M_auction_113 : decode b_M_auction 113 = .ok (.iload 4, 2) := by decide +kernel
theorem d_M_auction_115 : decode b_M_auction 115 = .ok (.iastore, 1) := by decide +kernel
theorem d_M_auction_116 : decode b_M_auction 116 = .ok (.aload_n 0, 1) := by decide +kernel
theorem d_M_auction_117 : decode b_M_auction 117 = .ok (.getfield 84, 3) := by decide +kernel
theorem d_M_auction_120 : decode b_M_auction 120 = .ok (.iload 6, 2) := by decide +kernel
theorem d_M_auction_122 : decode b_M_auction 122 = .ok (.aload_n 0, 1) := by decide +kernel
theorem d_M_auction_123 : decode b_M_auction 123 = .ok (.getfield 156, 3) := by decide +kernel
theorem d_M_auction_126 : decode b_M_auction 126 = .ok (.iload 5, 2) := by decide +kernel
theorem d_M_auction_128 : decode b_M_auction 128 = .ok (.iadd, 1) := by decide +kernel
theorem d_M_auction_129 : decode b_M_auction 129 = .ok (.iastore, 1) := by decide +kernel
theorem d_M_auction_130 : decode b_M_auction 130 = .ok (.aload_n 0, 1) := by decide +kernel
theorem d_M_auction_131 : decode b_M_auction 131 = .ok (.getfield 87, 3) := by decide +kernel
theorem d_M_auction_134 : decode b_M_auction 134 = .ok (.iload 6, 2) := by decide +kernel
theorem d_M_auction_136 : decode b_M_auction 136 = .ok (.aload_n 0, 1) := by decide +kernel
theorem d_M_auction_137 : decode b_M_auction 137 = .ok (.getfield 156, 3) := by decide +kernel
theorem d_M_auction_140 : decode b_M_auction 140 = .ok (.iload 5, 2) := by decide +kernel
theorem d_M_auction_142 : decode b_M_auction 142 = .ok (.iadd, 1) := by decide +kernel
theorem d_M_auction_143 : decode b_M_auction 143 = .ok (.iload_n 1, 1) := by decide +kernel
theorem d_M_auction_144 : decode b_M_auction 144 = .ok (.iconst 1, 1) := by decide +kernel
theorem d_M_auction_145 : decode b_M_auction 145 = .ok (.if_icmp .eq 8, 3) := by decide +kernel
theorem d_M_auction_148 : decode b_M_auction 148 = .ok (.iload_n 1, 1) := by decide +kernel
theorem d_M_auction_149 : decode b_M_auction 149 = .ok (.iconst 2, 1) := by decide +kernel
theorem d_M_auction_150 : decode b_M_auction 150 = .ok (.if_icmp .ne 7, 3) := by decide +kernel
theorem d_M_auction_153 : decode b_M_auction 153 = .ok (.iconst 5, 1) := by decide +kernel
theorem d_M_auction_154 : decode b_M_auction 154 = .ok (.goto 4, 3) := by decide +kernel
theorem d_M_auction_157 : decode b_M_auction 157 = .ok (.iconst 0, 1) := by decide +kernel
theorem d_M_auction_158 : decode b_M_auction 158 = .ok (.iadd, 1) := by decide +kernel
theorem d_M_auction_159 : decode b_M_auction 159 = .ok (.iastore, 1) := by decide +kernel
theorem d_M_auction_160 : decode b_M_auction 160 = .ok (.aload_n 0, 1) := by decide +kernel
theorem d_M_auction_161 : decode b_M_auction 161 = .ok (.getfield 90, 3) := by decide +kernel
theorem d_M_auction_164 : decode b_M_auction 164 = .ok (.iload 6, 2) := by decide +kernel
theorem d_M_auction_166 : decode b_M_auction 166 = .ok (.ldc2_w 226, 3) := by decide +kernel
theorem d_M_auction_169 : decode b_M_auction 169 = .ok (.lastore, 1) := by decide +kernel
theorem d_M_auction_170 : decode b_M_auction 170 = .ok (.aload_n 0, 1) := by decide +kernel
theorem d_M_auction_171 : decode b_M_auction 171 = .ok (.getfield 93, 3) := by decide +kernel
theorem d_M_auction_174 : decode b_M_auction 174 = .ok (.iload 6, 2) := by decide +kernel
theorem d_M_auction_176 : decode b_M_auction 176 = .ok (.iconst (-1), 1) := by decide +kernel
theorem d_M_auction_177 : decode b_M_auction 177 = .ok (.iastore, 1) := by decide +kernel
theorem d_M_auction_178 : decode b_M_auction 178 = .ok (.iconst 0, 1) := by decide +kernel
theorem d_M_auction_179 : decode b_M_auction 179 = .ok (.istore 7, 2) := by decide +kernel
theorem d_M_auction_181 : decode b_M_auction 181 = .ok (.iload 7, 2) := by decide +kernel
theorem d_M_auction_183 : decode b_M_auction 183 = .ok (.bipush 8, 2) := by decide +kernel
theorem d_M_auction_185 : decode b_M_auction 185 = .ok (.if_icmp .ge 51, 3) := by decide +kernel
theorem d_M_auction_188 : decode b_M_auction 188 = .ok (.aload_n 0, 1) := by decide +kernel
theorem d_M_auction_189 : decode b_M_auction 189 = .ok (.getfield 96, 3) := by decide +kernel
theorem d_M_auction_192 : decode b_M_auction 192 = .ok (.bipush 8, 2) := by decide +kernel
theorem d_M_auction_194 : decode b_M_auction 194 = .ok (.iload 6, 2) := by decide +kernel
theorem d_M_auction_196 : decode b_M_auction 196 = .ok (.imul, 1) := by decide +kernel
theorem d_M_auction_197 : decode b_M_auction 197 = .ok (.iload 7, 2) := by decide +kernel
theorem d_M_auction_199 : decode b_M_auction 199 = .ok (.iadd, 1) := by decide +kernel
theorem d_M_auction_200 : decode b_M_auction 200 = .ok (.iconst 0, 1) := by decide +kernel
theorem d_M_auction_201 : decode b_M_auction 201 = .ok (.bastore, 1) := by decide +kernel
theorem d_M_auction_202 : decode b_M_auction 202 = .ok (.aload_n 0, 1) := by decide +kernel
theorem d_M_auction_203 : decode b_M_auction 203 = .ok (.getfield 111, 3) := by decide +kernel
theorem d_M_auction_206 : decode b_M_auction 206 = .ok (.bipush 8, 2) := by decide +kernel
theorem d_M_auction_208 : decode b_M_auction 208 = .ok (.iload 6, 2) := by decide +kernel
theorem d_M_auction_210 : decode b_M_auction 210 = .ok (.imul, 1) := by decide +kernel
theorem d_M_auction_211 : decode b_M_auction 211 = .ok (.iload 7, 2) := by decide +kernel
theorem d_M_auction_213 : decode b_M_auction 213 = .ok (.iadd, 1) := by decide +kernel
theorem d_M_auction_214 : decode b_M_auction 214 = .ok (.iconst 0, 1) := by decide +kernel
theorem d_M_auction_215 : decode b_M_auction 215 = .ok (.bastore, 1) := by decide +kernel
theorem d_M_auction_216 : decode b_M_auction 216 = .ok (.aload_n 0, 1) := by decide +kernel
theorem d_M_auction_217 : decode b_M_auction 217 = .ok (.getfield 114, 3) := by decide +kernel
theorem d_M_auction_220 : decode b_M_auction 220 = .ok (.bipush 8, 2) := by decide +kernel
theorem d_M_auction_222 : decode b_M_auction 222 = .ok (.iload 6, 2) := by decide +kernel
theorem d_M_auction_224 : decode b_M_auction 224 = .ok (.imul, 1) := by decide +kernel
theorem d_M_auction_225 : decode b_M_auction 225 = .ok (.iload 7, 2) := by decide +kernel
theorem d_M_auction_227 : decode b_M_auction 227 = .ok (.iadd, 1) := by decide +kernel
theorem d_M_auction_228 : decode b_M_auction 228 = .ok (.iconst 0, 1) := by decide +kernel
theorem d_M_auction_229 : decode b_M_auction 229 = .ok (.iastore, 1) := by decide +kernel
theorem d_M_auction_230 : decode b_M_auction 230 = .ok (.iinc 7 1, 3) := by decide +kernel
theorem d_M_auction_233 : decode b_M_auction 233 = .ok (.goto (-52), 3) := by decide +kernel
theorem d_M_auction_236 : decode b_M_auction 236 = .ok (.aload_n 0, 1) := by decide +kernel
theorem d_M_auction_237 : decode b_M_auction 237 = .ok (.dup, 1) := by decide +kernel
theorem d_M_auction_238 : decode b_M_auction 238 = .ok (.getfield 162, 3) := by decide +kernel
theorem d_M_auction_241 : decode b_M_auction 241 = .ok (.iconst 1, 1) := by decide +kernel
theorem d_M_auction_242 : decode b_M_auction 242 = .ok (.iadd, 1) := by decide +kernel
theorem d_M_auction_243 : decode b_M_auction 243 = .ok (.putfield 162, 3) := by decide +kernel
theorem d_M_auction_246 : decode b_M_auction 246 = .ok (.iload 6, 2) := by decide +kernel
theorem d_M_auction_248 : decode b_M_auction 248 = .ok (.ireturn, 1) := by decide +kernel
theorem d_M_isOver_0 : decode b_M_isOver 0 = .ok (.aload_n 0, 1) := by decide +kernel
theorem d_M_isOver_1 : decode b_M_isOver 1 = .ok (.getfield 156, 3) := by decide +kernel
theorem d_M_isOver_4 : decode b_M_isOver 4 = .ok (.aload_n 0, 1) := by decide +kernel
theorem d_M_isOver_5 : decode b_M_isOver 5 = .ok (.getfield 87, 3) := by decide +kernel
theorem d_M_isOver_8 : decode b_M_isOver 8 = .ok (.iload_n 1, 1) := by decide +kernel
theorem d_M_isOver_9 : decode b_M_isOver 9 = .ok (.iaload, 1) := by decide +kernel
theorem d_M_isOver_10 : decode b_M_isOver 10 = .ok (.if_icmp .ge 12, 3) := by decide +kernel
theorem d_M_isOver_13 : decode b_M_isOver 13 = .ok (.aload_n 0, 1) := by decide +kernel
theorem d_M_isOver_14 : decode b_M_isOver 14 = .ok (.getfield 93, 3) := by decide +kernel
theorem d_M_isOver_17 : decode b_M_isOver 17 = .ok (.iload_n 1, 1) := by decide +kernel
theorem d_M_isOver_18 : decode b_M_isOver 18 = .ok (.iaload, 1) := by decide +kernel
theorem d_M_isOver_19 : decode b_M_isOver 19 = .ok (.ifCond .lt 7, 3) := by decide +kernel
theorem d_M_isOver_22 : decode b_M_isOver 22 = .ok (.iconst 1, 1) := by decide +kernel
theorem d_M_isOver_23 : decode b_M_isOver 23 = .ok (.goto 4, 3) := by decide +kernel
theorem d_M_isOver_26 : decode b_M_isOver 26 = .ok (.iconst 0, 1) := by decide +kernel
theorem d_M_isOver_27 : decode b_M_isOver 27 = .ok (.ireturn, 1) := by decide +kernel
theorem d_M_bid_0 : decode b_M_bid 0 = .ok (.aload_n 0, 1) := by decide +kernel
theorem d_M_bid_1 : decode b_M_bid 1 = .ok (.iload_n 1, 1) := by decide +kernel
theorem d_M_bid_2 : decode b_M_bid 2 = .ok (.invokevirtual 228, 3) := by decide +kernel
theorem d_M_bid_5 : decode b_M_bid 5 = .ok (.ifCond .eq 11, 3) := by decide +kernel
theorem d_M_bid_8 : decode b_M_bid 8 = .ok (.aload_n 0, 1) := by decide +kernel
theorem d_M_bid_9 : decode b_M_bid 9 = .ok (.iload_n 2, 1) := by decide +kernel
theorem d_M_bid_10 : decode b_M_bid 10 = .ok (.invokevirtual 143, 3) := by decide +kernel
theorem d_M_bid_13 : decode b_M_bid 13 = .ok (.ifCond .ne 5, 3) := by decide +kernel
theorem d_M_bid_16 : decode b_M_bid 16 = .ok (.iconst (-1), 1) := by decide +kernel
theorem d_M_bid_17 : decode b_M_bid 17 = .ok (.ireturn, 1) := by decide +kernel
theorem d_M_bid_18 : decode b_M_bid 18 = .ok (.iload_n 3, 1) := by decide +kernel
theorem d_M_bid_19 : decode b_M_bid 19 = .ok (.iconst 1, 1) := by decide +kernel
theorem d_M_bid_20 : decode b_M_bid 20 = .ok (.aload_n 0, 1) := by decide +kernel
theorem d_M_bid_21 : decode b_M_bid 21 = .ok (.getfield 75, 3) := by decide +kernel
theorem d_M_bid_24 : decode b_M_bid 24 = .ok (.iload_n 1, 1) := by decide +kernel
theorem d_M_bid_25 : decode b_M_bid 25 = .ok (.iaload, 1) := by decide +kernel
theorem d_M_bid_26 : decode b_M_bid 26 = .ok (.invokestatic 139, 3) := by decide +kernel
theorem d_M_bid_29 : decode b_M_bid 29 = .ok (.ifCond .eq 19, 3) := by decide +kernel
theorem d_M_bid_32 : decode b_M_bid 32 = .ok (.iload 4, 2) := by decide +kernel
theorem d_M_bid_34 : decode b_M_bid 34 = .ok (.aload_n 0, 1) := by decide +kernel
theorem d_M_bid_35 : decode b_M_bid 35 = .ok (.getfield 78, 3) := by decide +kernel
theorem d_M_bid_38 : decode b_M_bid 38 = .ok (.iload_n 1, 1) := by decide +kernel
theorem d_M_bid_39 : decode b_M_bid 39 = .ok (.iaload, 1) := by decide +kernel
theorem d_M_bid_40 : decode b_M_bid 40 = .ok (.ldc 142, 2) := by decide +kernel
theorem d_M_bid_42 : decode b_M_bid 42 = .ok (.invokestatic 139, 3) := by decide +kernel
theorem d_M_bid_45 : decode b_M_bid 45 = .ok (.ifCond .ne 6, 3) := by decide +kernel
theorem d_M_bid_48 : decode b_M_bid 48 = .ok (.bipush (-2), 2) := by decide +kernel
theorem d_M_bid_50 : decode b_M_bid 50 = .ok (.ireturn, 1) := by decide +kernel
theorem d_M_bid_51 : decode b_M_bid 51 = .ok (.aload_n 0, 1) := by decide +kernel
theorem d_M_bid_52 : decode b_M_bid 52 = .ok (.getfield 72, 3) := by decide +kernel
theorem d_M_bid_55 : decode b_M_bid 55 = .ok (.iload_n 1, 1) := by decide +kernel
theorem d_M_bid_56 : decode b_M_bid 56 = .ok (.iaload, 1) := by decide +kernel
theorem d_M_bid_57 : decode b_M_bid 57 = .ok (.ifCond .eq 13, 3) := by decide +kernel
theorem d_M_bid_60 : decode b_M_bid 60 = .ok (.aload_n 0, 1) := by decide +kernel
theorem d_M_bid_61 : decode b_M_bid 61 = .ok (.getfield 72, 3) := by decide +kernel
theorem d_M_bid_64 : decode b_M_bid 64 = .ok (.iload_n 1, 1) := by decide +kernel
theorem d_M_bid_65 : decode b_M_bid 65 = .ok (.iaload, 1) := by decide +kernel
theorem d_M_bid_66 : decode b_M_bid 66 = .ok (.iconst 4, 1) := by decide +kernel
theorem d_M_bid_67 : decode b_M_bid 67 = .ok (.if_icmp .ne 11, 3) := by decide +kernel
theorem d_M_bid_70 : decode b_M_bid 70 = .ok (.aload_n 0, 1) := by decide +kernel
theorem d_M_bid_71 : decode b_M_bid 71 = .ok (.iload_n 1, 1) := by decide +kernel
theorem d_M_bid_72 : decode b_M_bid 72 = .ok (.invokevirtual 231, 3) := by decide +kernel
theorem d_M_bid_75 : decode b_M_bid 75 = .ok (.ifCond .eq 6, 3) := by decide +kernel
theorem d_M_bid_78 : decode b_M_bid 78 = .ok (.bipush (-3), 2) := by decide +kernel
theorem d_M_bid_80 : decode b_M_bid 80 = .ok (.ireturn, 1) := by decide +kernel
theorem d_M_bid_81 : decode b_M_bid 81 = .ok (.bipush 8, 2) := by decide +kernel
theorem d_M_bid_83 : decode b_M_bid 83 = .ok (.iload_n 1, 1) := by decide +kernel
theorem d_M_bid_84 : decode b_M_bid 84 = .ok (.imul, 1) := by decide +kernel
theorem d_M_bid_85 : decode b_M_bid 85 = .ok (.iload_n 2, 1) := by decide +kernel
theorem d_M_bid_86 : decode b_M_bid 86 = .ok (.iadd, 1) := by decide +kernel
theorem d_M_bid_87 : decode b_M_bid 87 = .ok (.istore 5, 2) := by decide +kernel
theorem d_M_bid_89 : decode b_M_bid 89 = .ok (.aload_n 0, 1) := by decide +kernel
theorem d_M_bid_90 : decode b_M_bid 90 = .ok (.getfield 72, 3) := by decide +kernel
theorem d_M_bid_93 : decode b_M_bid 93 = .ok (.iload_n 1, 1) := by decide +kernel
theorem d_M_bid_94 : decode b_M_bid 94 = .ok (.iaload, 1) := by decide +kernel
theorem d_M_bid_95 : decode b_M_bid 95 = .ok (.ifCond .ne 12, 3) := by decide +kernel
theorem d_M_bid_98 : decode b_M_bid 98 = .ok (.aload_n 0, 1) := by decide +kernel
theorem d_M_bid_99 : decode b_M_bid 99 = .ok (.iload_n 1, 1) := by decide +kernel
theorem d_M_bid_100 : decode b_M_bid 100 = .ok (.iconst (-1), 1) := by decide +kernel
theorem d_M_bid_101 : decode b_M_bid 101 = .ok (.invokevirtual 234, 3) := by decide +kernel
theorem d_M_bid_104 : decode b_M_bid 104 = .ok (.goto 4, 3) := by decide +kernel
theorem d_M_bid_107 : decode b_M_bid 107 = .ok (.iconst (-1), 1) := by decide +kernel
theorem d_M_bid_108 : decode b_M_bid 108 = .ok (.istore 6, 2) := by decide +kernel
theorem d_M_bid_110 : decode b_M_bid 110 = .ok (.iload 6, 2) := by decide +kernel
theorem d_M_bid_112 : decode b_M_bid 112 = .ok (.ifCond .lt 27, 3) := by decide +kernel
theorem d_M_bid_115 : decode b_M_bid 115 = .ok (.iload 4, 2) := by decide +kernel
theorem d_M_bid_117 : decode b_M_bid 117 = .ok (.aload_n 0, 1) := by decide +kernel
theorem d_M_bid_118 : decode b_M_bid 118 = .ok (.getfield 102, 3) := by decide +kernel
theorem d_M_bid_121 : decode b_M_bid 121 = .ok (.bipush 8, 2) := by decide +kernel
theorem d_M_bid_123 : decode b_M_bid 123 = .ok (.iload_n 1, 1) := by decide +kernel
theorem d_M_bid_124 : decode b_M_bid 124 = .ok (.imul, 1) := by decide +kernel
theorem d_M_bid_125 : decode b_M_bid 125 = .ok (.iload 6, 2) := by decide +kernel
theorem d_M_bid_127 : decode b_M_bid 127 = .ok (.iadd, 1) := by decide +kernel
theorem d_M_bid_128 : decode b_M_bid 128 = .ok (.iaload, 1) := by decide +kernel
theorem d_M_bid_129 : decode b_M_bid 129 = .ok (.aload_n 0, 1) := by decide +kernel
theorem d_M_bid_130 : decode b_M_bid 130 = .ok (.getfield 81, 3) := by decide +kernel
theorem d_M_bid_133 : decode b_M_bid 133 = .ok (.iload_n 1, 1) := by decide +kernel
theorem d_M_bid_134 : decode b_M_bid 134 = .ok (.iaload, 1) := by decide +kernel
theorem d_M_bid_135 : decode b_M_bid 135 = .ok (.iadd, 1) := by decide +kernel
theorem d_M_bid_136 : decode b_M_bid 136 = .ok (.if_icmp .lt 26, 3) := by decide +kernel
theorem d_M_bid_139 : decode b_M_bid 139 = .ok (.aload_n 0, 1) := by decide +kernel
theorem d_M_bid_140 : decode b_M_bid 140 = .ok (.getfield 13, 3) := by decide +kernel
theorem d_M_bid_143 : decode b_M_bid 143 = .ok (.iload_n 2, 1) := by decide +kernel
theorem d_M_bid_144 : decode b_M_bid 144 = .ok (.laload, 1) := by decide +kernel
theorem d_M_bid_145 : decode b_M_bid 145 = .ok (.aload_n 0, 1) := by decide +kernel
theorem d_M_bid_146 : decode b_M_bid 146 = .ok (.iload 5, 2) := by decide +kernel
theorem d_M_bid_148 : decode b_M_bid 148 = .ok (.invokevirtual 237, 3) := by decide +kernel
theorem d_M_bid_151 : decode b_M_bid 151 = .ok (.ladd, 1) := by decide +kernel
theorem d_M_bid_152 : decode b_M_bid 152 = .ok (.iload_n 3, 1) := by decide +kernel
theorem d_M_bid_153 : decode b_M_bid 153 = .ok (.i2l, 1) := by decide +kernel
theorem d_M_bid_154 : decode b_M_bid 154 = .ok (.iload 4, 2) := by decide +kernel
theorem d_M_bid_156 : decode b_M_bid 156 = .ok (.i2l, 1) := by decide +kernel
theorem d_M_bid_157 : decode b_M_bid 157 = .ok (.lmul, 1) := by decide +kernel
theorem d_M_bid_158 : decode b_M_bid 158 = .ok (.lcmp, 1) := by decide +kernel
theorem d_M_bid_159 : decode b_M_bid 159 = .ok (.ifCond .ge 6, 3) := by decide +kernel
theorem d_M_bid_162 : decode b_M_bid 162 = .ok (.bipush (-3), 2) := by decide +kernel
theorem d_M_bid_164 : decode b_M_bid 164 = .ok (.ireturn, 1) := by decide +kernel
theorem d_M_bid_165 : decode b_M_bid 165 = .ok (.iload 6, 2) := by decide +kernel
theorem d_M_bid_167 : decode b_M_bid 167 = .ok (.ifCond .lt 34, 3) := by decide +kernel
theorem d_M_bid_170 : decode b_M_bid 170 = .ok (.aload_n 0, 1) := by decide +kernel
theorem d_M_bid_171 : decode b_M_bid 171 = .ok (.iload 6, 2) := by decide +kernel
theorem d_M_bid_173 : decode b_M_bid 173 = .ok (.aload_n 0, 1) := by decide +kernel
theorem d_M_bid_174 : decode b_M_bid 174 = .ok (.bipush 8, 2) := by decide +kernel
theorem d_M_bid_176 : decode b_M_bid 176 = .ok (.iload_n 1, 1) := by decide +kernel
theorem d_M_bid_177 : decode b_M_bid 177 = .ok (.imul, 1) := by decide +kernel
theorem d_M_bid_178 : decode b_M_bid 178 = .ok (.iload 6, 2) := by decide +kernel
theorem d_M_bid_180 : decode b_M_bid 180 = .ok (.iadd, 1) := by decide +kernel
theorem d_M_bid_181 : decode b_M_bid 181 = .ok (.invokevirtual 237, 3) := by decide +kernel
theorem d_M_bid_184 : decode b_M_bid 184 = .ok (.lneg, 1) := by decide +kernel
theorem d_M_bid_185 : decode b_M_bid 185 = .ok (.invokevirtual 241, 3) := by decide +kernel
theorem d_M_bid_188 : decode b_M_bid 188 = .ok (.aload_n 0, 1) := by decide +kernel
theorem d_M_bid_189 : decode b_M_bid 189 = .ok (.getfield 96, 3) := by decide +kernel
theorem d_M_bid_192 : decode b_M_bid 192 = .ok (.bipush 8, 2) := by decide +kernel
theorem d_M_bid_194 : decode b_M_bid 194 = .ok (.iload_n 1, 1) := by decide +kernel
theorem d_M_bid_195 : decode b_M_bid 195 = .ok (.imul, 1) := by decide +kernel
theorem d_M_bid_196 : decode b_M_bid 196 = .ok (.iload 6, 2) := by decide +kernel
theorem d_M_bid_198 : decode b_M_bid 198 = .ok (.iadd, 1) := by decide +kernel
theorem d_M_bid_199 : decode b_M_bid 199 = .ok (.iconst 0, 1) := by decide +kernel
theorem d_M_bid_200 : decode b_M_bid 200 = .ok (.bastore, 1) := by decide +kernel
theorem d_M_bid_201 : decode b_M_bid 201 = .ok (.aload_n 0, 1) := by decide +kernel
theorem d_M_bid_202 : decode b_M_bid 202 = .ok (.iload_n 2, 1) := by decide +kernel
theorem d_M_bid_203 : decode b_M_bid 203 = .ok (.aload_n 0, 1) := by decide +kernel
theorem d_M_bid_204 : decode b_M_bid 204 = .ok (.iload 5, 2) := by decide +kernel
theorem d_M_bid_206 : decode b_M_bid 206 = .ok (.invokevirtual 237, 3) := by decide +kernel
theorem d_M_bid_209 : decode b_M_bid 209 = .ok (.lneg, 1) := by decide +kernel
theorem d_M_bid_210 : decode b_M_bid 210 = .ok (.invokevirtual 241, 3) := by decide +kernel
theorem d_M_bid_213 : decode b_M_bid 213 = .ok (.aload_n 0, 1) := by decide +kernel
theorem d_M_bid_214 : decode b_M_bid 214 = .ok (.getfield 96, 3) := by decide +kernel
theorem d_M_bid_217 : decode b_M_bid 217 = .ok (.iload 5, 2) := by decide +kernel
theorem d_M_bid_219 : decode b_M_bid 219 = .ok (.iconst 1, 1) := by decide +kernel
theorem d_M_bid_220 : decode b_M_bid 220 = .ok (.bastore, 1) := by decide +kernel
theorem d_M_bid_221 : decode b_M_bid 221 = .ok (.aload_n 0, 1) := by decide +kernel
theorem d_M_bid_222 : decode b_M_bid 222 = .ok (.getfield 99, 3) := by decide +kernel
theorem d_M_bid_225 : decode b_M_bid 225 = .ok (.iload 5, 2) := by decide +kernel
theorem d_M_bid_227 : decode b_M_bid 227 = .ok (.iload_n 3, 1) := by decide +kernel
theorem d_M_bid_228 : decode b_M_bid 228 = .ok (.iastore, 1) := by decide +kernel
theorem d_M_bid_229 : decode b_M_bid 229 = .ok (.aload_n 0, 1) := by decide +kernel
theorem d_M_bid_230 : decode b_M_bid 230 = .ok (.getfield 102, 3) := by decide +kernel
theorem d_M_bid_233 : decode b_M_bid 233 = .ok (.iload 5, 2) := by decide +kernel
theorem d_M_bid_235 : decode b_M_bid 235 = .ok (.iload 4, 2) := by decide +kernel
theorem d_M_bid_237 : decode b_M_bid 237 = .ok (.iastore, 1) := by decide +kernel
theorem d_M_bid_238 : decode b_M_bid 238 = .ok (.aload_n 0, 1) := by decide +kernel
theorem d_M_bid_239 : decode b_M_bid 239 = .ok (.getfield 105, 3) := by decide +kernel
theorem d_M_bid_242 : decode b_M_bid 242 = .ok (.iload 5, 2) := by decide +kernel
theorem d_M_bid_244 : decode b_M_bid 244 = .ok (.aload_n 0, 1) := by decide +kernel
theorem d_M_bid_245 : decode b_M_bid 245 = .ok (.getfield 245, 3) := by decide +kernel
theorem d_M_bid_248 : decode b_M_bid 248 = .ok (.iastore, 1) := by decide +kernel
theorem d_M_bid_249 : decode b_M_bid 249 = .ok (.aload_n 0, 1) := by decide +kernel
theorem d_M_bid_250 : decode b_M_bid 250 = .ok (.dup, 1) := by decide +kernel
theorem d_M_bid_251 : decode b_M_bid 251 = .ok (.getfield 245, 3) := by decide +kernel
theorem d_M_bid_254 : decode b_M_bid 254 = .ok (.iconst 1, 1) := by decide +kernel
theorem d_M_bid_255 : decode b_M_bid 255 = .ok (.iadd, 1) := by decide +kernel
theorem d_M_bid_256 : decode b_M_bid 256 = .ok (.putfield 245, 3) := by decide +kernel
theorem d_M_bid_259 : decode b_M_bid 259 = .ok (.aload_n 0, 1) := by decide +kernel
theorem d_M_bid_260 : decode b_M_bid 260 = .ok (.iload_n 2, 1) := by decide +kernel
theorem d_M_bid_261 : decode b_M_bid 261 = .ok (.aload_n 0, 1) := by decide +kernel
theorem d_M_bid_262 : decode b_M_bid 262 = .ok (.iload 5, 2) := by decide +kernel
theorem d_M_bid_264 : decode b_M_bid 264 = .ok (.invokevirtual 237, 3) := by decide +kernel
theorem d_M_bid_267 : decode b_M_bid 267 = .ok (.invokevirtual 241, 3) := by decide +kernel
theorem d_M_bid_270 : decode b_M_bid 270 = .ok (.iconst 1, 1) := by decide +kernel
theorem d_M_bid_271 : decode b_M_bid 271 = .ok (.ireturn, 1) := by decide +kernel
