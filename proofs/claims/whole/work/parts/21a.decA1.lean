theorem d_V_endAuction_0 : decode b_V_endAuction 0 = .ok (.aload_n 1, 1) := by decide +kernel
theorem d_V_endAuction_1 : decode b_V_endAuction 1 = .ok (.getfield 174, 3) := by decide +kernel
theorem d_V_endAuction_4 : decode b_V_endAuction 4 = .ok (.iconst 3, 1) := by decide +kernel
theorem d_V_endAuction_5 : decode b_V_endAuction 5 = .ok (.if_icmp .ne 4, 3) := by decide +kernel
theorem d_V_endAuction_8 : decode b_V_endAuction 8 = .ok (.return_, 1) := by decide +kernel
theorem d_V_endAuction_9 : decode b_V_endAuction 9 = .ok (.aload_n 1, 1) := by decide +kernel
theorem d_V_endAuction_10 : decode b_V_endAuction 10 = .ok (.invokevirtual 211, 3) := by decide +kernel
theorem d_V_endAuction_13 : decode b_V_endAuction 13 = .ok (.ifCond .eq 8, 3) := by decide +kernel
theorem d_V_endAuction_16 : decode b_V_endAuction 16 = .ok (.aload_n 0, 1) := by decide +kernel
theorem d_V_endAuction_17 : decode b_V_endAuction 17 = .ok (.aload_n 1, 1) := by decide +kernel
theorem d_V_endAuction_18 : decode b_V_endAuction 18 = .ok (.invokevirtual 286, 3) := by decide +kernel
theorem d_V_endAuction_21 : decode b_V_endAuction 21 = .ok (.aload_n 1, 1) := by decide +kernel
theorem d_V_endAuction_22 : decode b_V_endAuction 22 = .ok (.invokestatic 289, 3) := by decide +kernel
theorem d_V_endAuction_25 : decode b_V_endAuction 25 = .ok (.aload_n 1, 1) := by decide +kernel
theorem d_V_endAuction_26 : decode b_V_endAuction 26 = .ok (.getfield 174, 3) := by decide +kernel
theorem d_V_endAuction_29 : decode b_V_endAuction 29 = .ok (.iconst 2, 1) := by decide +kernel
theorem d_V_endAuction_30 : decode b_V_endAuction 30 = .ok (.if_icmp .ne 37, 3) := by decide +kernel
theorem d_V_endAuction_33 : decode b_V_endAuction 33 = .ok (.aload_n 1, 1) := by decide +kernel
theorem d_V_endAuction_34 : decode b_V_endAuction 34 = .ok (.getfield 191, 3) := by decide +kernel
theorem d_V_endAuction_37 : decode b_V_endAuction 37 = .ok (.ifCond .eq 30, 3) := by decide +kernel
theorem d_V_endAuction_40 : decode b_V_endAuction 40 = .ok (.aload_n 1, 1) := by decide +kernel
theorem d_V_endAuction_41 : decode b_V_endAuction 41 = .ok (.invokevirtual 292, 3) := by decide +kernel
theorem d_V_endAuction_44 : decode b_V_endAuction 44 = .ok (.istore_n 2, 1) := by decide +kernel
theorem d_V_endAuction_45 : decode b_V_endAuction 45 = .ok (.aload_n 1, 1) := by decide +kernel
theorem d_V_endAuction_46 : decode b_V_endAuction 46 = .ok (.iload_n 2, 1) := by decide +kernel
theorem d_V_endAuction_47 : decode b_V_endAuction 47 = .ok (.iconst (-1), 1) := by decide +kernel
theorem d_V_endAuction_48 : decode b_V_endAuction 48 = .ok (.if_icmp .ne 10, 3) := by decide +kernel
theorem d_V_endAuction_51 : decode b_V_endAuction 51 = .ok (.aload_n 1, 1) := by decide +kernel
theorem d_V_endAuction_52 : decode b_V_endAuction 52 = .ok (.getfield 171, 3) := by decide +kernel
theorem d_V_endAuction_55 : decode b_V_endAuction 55 = .ok (.goto 9, 3) := by decide +kernel
theorem d_V_endAuction_58 : decode b_V_endAuction 58 = .ok (.aload_n 1, 1) := by decide +kernel
theorem d_V_endAuction_59 : decode b_V_endAuction 59 = .ok (.getfield 201, 3) := by decide +kernel
theorem d_V_endAuction_62 : decode b_V_endAuction 62 = .ok (.iload_n 2, 1) := by decide +kernel
theorem d_V_endAuction_63 : decode b_V_endAuction 63 = .ok (.iaload, 1) := by decide +kernel
theorem d_V_endAuction_64 : decode b_V_endAuction 64 = .ok (.putfield 191, 3) := by decide +kernel
theorem d_V_endAuction_67 : decode b_V_endAuction 67 = .ok (.aload_n 0, 1) := by decide +kernel
theorem d_V_endAuction_68 : decode b_V_endAuction 68 = .ok (.aload_n 1, 1) := by decide +kernel
theorem d_V_endAuction_69 : decode b_V_endAuction 69 = .ok (.invokevirtual 296, 3) := by decide +kernel
theorem d_V_endAuction_72 : decode b_V_endAuction 72 = .ok (.return_, 1) := by decide +kernel
theorem d_V_endAuctions_0 : decode b_V_endAuctions 0 = .ok (.iconst 0, 1) := by decide +kernel
theorem d_V_endAuctions_1 : decode b_V_endAuctions 1 = .ok (.istore_n 1, 1) := by decide +kernel
theorem d_V_endAuctions_2 : decode b_V_endAuctions 2 = .ok (.iload_n 1, 1) := by decide +kernel
theorem d_V_endAuctions_3 : decode b_V_endAuctions 3 = .ok (.bipush 6, 2) := by decide +kernel
theorem d_V_endAuctions_5 : decode b_V_endAuctions 5 = .ok (.if_icmp .ge 36, 3) := by decide +kernel
theorem d_V_endAuctions_8 : decode b_V_endAuctions 8 = .ok (.aload_n 0, 1) := by decide +kernel
theorem d_V_endAuctions_9 : decode b_V_endAuctions 9 = .ok (.getfield 31, 3) := by decide +kernel
theorem d_V_endAuctions_12 : decode b_V_endAuctions 12 = .ok (.iload_n 1, 1) := by decide +kernel
theorem d_V_endAuctions_13 : decode b_V_endAuctions 13 = .ok (.aaload, 1) := by decide +kernel
theorem d_V_endAuctions_14 : decode b_V_endAuctions 14 = .ok (.astore_n 2, 1) := by decide +kernel
theorem d_V_endAuctions_15 : decode b_V_endAuctions 15 = .ok (.aload_n 2, 1) := by decide +kernel
theorem d_V_endAuctions_16 : decode b_V_endAuctions 16 = .ok (.ifnull 19, 3) := by decide +kernel
theorem d_V_endAuctions_19 : decode b_V_endAuctions 19 = .ok (.aload_n 2, 1) := by decide +kernel
theorem d_V_endAuctions_20 : decode b_V_endAuctions 20 = .ok (.getfield 175, 3) := by decide +kernel
theorem d_V_endAuctions_23 : decode b_V_endAuctions 23 = .ok (.aload_n 0, 1) := by decide +kernel
theorem d_V_endAuctions_24 : decode b_V_endAuctions 24 = .ok (.getfield 66, 3) := by decide +kernel
theorem d_V_endAuctions_27 : decode b_V_endAuctions 27 = .ok (.if_icmp .ne 8, 3) := by decide +kernel
theorem d_V_endAuctions_30 : decode b_V_endAuctions 30 = .ok (.aload_n 0, 1) := by decide +kernel
theorem d_V_endAuctions_31 : decode b_V_endAuctions 31 = .ok (.aload_n 2, 1) := by decide +kernel
theorem d_V_endAuctions_32 : decode b_V_endAuctions 32 = .ok (.invokevirtual 282, 3) := by decide +kernel
theorem d_V_endAuctions_35 : decode b_V_endAuctions 35 = .ok (.iinc 1 1, 3) := by decide +kernel
theorem d_V_endAuctions_38 : decode b_V_endAuctions 38 = .ok (.goto (-36), 3) := by decide +kernel
theorem d_V_endAuctions_41 : decode b_V_endAuctions 41 = .ok (.return_, 1) := by decide +kernel
theorem d_V_tick_0 : decode b_V_tick 0 = .ok (.iload_n 1, 1) := by decide +kernel
theorem d_V_tick_1 : decode b_V_tick 1 = .ok (.iconst 0, 1) := by decide +kernel
theorem d_V_tick_2 : decode b_V_tick 2 = .ok (.bipush 50, 2) := by decide +kernel
theorem d_V_tick_4 : decode b_V_tick 4 = .ok (.invokestatic 44, 3) := by decide +kernel
theorem d_V_tick_7 : decode b_V_tick 7 = .ok (.ifCond .eq 6, 3) := by decide +kernel
theorem d_V_tick_10 : decode b_V_tick 10 = .ok (.bipush (-2), 2) := by decide +kernel
theorem d_V_tick_12 : decode b_V_tick 12 = .ok (.ireturn, 1) := by decide +kernel
theorem d_V_tick_13 : decode b_V_tick 13 = .ok (.iconst 0, 1) := by decide +kernel
theorem d_V_tick_14 : decode b_V_tick 14 = .ok (.istore_n 2, 1) := by decide +kernel
theorem d_V_tick_15 : decode b_V_tick 15 = .ok (.iload_n 2, 1) := by decide +kernel
theorem d_V_tick_16 : decode b_V_tick 16 = .ok (.iload_n 1, 1) := by decide +kernel
theorem d_V_tick_17 : decode b_V_tick 17 = .ok (.if_icmp .ge 27, 3) := by decide +kernel
theorem d_V_tick_20 : decode b_V_tick 20 = .ok (.aload_n 0, 1) := by decide +kernel
theorem d_V_tick_21 : decode b_V_tick 21 = .ok (.dup, 1) := by decide +kernel
theorem d_V_tick_22 : decode b_V_tick 22 = .ok (.getfield 66, 3) := by decide +kernel
theorem d_V_tick_25 : decode b_V_tick 25 = .ok (.iconst 1, 1) := by decide +kernel
theorem d_V_tick_26 : decode b_V_tick 26 = .ok (.iadd, 1) := by decide +kernel
theorem d_V_tick_27 : decode b_V_tick 27 = .ok (.putfield 66, 3) := by decide +kernel
theorem d_V_tick_30 : decode b_V_tick 30 = .ok (.aload_n 0, 1) := by decide +kernel
theorem d_V_tick_31 : decode b_V_tick 31 = .ok (.invokevirtual 69, 3) := by decide +kernel
theorem d_V_tick_34 : decode b_V_tick 34 = .ok (.aload_n 0, 1) := by decide +kernel
theorem d_V_tick_35 : decode b_V_tick 35 = .ok (.invokevirtual 72, 3) := by decide +kernel
theorem d_V_tick_38 : decode b_V_tick 38 = .ok (.iinc 2 1, 3) := by decide +kernel
theorem d_V_tick_41 : decode b_V_tick 41 = .ok (.goto (-26), 3) := by decide +kernel
theorem d_V_tick_44 : decode b_V_tick 44 = .ok (.aload_n 0, 1) := by decide +kernel
theorem d_V_tick_45 : decode b_V_tick 45 = .ok (.getfield 66, 3) := by decide +kernel
theorem d_V_tick_48 : decode b_V_tick 48 = .ok (.ireturn, 1) := by decide +kernel
theorem d_V_mark_0 : decode b_V_mark 0 = .ok (.iload_n 1, 1) := by decide +kernel
theorem d_V_mark_1 : decode b_V_mark 1 = .ok (.i2l, 1) := by decide +kernel
theorem d_V_mark_2 : decode b_V_mark 2 = .ok (.ldc2_w 75, 3) := by decide +kernel
theorem d_V_mark_5 : decode b_V_mark 5 = .ok (.lmul, 1) := by decide +kernel
theorem d_V_mark_6 : decode b_V_mark 6 = .ok (.iload_n 2, 1) := by decide +kernel
theorem d_V_mark_7 : decode b_V_mark 7 = .ok (.i2l, 1) := by decide +kernel
theorem d_V_mark_8 : decode b_V_mark 8 = .ok (.ladd, 1) := by decide +kernel
theorem d_V_mark_9 : decode b_V_mark 9 = .ok (.lstore 4, 2) := by decide +kernel
theorem d_V_mark_11 : decode b_V_mark 11 = .ok (.lload 4, 2) := by decide +kernel
theorem d_V_mark_13 : decode b_V_mark 13 = .ok (.lload 4, 2) := by decide +kernel
theorem d_V_mark_15 : decode b_V_mark 15 = .ok (.bipush 31, 2) := by decide +kernel
theorem d_V_mark_17 : decode b_V_mark 17 = .ok (.lushr, 1) := by decide +kernel
theorem d_V_mark_18 : decode b_V_mark 18 = .ok (.lxor, 1) := by decide +kernel
theorem d_V_mark_19 : decode b_V_mark 19 = .ok (.ldc2_w 77, 3) := by decide +kernel
theorem d_V_mark_22 : decode b_V_mark 22 = .ok (.lmul, 1) := by decide +kernel
theorem d_V_mark_23 : decode b_V_mark 23 = .ok (.iload_n 3, 1) := by decide +kernel
theorem d_V_mark_24 : decode b_V_mark 24 = .ok (.i2l, 1) := by decide +kernel
theorem d_V_mark_25 : decode b_V_mark 25 = .ok (.ladd, 1) := by decide +kernel
theorem d_V_mark_26 : decode b_V_mark 26 = .ok (.lstore 4, 2) := by decide +kernel
theorem d_V_mark_28 : decode b_V_mark 28 = .ok (.lload 4, 2) := by decide +kernel
theorem d_V_mark_30 : decode b_V_mark 30 = .ok (.lload 4, 2) := by decide +kernel
theorem d_V_mark_32 : decode b_V_mark 32 = .ok (.bipush 29, 2) := by decide +kernel
theorem d_V_mark_34 : decode b_V_mark 34 = .ok (.lushr, 1) := by decide +kernel
theorem d_V_mark_35 : decode b_V_mark 35 = .ok (.lxor, 1) := by decide +kernel
theorem d_V_mark_36 : decode b_V_mark 36 = .ok (.lreturn, 1) := by decide +kernel
theorem d_Q_init_0 : decode b_Q_init 0 = .ok (.aload_n 0, 1) := by decide +kernel
theorem d_Q_init_1 : decode b_Q_init 1 = .ok (.invokespecial 3, 3) := by decide +kernel
theorem d_Q_init_4 : decode b_Q_init 4 = .ok (.aload_n 0, 1) := by decide +kernel
theorem d_Q_init_5 : decode b_Q_init 5 = .ok (.iload_n 1, 1) := by decide +kernel
theorem d_Q_init_6 : decode b_Q_init 6 = .ok (.putfield 9, 3) := by decide +kernel
theorem d_Q_init_9 : decode b_Q_init 9 = .ok (.aload_n 0, 1) := by decide +kernel
theorem d_Q_init_10 : decode b_Q_init 10 = .ok (.iload_n 2, 1) := by decide +kernel
theorem d_Q_init_11 : decode b_Q_init 11 = .ok (.putfield 15, 3) := by decide +kernel
theorem d_Q_init_14 : decode b_Q_init 14 = .ok (.aload_n 0, 1) := by decide +kernel
theorem d_Q_init_15 : decode b_Q_init 15 = .ok (.iload_n 3, 1) := by decide +kernel
theorem d_Q_init_16 : decode b_Q_init 16 = .ok (.putfield 18, 3) := by decide +kernel
theorem d_Q_init_19 : decode b_Q_init 19 = .ok (.aload_n 0, 1) := by decide +kernel
theorem d_Q_init_20 : decode b_Q_init 20 = .ok (.iload 4, 2) := by decide +kernel
theorem d_Q_init_22 : decode b_Q_init 22 = .ok (.putfield 21, 3) := by decide +kernel
theorem d_Q_init_25 : decode b_Q_init 25 = .ok (.aload_n 0, 1) := by decide +kernel
theorem d_Q_init_26 : decode b_Q_init 26 = .ok (.iload 5, 2) := by decide +kernel
theorem d_Q_init_28 : decode b_Q_init 28 = .ok (.putfield 24, 3) := by decide +kernel
theorem d_Q_init_31 : decode b_Q_init 31 = .ok (.aload_n 0, 1) := by decide +kernel
theorem d_Q_init_32 : decode b_Q_init 32 = .ok (.bipush 8, 2) := by decide +kernel
theorem d_Q_init_34 : decode b_Q_init 34 = .ok (.newarray .int, 2) := by decide +kernel
theorem d_Q_init_36 : decode b_Q_init 36 = .ok (.putfield 27, 3) := by decide +kernel
theorem d_Q_init_39 : decode b_Q_init 39 = .ok (.aload_n 0, 1) := by decide +kernel
theorem d_Q_init_40 : decode b_Q_init 40 = .ok (.bipush 8, 2) := by decide +kernel
theorem d_Q_init_42 : decode b_Q_init 42 = .ok (.newarray .int, 2) := by decide +kernel
theorem d_Q_init_44 : decode b_Q_init 44 = .ok (.putfield 31, 3) := by decide +kernel
theorem d_Q_init_47 : decode b_Q_init 47 = .ok (.aload_n 0, 1) := by decide +kernel
theorem d_Q_init_48 : decode b_Q_init 48 = .ok (.bipush 8, 2) := by decide +kernel
theorem d_Q_init_50 : decode b_Q_init 50 = .ok (.newarray .boolean, 2) := by decide +kernel
theorem d_Q_init_52 : decode b_Q_init 52 = .ok (.putfield 34, 3) := by decide +kernel
theorem d_Q_init_55 : decode b_Q_init 55 = .ok (.aload_n 0, 1) := by decide +kernel
theorem d_Q_init_56 : decode b_Q_init 56 = .ok (.bipush 8, 2) := by decide +kernel
theorem d_Q_init_58 : decode b_Q_init 58 = .ok (.newarray .long, 2) := by decide +kernel
theorem d_Q_init_60 : decode b_Q_init 60 = .ok (.putfield 38, 3) := by decide +kernel
theorem d_Q_init_63 : decode b_Q_init 63 = .ok (.aload_n 0, 1) := by decide +kernel
theorem d_Q_init_64 : decode b_Q_init 64 = .ok (.bipush 8, 2) := by decide +kernel
theorem d_Q_init_66 : decode b_Q_init 66 = .ok (.newarray .int, 2) := by decide +kernel
theorem d_Q_init_68 : decode b_Q_init 68 = .ok (.putfield 42, 3) := by decide +kernel
theorem d_Q_init_71 : decode b_Q_init 71 = .ok (.iconst 0, 1) := by decide +kernel
theorem d_Q_init_72 : decode b_Q_init 72 = .ok (.istore 6, 2) := by decide +kernel
theorem d_Q_init_74 : decode b_Q_init 74 = .ok (.iload 6, 2) := by decide +kernel
theorem d_Q_init_76 : decode b_Q_init 76 = .ok (.bipush 8, 2) := by decide +kernel
theorem d_Q_init_78 : decode b_Q_init 78 = .ok (.if_icmp .ge 25, 3) := by decide +kernel
theorem d_Q_init_81 : decode b_Q_init 81 = .ok (.aload_n 0, 1) := by decide +kernel
theorem d_Q_init_82 : decode b_Q_init 82 = .ok (.getfield 31, 3) := by decide +kernel
theorem d_Q_init_85 : decode b_Q_init 85 = .ok (.iload 6, 2) := by decide +kernel
theorem d_Q_init_87 : decode b_Q_init 87 = .ok (.iconst (-1), 1) := by decide +kernel
theorem d_Q_init_88 : decode b_Q_init 88 = .ok (.iastore, 1) := by decide +kernel
theorem d_Q_init_89 : decode b_Q_init 89 = .ok (.aload_n 0, 1) := by decide +kernel
theorem d_Q_init_90 : decode b_Q_init 90 = .ok (.getfield 42, 3) := by decide +kernel
theorem d_Q_init_93 : decode b_Q_init 93 = .ok (.iload 6, 2) := by decide +kernel
theorem d_Q_init_95 : decode b_Q_init 95 = .ok (.iconst (-1), 1) := by decide +kernel
theorem d_Q_init_96 : decode b_Q_init 96 = .ok (.iastore, 1) := by decide +kernel
theorem d_Q_init_97 : decode b_Q_init 97 = .ok (.iinc 6 1, 3) := by decide +kernel
theorem d_Q_init_100 : decode b_Q_init 100 = .ok (.goto (-26), 3) := by decide +kernel
theorem d_Q_init_103 : decode b_Q_init 103 = .ok (.aload_n 0, 1) := by decide +kernel
theorem d_Q_init_104 : decode b_Q_init 104 = .ok (.iconst (-1), 1) := by decide +kernel
theorem d_Q_init_105 : decode b_Q_init 105 = .ok (.putfield 45, 3) := by decide +kernel
theorem d_Q_init_108 : decode b_Q_init 108 = .ok (.return_, 1) := by decide +kernel
theorem d_V_question_0 : decode b_V_question 0 = .ok (.iload_n 1, 1) := by decide +kernel
theorem d_V_question_1 : decode b_V_question 1 = .ok (.iconst 0, 1) := by decide +kernel
theorem d_V_question_2 : decode b_V_question 2 = .ok (.iconst 3, 1) := by decide +kernel
theorem d_V_question_3 : decode b_V_question 3 = .ok (.invokestatic 44, 3) := by decide +kernel
theorem d_V_question_6 : decode b_V_question 6 = .ok (.ifCond .ne 44, 3) := by decide +kernel
theorem d_V_question_9 : decode b_V_question 9 = .ok (.iload_n 2, 1) := by decide +kernel
theorem d_V_question_10 : decode b_V_question 10 = .ok (.iconst 2, 1) := by decide +kernel
theorem d_V_question_11 : decode b_V_question 11 = .ok (.iconst 4, 1) := by decide +kernel
theorem d_V_question_12 : decode b_V_question 12 = .ok (.invokestatic 44, 3) := by decide +kernel
theorem d_V_question_15 : decode b_V_question 15 = .ok (.ifCond .ne 35, 3) := by decide +kernel
theorem d_V_question_18 : decode b_V_question 18 = .ok (.iload_n 3, 1) := by decide +kernel
theorem d_V_question_19 : decode b_V_question 19 = .ok (.iconst 1, 1) := by decide +kernel
theorem d_V_question_20 : decode b_V_question 20 = .ok (.bipush 50, 2) := by decide +kernel
theorem d_V_question_22 : decode b_V_question 22 = .ok (.invokestatic 44, 3) := by decide +kernel
theorem d_V_question_25 : decode b_V_question 25 = .ok (.ifCond .ne 25, 3) := by decide +kernel
theorem d_V_question_28 : decode b_V_question 28 = .ok (.iload 4, 2) := by decide +kernel
theorem d_V_question_30 : decode b_V_question 30 = .ok (.iconst 0, 1) := by decide +kernel
theorem d_V_question_31 : decode b_V_question 31 = .ok (.bipush 20, 2) := by decide +kernel
theorem d_V_question_33 : decode b_V_question 33 = .ok (.invokestatic 44, 3) := by decide +kernel
theorem d_V_question_36 : decode b_V_question 36 = .ok (.ifCond .ne 14, 3) := by decide +kernel
theorem d_V_question_39 : decode b_V_question 39 = .ok (.iload 5, 2) := by decide +kernel
theorem d_V_question_41 : decode b_V_question 41 = .ok (.iconst 0, 1) := by decide +kernel
theorem d_V_question_42 : decode b_V_question 42 = .ok (.bipush 100, 2) := by decide +kernel
theorem d_V_question_44 : decode b_V_question 44 = .ok (.invokestatic 44, 3) := by decide +kernel
theorem d_V_question_47 : decode b_V_question 47 = .ok (.ifCond .eq 6, 3) := by decide +kernel
theorem d_V_question_50 : decode b_V_question 50 = .ok (.bipush (-2), 2) := by decide +kernel
theorem d_V_question_52 : decode b_V_question 52 = .ok (.ireturn, 1) := by decide +kernel
theorem d_V_question_53 : decode b_V_question 53 = .ok (.aload_n 0, 1) := by decide +kernel
theorem d_V_question_54 : decode b_V_question 54 = .ok (.getfield 79, 3) := by decide +kernel
theorem d_V_question_57 : decode b_V_question 57 = .ok (.bipush 6, 2) := by decide +kernel
theorem d_V_question_59 : decode b_V_question 59 = .ok (.if_icmp .lt 6, 3) := by decide +kernel
theorem d_V_question_62 : decode b_V_question 62 = .ok (.bipush (-4), 2) := by decide +kernel
theorem d_V_question_64 : decode b_V_question 64 = .ok (.ireturn, 1) := by decide +kernel
theorem d_V_question_65 : decode b_V_question 65 = .ok (.aload_n 0, 1) := by decide +kernel
theorem d_V_question_66 : decode b_V_question 66 = .ok (.getfield 79, 3) := by decide +kernel
theorem d_V_question_69 : decode b_V_question 69 = .ok (.istore 6, 2) := by decide +kernel
theorem d_V_question_71 : decode b_V_question 71 = .ok (.new 23, 3) := by decide +kernel
theorem d_V_question_74 : decode b_V_question 74 = .ok (.dup, 1) := by decide +kernel
theorem d_V_question_75 : decode b_V_question 75 = .ok (.iload_n 1, 1) := by decide +kernel
theorem d_V_question_76 : decode b_V_question 76 = .ok (.iload_n 2, 1) := by decide +kernel
theorem d_V_question_77 : decode b_V_question 77 = .ok (.aload_n 0, 1) := by decide +kernel
theorem d_V_question_78 : decode b_V_question 78 = .ok (.getfield 66, 3) := by decide +kernel
theorem d_V_question_81 : decode b_V_question 81 = .ok (.iload_n 3, 1) := by decide +kernel
theorem d_V_question_82 : decode b_V_question 82 = .ok (.iadd, 1) := by decide +kernel
theorem d_V_question_83 : decode b_V_question 83 = .ok (.aload_n 0, 1) := by decide +kernel
theorem d_V_question_84 : decode b_V_question 84 = .ok (.getfield 66, 3) := by decide +kernel
theorem d_V_question_87 : decode b_V_question 87 = .ok (.iload_n 3, 1) := by decide +kernel
theorem d_V_question_88 : decode b_V_question 88 = .ok (.iadd, 1) := by decide +kernel
theorem d_V_question_89 : decode b_V_question 89 = .ok (.iload 4, 2) := by decide +kernel
theorem d_V_question_91 : decode b_V_question 91 = .ok (.iadd, 1) := by decide +kernel
theorem d_V_question_92 : decode b_V_question 92 = .ok (.iload 5, 2) := by decide +kernel
theorem d_V_question_94 : decode b_V_question 94 = .ok (.invokespecial 82, 3) := by decide +kernel
theorem d_V_question_97 : decode b_V_question 97 = .ok (.astore 7, 2) := by decide +kernel
theorem d_V_question_99 : decode b_V_question 99 = .ok (.aload_n 0, 1) := by decide +kernel
theorem d_V_question_100 : decode b_V_question 100 = .ok (.getfield 9, 3) := by decide +kernel
theorem d_V_question_103 : decode b_V_question 103 = .ok (.iconst 0, 1) := by decide +kernel
theorem d_V_question_104 : decode b_V_question 104 = .ok (.aload 7, 2) := by decide +kernel
theorem d_V_question_106 : decode b_V_question 106 = .ok (.getfield 85, 3) := by decide +kernel
theorem d_V_question_109 : decode b_V_question 109 = .ok (.iconst 0, 1) := by decide +kernel
theorem d_V_question_110 : decode b_V_question 110 = .ok (.bipush 8, 2) := by decide +kernel
theorem d_V_question_112 : decode b_V_question 112 = .ok (.invokestatic 86, 3) := by decide +kernel
theorem d_V_question_115 : decode b_V_question 115 = .ok (.aload_n 0, 1) := by decide +kernel
theorem d_V_question_116 : decode b_V_question 116 = .ok (.getfield 25, 3) := by decide +kernel
theorem d_V_question_119 : decode b_V_question 119 = .ok (.iload 6, 2) := by decide +kernel
theorem d_V_question_121 : decode b_V_question 121 = .ok (.aload 7, 2) := by decide +kernel
theorem d_V_question_123 : decode b_V_question 123 = .ok (.aastore, 1) := by decide +kernel
theorem d_V_question_124 : decode b_V_question 124 = .ok (.aload_n 0, 1) := by decide +kernel
theorem d_V_question_125 : decode b_V_question 125 = .ok (.dup, 1) := by decide +kernel
theorem d_V_question_126 : decode b_V_question 126 = .ok (.getfield 79, 3) := by decide +kernel
theorem d_V_question_129 : decode b_V_question 129 = .ok (.iconst 1, 1) := by decide +kernel
theorem d_V_question_130 : decode b_V_question 130 = .ok (.iadd, 1) := by decide +kernel
theorem d_V_question_131 : decode b_V_question 131 = .ok (.putfield 79, 3) := by decide +kernel
theorem d_V_question_134 : decode b_V_question 134 = .ok (.iload 6, 2) := by decide +kernel
theorem d_V_question_136 : decode b_V_question 136 = .ok (.ireturn, 1) := by decide +kernel
theorem d_V_questionAt_0 : decode b_V_questionAt 0 = .ok (.iload_n 1, 1) := by decide +kernel
theorem d_V_questionAt_1 : decode b_V_questionAt 1 = .ok (.iconst 0, 1) := by decide +kernel
theorem d_V_questionAt_2 : decode b_V_questionAt 2 = .ok (.iconst 5, 1) := by decide +kernel
theorem d_V_questionAt_3 : decode b_V_questionAt 3 = .ok (.invokestatic 44, 3) := by decide +kernel
theorem d_V_questionAt_6 : decode b_V_questionAt 6 = .ok (.ifCond .eq 7, 3) := by decide +kernel
theorem d_V_questionAt_9 : decode b_V_questionAt 9 = .ok (.aconst_null, 1) := by decide +kernel
theorem d_V_questionAt_10 : decode b_V_questionAt 10 = .ok (.goto 9, 3) := by decide +kernel
theorem d_V_questionAt_13 : decode b_V_questionAt 13 = .ok (.aload_n 0, 1) := by decide +kernel
theorem d_V_questionAt_14 : decode b_V_questionAt 14 = .ok (.getfield 25, 3) := by decide +kernel
theorem d_V_questionAt_17 : decode b_V_questionAt 17 = .ok (.iload_n 1, 1) := by decide +kernel
theorem d_V_questionAt_18 : decode b_V_questionAt 18 = .ok (.aaload, 1) := by decide +kernel
theorem d_V_questionAt_19 : decode b_V_questionAt 19 = .ok (.areturn, 1) := by decide +kernel
theorem d_V_call_0 : decode b_V_call 0 = .ok (.aload_n 0, 1) := by decide +kernel
theorem d_V_call_1 : decode b_V_call 1 = .ok (.iload_n 1, 1) := by decide +kernel
theorem d_V_call_2 : decode b_V_call 2 = .ok (.invokevirtual 92, 3) := by decide +kernel
theorem d_V_call_5 : decode b_V_call 5 = .ok (.astore 5, 2) := by decide +kernel
theorem d_V_call_7 : decode b_V_call 7 = .ok (.aload 5, 2) := by decide +kernel
theorem d_V_call_9 : decode b_V_call 9 = .ok (.ifnull 11, 3) := by decide +kernel
theorem d_V_call_12 : decode b_V_call 12 = .ok (.aload_n 0, 1) := by decide +kernel
theorem d_V_call_13 : decode b_V_call 13 = .ok (.iload_n 2, 1) := by decide +kernel
theorem d_V_call_14 : decode b_V_call 14 = .ok (.invokevirtual 53, 3) := by decide +kernel
theorem d_V_call_17 : decode b_V_call 17 = .ok (.ifCond .eq 5, 3) := by decide +kernel
theorem d_V_call_20 : decode b_V_call 20 = .ok (.iconst (-1), 1) := by decide +kernel
theorem d_V_call_21 : decode b_V_call 21 = .ok (.ireturn, 1) := by decide +kernel
theorem d_V_call_22 : decode b_V_call 22 = .ok (.iload_n 3, 1) := by decide +kernel
theorem d_V_call_23 : decode b_V_call 23 = .ok (.iconst 0, 1) := by decide +kernel
theorem d_V_call_24 : decode b_V_call 24 = .ok (.ldc 57, 2) := by decide +kernel
theorem d_V_call_26 : decode b_V_call 26 = .ok (.invokestatic 44, 3) := by decide +kernel
theorem d_V_call_29 : decode b_V_call 29 = .ok (.ifCond .ne 14, 3) := by decide +kernel
theorem d_V_call_32 : decode b_V_call 32 = .ok (.iload 4, 2) := by decide +kernel
theorem d_V_call_34 : decode b_V_call 34 = .ok (.iconst 0, 1) := by decide +kernel
theorem d_V_call_35 : decode b_V_call 35 = .ok (.bipush 50, 2) := by decide +kernel
theorem d_V_call_37 : decode b_V_call 37 = .ok (.invokestatic 44, 3) := by decide +kernel
theorem d_V_call_40 : decode b_V_call 40 = .ok (.ifCond .eq 6, 3) := by decide +kernel
theorem d_V_call_43 : decode b_V_call 43 = .ok (.bipush (-2), 2) := by decide +kernel
theorem d_V_call_45 : decode b_V_call 45 = .ok (.ireturn, 1) := by decide +kernel
theorem d_V_call_46 : decode b_V_call 46 = .ok (.aload_n 0, 1) := by decide +kernel
theorem d_V_call_47 : decode b_V_call 47 = .ok (.getfield 66, 3) := by decide +kernel
theorem d_V_call_50 : decode b_V_call 50 = .ok (.aload 5, 2) := by decide +kernel
theorem d_V_call_52 : decode b_V_call 52 = .ok (.getfield 96, 3) := by decide +kernel
theorem d_V_call_55 : decode b_V_call 55 = .ok (.if_icmp .lt 6, 3) := by decide +kernel
theorem d_V_call_58 : decode b_V_call 58 = .ok (.bipush (-3), 2) := by decide +kernel
theorem d_V_call_60 : decode b_V_call 60 = .ok (.ireturn, 1) := by decide +kernel
theorem d_V_call_61 : decode b_V_call 61 = .ok (.aload 5, 2) := by decide +kernel
theorem d_V_call_63 : decode b_V_call 63 = .ok (.iload_n 2, 1) := by decide +kernel
theorem d_V_call_64 : decode b_V_call 64 = .ok (.putfield 99, 3) := by decide +kernel
theorem d_V_call_67 : decode b_V_call 67 = .ok (.aload 5, 2) := by decide +kernel
theorem d_V_call_69 : decode b_V_call 69 = .ok (.iload_n 3, 1) := by decide +kernel
theorem d_V_call_70 : decode b_V_call 70 = .ok (.putfield 102, 3) := by decide +kernel
theorem d_V_call_73 : decode b_V_call 73 = .ok (.aload 5, 2) := by decide +kernel
theorem d_V_call_75 : decode b_V_call 75 = .ok (.aload 5, 2) := by decide +kernel
theorem d_V_call_77 : decode b_V_call 77 = .ok (.getfield 105, 3) := by decide +kernel
theorem d_V_call_80 : decode b_V_call 80 = .ok (.iload 4, 2) := by decide +kernel
theorem d_V_call_82 : decode b_V_call 82 = .ok (.iadd, 1) := by decide +kernel
theorem d_V_call_83 : decode b_V_call 83 = .ok (.putfield 108, 3) := by decide +kernel
theorem d_V_call_86 : decode b_V_call 86 = .ok (.iconst 1, 1) := by decide +kernel
theorem d_V_call_87 : decode b_V_call 87 = .ok (.ireturn, 1) := by decide +kernel
theorem d_V_hasChoice_0 : decode b_V_hasChoice 0 = .ok (.iload_n 0, 1) := by decide +kernel
theorem d_V_hasChoice_1 : decode b_V_hasChoice 1 = .ok (.iload_n 1, 1) := by decide +kernel
theorem d_V_hasChoice_2 : decode b_V_hasChoice 2 = .ok (.ishr, 1) := by decide +kernel
theorem d_V_hasChoice_3 : decode b_V_hasChoice 3 = .ok (.iconst 1, 1) := by decide +kernel
theorem d_V_hasChoice_4 : decode b_V_hasChoice 4 = .ok (.iand, 1) := by decide +kernel
theorem d_V_hasChoice_5 : decode b_V_hasChoice 5 = .ok (.ifCond .eq 7, 3) := by decide +kernel
theorem d_V_hasChoice_8 : decode b_V_hasChoice 8 = .ok (.iconst 1, 1) := by decide +kernel
theorem d_V_hasChoice_9 : decode b_V_hasChoice 9 = .ok (.goto 4, 3) := by decide +kernel
theorem d_V_hasChoice_12 : decode b_V_hasChoice 12 = .ok (.iconst 0, 1) := by decide +kernel
theorem d_V_hasChoice_13 : decode b_V_hasChoice 13 = .ok (.ireturn, 1) := by decide +kernel
theorem d_V_isRanks_0 : decode b_V_isRanks 0 = .ok (.iconst 0, 1) := by decide +kernel
theorem d_V_isRanks_1 : decode b_V_isRanks 1 = .ok (.istore_n 2, 1) := by decide +kernel
theorem d_V_isRanks_2 : decode b_V_isRanks 2 = .ok (.iload_n 0, 1) := by decide +kernel
theorem d_V_isRanks_3 : decode b_V_isRanks 3 = .ok (.istore_n 3, 1) := by decide +kernel
theorem d_V_isRanks_4 : decode b_V_isRanks 4 = .ok (.iconst 0, 1) := by decide +kernel
theorem d_V_isRanks_5 : decode b_V_isRanks 5 = .ok (.istore 4, 2) := by decide +kernel
theorem d_V_isRanks_7 : decode b_V_isRanks 7 = .ok (.iload 4, 2) := by decide +kernel
theorem d_V_isRanks_9 : decode b_V_isRanks 9 = .ok (.iload_n 1, 1) := by decide +kernel
theorem d_V_isRanks_10 : decode b_V_isRanks 10 = .ok (.if_icmp .ge 55, 3) := by decide +kernel
theorem d_V_isRanks_13 : decode b_V_isRanks 13 = .ok (.iload_n 3, 1) := by decide +kernel
theorem d_V_isRanks_14 : decode b_V_isRanks 14 = .ok (.ifCond .le 51, 3) := by decide +kernel
theorem d_V_isRanks_17 : decode b_V_isRanks 17 = .ok (.iload_n 3, 1) := by decide +kernel
theorem d_V_isRanks_18 : decode b_V_isRanks 18 = .ok (.bipush 7, 2) := by decide +kernel
theorem d_V_isRanks_20 : decode b_V_isRanks 20 = .ok (.iand, 1) := by decide +kernel
theorem d_V_isRanks_21 : decode b_V_isRanks 21 = .ok (.iconst 1, 1) := by decide +kernel
theorem d_V_isRanks_22 : decode b_V_isRanks 22 = .ok (.isub, 1) := by decide +kernel
theorem d_V_isRanks_23 : decode b_V_isRanks 23 = .ok (.istore 5, 2) := by decide +kernel
theorem d_V_isRanks_25 : decode b_V_isRanks 25 = .ok (.iload 5, 2) := by decide +kernel
theorem d_V_isRanks_27 : decode b_V_isRanks 27 = .ok (.iconst 0, 1) := by decide +kernel
theorem d_V_isRanks_28 : decode b_V_isRanks 28 = .ok (.iload_n 1, 1) := by decide +kernel
theorem d_V_isRanks_29 : decode b_V_isRanks 29 = .ok (.iconst 1, 1) := by decide +kernel
theorem d_V_isRanks_30 : decode b_V_isRanks 30 = .ok (.isub, 1) := by decide +kernel
theorem d_V_isRanks_31 : decode b_V_isRanks 31 = .ok (.invokestatic 44, 3) := by decide +kernel
theorem d_V_isRanks_34 : decode b_V_isRanks 34 = .ok (.ifCond .ne 12, 3) := by decide +kernel
theorem d_V_isRanks_37 : decode b_V_isRanks 37 = .ok (.iload_n 2, 1) := by decide +kernel
theorem d_V_isRanks_38 : decode b_V_isRanks 38 = .ok (.iload 5, 2) := by decide +kernel
theorem d_V_isRanks_40 : decode b_V_isRanks 40 = .ok (.invokestatic 236, 3) := by decide +kernel
theorem d_V_isRanks_43 : decode b_V_isRanks 43 = .ok (.ifCond .eq 5, 3) := by decide +kernel
theorem d_V_isRanks_46 : decode b_V_isRanks 46 = .ok (.iconst 0, 1) := by decide +kernel
theorem d_V_isRanks_47 : decode b_V_isRanks 47 = .ok (.ireturn, 1) := by decide +kernel
theorem d_V_isRanks_48 : decode b_V_isRanks 48 = .ok (.iload_n 2, 1) := by decide +kernel
theorem d_V_isRanks_49 : decode b_V_isRanks 49 = .ok (.iconst 1, 1) := by decide +kernel
theorem d_V_isRanks_50 : decode b_V_isRanks 50 = .ok (.iload 5, 2) := by decide +kernel
theorem d_V_isRanks_52 : decode b_V_isRanks 52 = .ok (.ishl, 1) := by decide +kernel
theorem d_V_isRanks_53 : decode b_V_isRanks 53 = .ok (.ior, 1) := by decide +kernel
theorem d_V_isRanks_54 : decode b_V_isRanks 54 = .ok (.istore_n 2, 1) := by decide +kernel
theorem d_V_isRanks_55 : decode b_V_isRanks 55 = .ok (.iload_n 3, 1) := by decide +kernel
theorem d_V_isRanks_56 : decode b_V_isRanks 56 = .ok (.iconst 3, 1) := by decide +kernel
theorem d_V_isRanks_57 : decode b_V_isRanks 57 = .ok (.ishr, 1) := by decide +kernel
theorem d_V_isRanks_58 : decode b_V_isRanks 58 = .ok (.istore_n 3, 1) := by decide +kernel
theorem d_V_isRanks_59 : decode b_V_isRanks 59 = .ok (.iinc 4 1, 3) := by decide +kernel
theorem d_V_isRanks_62 : decode b_V_isRanks 62 = .ok (.goto (-55), 3) := by decide +kernel
theorem d_V_isRanks_65 : decode b_V_isRanks 65 = .ok (.iload_n 0, 1) := by decide +kernel
theorem d_V_isRanks_66 : decode b_V_isRanks 66 = .ok (.ifCond .le 11, 3) := by decide +kernel
theorem d_V_isRanks_69 : decode b_V_isRanks 69 = .ok (.iload_n 3, 1) := by decide +kernel
theorem d_V_isRanks_70 : decode b_V_isRanks 70 = .ok (.ifCond .ne 7, 3) := by decide +kernel
theorem d_V_isRanks_73 : decode b_V_isRanks 73 = .ok (.iconst 1, 1) := by decide +kernel
theorem d_V_isRanks_74 : decode b_V_isRanks 74 = .ok (.goto 4, 3) := by decide +kernel
theorem d_V_isRanks_77 : decode b_V_isRanks 77 = .ok (.iconst 0, 1) := by decide +kernel
theorem d_V_isRanks_78 : decode b_V_isRanks 78 = .ok (.ireturn, 1) := by decide +kernel
theorem d_V_strengthOf_0 : decode b_V_strengthOf 0 = .ok (.iload_n 0, 1) := by decide +kernel
theorem d_V_strengthOf_1 : decode b_V_strengthOf 1 = .ok (.iconst 5, 1) := by decide +kernel
theorem d_V_strengthOf_2 : decode b_V_strengthOf 2 = .ok (.iload_n 1, 1) := by decide +kernel
theorem d_V_strengthOf_3 : decode b_V_strengthOf 3 = .ok (.imul, 1) := by decide +kernel
theorem d_V_strengthOf_4 : decode b_V_strengthOf 4 = .ok (.ishr, 1) := by decide +kernel
theorem d_V_strengthOf_5 : decode b_V_strengthOf 5 = .ok (.bipush 31, 2) := by decide +kernel
theorem d_V_strengthOf_7 : decode b_V_strengthOf 7 = .ok (.iand, 1) := by decide +kernel
theorem d_V_strengthOf_8 : decode b_V_strengthOf 8 = .ok (.ireturn, 1) := by decide +kernel
theorem d_V_isStrengths_0 : decode b_V_isStrengths 0 = .ok (.iload_n 0, 1) := by decide +kernel
theorem d_V_isStrengths_1 : decode b_V_isStrengths 1 = .ok (.iconst 0, 1) := by decide +kernel
theorem d_V_isStrengths_2 : decode b_V_isStrengths 2 = .ok (.iconst 1, 1) := by decide +kernel
theorem d_V_isStrengths_3 : decode b_V_isStrengths 3 = .ok (.iconst 5, 1) := by decide +kernel
theorem d_V_isStrengths_4 : decode b_V_isStrengths 4 = .ok (.iload_n 1, 1) := by decide +kernel
theorem d_V_isStrengths_5 : decode b_V_isStrengths 5 = .ok (.imul, 1) := by decide +kernel
theorem d_V_isStrengths_6 : decode b_V_isStrengths 6 = .ok (.ishl, 1) := by decide +kernel
theorem d_V_isStrengths_7 : decode b_V_isStrengths 7 = .ok (.iconst 1, 1) := by decide +kernel
theorem d_V_isStrengths_8 : decode b_V_isStrengths 8 = .ok (.isub, 1) := by decide +kernel
theorem d_V_isStrengths_9 : decode b_V_isStrengths 9 = .ok (.invokestatic 44, 3) := by decide +kernel
theorem d_V_isStrengths_12 : decode b_V_isStrengths 12 = .ok (.ifCond .eq 5, 3) := by decide +kernel
theorem d_V_isStrengths_15 : decode b_V_isStrengths 15 = .ok (.iconst 0, 1) := by decide +kernel
theorem d_V_isStrengths_16 : decode b_V_isStrengths 16 = .ok (.ireturn, 1) := by decide +kernel
theorem d_V_isStrengths_17 : decode b_V_isStrengths 17 = .ok (.iconst 0, 1) := by decide +kernel
theorem d_V_isStrengths_18 : decode b_V_isStrengths 18 = .ok (.istore_n 3, 1) := by decide +kernel
theorem d_V_isStrengths_19 : decode b_V_isStrengths 19 = .ok (.iconst 0, 1) := by decide +kernel
theorem d_V_isStrengths_20 : decode b_V_isStrengths 20 = .ok (.istore 4, 2) := by decide +kernel
theorem d_V_isStrengths_22 : decode b_V_isStrengths 22 = .ok (.iload 4, 2) := by decide +kernel
theorem d_V_isStrengths_24 : decode b_V_isStrengths 24 = .ok (.iload_n 1, 1) := by decide +kernel
theorem d_V_isStrengths_25 : decode b_V_isStrengths 25 = .ok (.if_icmp .ge 25, 3) := by decide +kernel
theorem d_V_isStrengths_28 : decode b_V_isStrengths 28 = .ok (.iload_n 0, 1) := by decide +kernel
theorem d_V_isStrengths_29 : decode b_V_isStrengths 29 = .ok (.iload 4, 2) := by decide +kernel
theorem d_V_isStrengths_31 : decode b_V_isStrengths 31 = .ok (.invokestatic 239, 3) := by decide +kernel
theorem d_V_isStrengths_34 : decode b_V_isStrengths 34 = .ok (.istore 5, 2) := by decide +kernel
theorem d_V_isStrengths_36 : decode b_V_isStrengths 36 = .ok (.iload_n 3, 1) := by decide +kernel
theorem d_V_isStrengths_37 : decode b_V_isStrengths 37 = .ok (.iload 5, 2) := by decide +kernel
theorem d_V_isStrengths_39 : decode b_V_isStrengths 39 = .ok (.iload 5, 2) := by decide +kernel
theorem d_V_isStrengths_41 : decode b_V_isStrengths 41 = .ok (.imul, 1) := by decide +kernel
theorem d_V_isStrengths_42 : decode b_V_isStrengths 42 = .ok (.iadd, 1) := by decide +kernel
theorem d_V_isStrengths_43 : decode b_V_isStrengths 43 = .ok (.istore_n 3, 1) := by decide +kernel
theorem d_V_isStrengths_44 : decode b_V_isStrengths 44 = .ok (.iinc 4 1, 3) := by decide +kernel
theorem d_V_isStrengths_47 : decode b_V_isStrengths 47 = .ok (.goto (-25), 3) := by decide +kernel
theorem d_V_isStrengths_50 : decode b_V_isStrengths 50 = .ok (.iload_n 3, 1) := by decide +kernel
theorem d_V_isStrengths_51 : decode b_V_isStrengths 51 = .ok (.iload_n 2, 1) := by decide +kernel
theorem d_V_isStrengths_52 : decode b_V_isStrengths 52 = .ok (.if_icmp .gt 7, 3) := by decide +kernel
theorem d_V_isStrengths_55 : decode b_V_isStrengths 55 = .ok (.iconst 1, 1) := by decide +kernel
theorem d_V_isStrengths_56 : decode b_V_isStrengths 56 = .ok (.goto 4, 3) := by decide +kernel
theorem d_V_isStrengths_59 : decode b_V_isStrengths 59 = .ok (.iconst 0, 1) := by decide +kernel
theorem d_V_isStrengths_60 : decode b_V_isStrengths 60 = .ok (.ireturn, 1) := by decide +kernel
theorem d_V_isVote_0 : decode b_V_isVote 0 = .ok (.aload_n 0, 1) := by decide +kernel
theorem d_V_isVote_1 : decode b_V_isVote 1 = .ok (.getfield 140, 3) := by decide +kernel
theorem d_V_isVote_4 : decode b_V_isVote 4 = .ok (.tableswitch 79 0 2 #[28, 48, 70], 28) := by decide +kernel
theorem d_V_isVote_32 : decode b_V_isVote 32 = .ok (.iload_n 2, 1) := by decide +kernel
theorem d_V_isVote_33 : decode b_V_isVote 33 = .ok (.iconst 0, 1) := by decide +kernel
theorem d_V_isVote_34 : decode b_V_isVote 34 = .ok (.aload_n 0, 1) := by decide +kernel
theorem d_V_isVote_35 : decode b_V_isVote 35 = .ok (.getfield 133, 3) := by decide +kernel
theorem d_V_isVote_38 : decode b_V_isVote 38 = .ok (.iconst 1, 1) := by decide +kernel
theorem d_V_isVote_39 : decode b_V_isVote 39 = .ok (.isub, 1) := by decide +kernel
theorem d_V_isVote_40 : decode b_V_isVote 40 = .ok (.invokestatic 44, 3) := by decide +kernel
theorem d_V_isVote_43 : decode b_V_isVote 43 = .ok (.ifCond .ne 7, 3) := by decide +kernel
theorem d_V_isVote_46 : decode b_V_isVote 46 = .ok (.iconst 1, 1) := by decide +kernel
theorem d_V_isVote_47 : decode b_V_isVote 47 = .ok (.goto 4, 3) := by decide +kernel
theorem d_V_isVote_50 : decode b_V_isVote 50 = .ok (.iconst 0, 1) := by decide +kernel
theorem d_V_isVote_51 : decode b_V_isVote 51 = .ok (.ireturn, 1) := by decide +kernel
theorem d_V_isVote_52 : decode b_V_isVote 52 = .ok (.iload_n 2, 1) := by decide +kernel
theorem d_V_isVote_53 : decode b_V_isVote 53 = .ok (.iconst 1, 1) := by decide +kernel
theorem d_V_isVote_54 : decode b_V_isVote 54 = .ok (.iconst 1, 1) := by decide +kernel
theorem d_V_isVote_55 : decode b_V_isVote 55 = .ok (.aload_n 0, 1) := by decide +kernel
theorem d_V_isVote_56 : decode b_V_isVote 56 = .ok (.getfield 133, 3) := by decide +kernel
theorem d_V_isVote_59 : decode b_V_isVote 59 = .ok (.ishl, 1) := by decide +kernel
theorem d_V_isVote_60 : decode b_V_isVote 60 = .ok (.iconst 1, 1) := by decide +kernel
theorem d_V_isVote_61 : decode b_V_isVote 61 = .ok (.isub, 1) := by decide +kernel
theorem d_V_isVote_62 : decode b_V_isVote 62 = .ok (.invokestatic 44, 3) := by decide +kernel
theorem d_V_isVote_65 : decode b_V_isVote 65 = .ok (.ifCond .ne 7, 3) := by decide +kernel
theorem d_V_isVote_68 : decode b_V_isVote 68 = .ok (.iconst 1, 1) := by decide +kernel
theorem d_V_isVote_69 : decode b_V_isVote 69 = .ok (.goto 4, 3) := by decide +kernel
theorem d_V_isVote_72 : decode b_V_isVote 72 = .ok (.iconst 0, 1) := by decide +kernel
theorem d_V_isVote_73 : decode b_V_isVote 73 = .ok (.ireturn, 1) := by decide +kernel
theorem d_V_isVote_74 : decode b_V_isVote 74 = .ok (.iload_n 2, 1) := by decide +kernel
theorem d_V_isVote_75 : decode b_V_isVote 75 = .ok (.aload_n 0, 1) := by decide +kernel
theorem d_V_isVote_76 : decode b_V_isVote 76 = .ok (.getfield 133, 3) := by decide +kernel
theorem d_V_isVote_79 : decode b_V_isVote 79 = .ok (.invokestatic 229, 3) := by decide +kernel
theorem d_V_isVote_82 : decode b_V_isVote 82 = .ok (.ireturn, 1) := by decide +kernel
theorem d_V_isVote_83 : decode b_V_isVote 83 = .ok (.iload_n 2, 1) := by decide +kernel
theorem d_V_isVote_84 : decode b_V_isVote 84 = .ok (.aload_n 0, 1) := by decide +kernel
theorem d_V_isVote_85 : decode b_V_isVote 85 = .ok (.getfield 133, 3) := by decide +kernel
theorem d_V_isVote_88 : decode b_V_isVote 88 = .ok (.aload_n 0, 1) := by decide +kernel
theorem d_V_isVote_89 : decode b_V_isVote 89 = .ok (.getfield 85, 3) := by decide +kernel
theorem d_V_isVote_92 : decode b_V_isVote 92 = .ok (.iload_n 1, 1) := by decide +kernel
theorem d_V_isVote_93 : decode b_V_isVote 93 = .ok (.iaload, 1) := by decide +kernel
theorem d_V_isVote_94 : decode b_V_isVote 94 = .ok (.invokestatic 233, 3) := by decide +kernel
theorem d_V_isVote_97 : decode b_V_isVote 97 = .ok (.ireturn, 1) := by decide +kernel
