theorem d_Q_isHidden_0 : decode b_Q_isHidden 0 = .ok (.aload_n 0, 1) := by decide +kernel
theorem d_Q_isHidden_1 : decode b_Q_isHidden 1 = .ok (.getfield 21, 3) := by decide +kernel
theorem d_Q_isHidden_4 : decode b_Q_isHidden 4 = .ok (.aload_n 0, 1) := by decide +kernel
theorem d_Q_isHidden_5 : decode b_Q_isHidden 5 = .ok (.getfield 18, 3) := by decide +kernel
theorem d_Q_isHidden_8 : decode b_Q_isHidden 8 = .ok (.if_icmp .le 7, 3) := by decide +kernel
theorem d_Q_isHidden_11 : decode b_Q_isHidden 11 = .ok (.iconst 1, 1) := by decide +kernel
theorem d_Q_isHidden_12 : decode b_Q_isHidden 12 = .ok (.goto 4, 3) := by decide +kernel
theorem d_Q_isHidden_15 : decode b_Q_isHidden 15 = .ok (.iconst 0, 1) := by decide +kernel
theorem d_Q_isHidden_16 : decode b_Q_isHidden 16 = .ok (.ireturn, 1) := by decide +kernel
theorem d_V_vote_0 : decode b_V_vote 0 = .ok (.aload_n 0, 1) := by decide +kernel
theorem d_V_vote_1 : decode b_V_vote 1 = .ok (.iload_n 1, 1) := by decide +kernel
theorem d_V_vote_2 : decode b_V_vote 2 = .ok (.invokevirtual 92, 3) := by decide +kernel
theorem d_V_vote_5 : decode b_V_vote 5 = .ok (.astore 4, 2) := by decide +kernel
theorem d_V_vote_7 : decode b_V_vote 7 = .ok (.aload 4, 2) := by decide +kernel
theorem d_V_vote_9 : decode b_V_vote 9 = .ok (.ifnull 11, 3) := by decide +kernel
theorem d_V_vote_12 : decode b_V_vote 12 = .ok (.aload_n 0, 1) := by decide +kernel
theorem d_V_vote_13 : decode b_V_vote 13 = .ok (.iload_n 2, 1) := by decide +kernel
theorem d_V_vote_14 : decode b_V_vote 14 = .ok (.invokevirtual 53, 3) := by decide +kernel
theorem d_V_vote_17 : decode b_V_vote 17 = .ok (.ifCond .eq 5, 3) := by decide +kernel
theorem d_V_vote_20 : decode b_V_vote 20 = .ok (.iconst (-1), 1) := by decide +kernel
theorem d_V_vote_21 : decode b_V_vote 21 = .ok (.ireturn, 1) := by decide +kernel
theorem d_V_vote_22 : decode b_V_vote 22 = .ok (.iload_n 3, 1) := by decide +kernel
theorem d_V_vote_23 : decode b_V_vote 23 = .ok (.iconst (-1), 1) := by decide +kernel
theorem d_V_vote_24 : decode b_V_vote 24 = .ok (.if_icmp .eq 16, 3) := by decide +kernel
theorem d_V_vote_27 : decode b_V_vote 27 = .ok (.aload 4, 2) := by decide +kernel
theorem d_V_vote_29 : decode b_V_vote 29 = .ok (.iload_n 2, 1) := by decide +kernel
theorem d_V_vote_30 : decode b_V_vote 30 = .ok (.iload_n 3, 1) := by decide +kernel
theorem d_V_vote_31 : decode b_V_vote 31 = .ok (.invokestatic 111, 3) := by decide +kernel
theorem d_V_vote_34 : decode b_V_vote 34 = .ok (.ifCond .ne 6, 3) := by decide +kernel
theorem d_V_vote_37 : decode b_V_vote 37 = .ok (.bipush (-2), 2) := by decide +kernel
theorem d_V_vote_39 : decode b_V_vote 39 = .ok (.ireturn, 1) := by decide +kernel
theorem d_V_vote_40 : decode b_V_vote 40 = .ok (.aload_n 0, 1) := by decide +kernel
theorem d_V_vote_41 : decode b_V_vote 41 = .ok (.getfield 66, 3) := by decide +kernel
theorem d_V_vote_44 : decode b_V_vote 44 = .ok (.aload 4, 2) := by decide +kernel
theorem d_V_vote_46 : decode b_V_vote 46 = .ok (.getfield 96, 3) := by decide +kernel
theorem d_V_vote_49 : decode b_V_vote 49 = .ok (.if_icmp .ge 11, 3) := by decide +kernel
theorem d_V_vote_52 : decode b_V_vote 52 = .ok (.aload 4, 2) := by decide +kernel
theorem d_V_vote_54 : decode b_V_vote 54 = .ok (.invokevirtual 115, 3) := by decide +kernel
theorem d_V_vote_57 : decode b_V_vote 57 = .ok (.ifCond .eq 6, 3) := by decide +kernel
theorem d_V_vote_60 : decode b_V_vote 60 = .ok (.bipush (-3), 2) := by decide +kernel
theorem d_V_vote_62 : decode b_V_vote 62 = .ok (.ireturn, 1) := by decide +kernel
theorem d_V_vote_63 : decode b_V_vote 63 = .ok (.aload 4, 2) := by decide +kernel
theorem d_V_vote_65 : decode b_V_vote 65 = .ok (.getfield 119, 3) := by decide +kernel
theorem d_V_vote_68 : decode b_V_vote 68 = .ok (.iload_n 2, 1) := by decide +kernel
theorem d_V_vote_69 : decode b_V_vote 69 = .ok (.iload_n 3, 1) := by decide +kernel
theorem d_V_vote_70 : decode b_V_vote 70 = .ok (.iastore, 1) := by decide +kernel
theorem d_V_vote_71 : decode b_V_vote 71 = .ok (.iconst 1, 1) := by decide +kernel
theorem d_V_vote_72 : decode b_V_vote 72 = .ok (.ireturn, 1) := by decide +kernel
theorem d_V_hide_0 : decode b_V_hide 0 = .ok (.aload_n 0, 1) := by decide +kernel
theorem d_V_hide_1 : decode b_V_hide 1 = .ok (.iload_n 1, 1) := by decide +kernel
theorem d_V_hide_2 : decode b_V_hide 2 = .ok (.invokevirtual 92, 3) := by decide +kernel
theorem d_V_hide_5 : decode b_V_hide 5 = .ok (.astore 5, 2) := by decide +kernel
theorem d_V_hide_7 : decode b_V_hide 7 = .ok (.aload 5, 2) := by decide +kernel
theorem d_V_hide_9 : decode b_V_hide 9 = .ok (.ifnull 11, 3) := by decide +kernel
theorem d_V_hide_12 : decode b_V_hide 12 = .ok (.aload_n 0, 1) := by decide +kernel
theorem d_V_hide_13 : decode b_V_hide 13 = .ok (.iload_n 2, 1) := by decide +kernel
theorem d_V_hide_14 : decode b_V_hide 14 = .ok (.invokevirtual 53, 3) := by decide +kernel
theorem d_V_hide_17 : decode b_V_hide 17 = .ok (.ifCond .eq 5, 3) := by decide +kernel
theorem d_V_hide_20 : decode b_V_hide 20 = .ok (.iconst (-1), 1) := by decide +kernel
theorem d_V_hide_21 : decode b_V_hide 21 = .ok (.ireturn, 1) := by decide +kernel
theorem d_V_hide_22 : decode b_V_hide 22 = .ok (.aload_n 0, 1) := by decide +kernel
theorem d_V_hide_23 : decode b_V_hide 23 = .ok (.getfield 66, 3) := by decide +kernel
theorem d_V_hide_26 : decode b_V_hide 26 = .ok (.aload 5, 2) := by decide +kernel
theorem d_V_hide_28 : decode b_V_hide 28 = .ok (.getfield 96, 3) := by decide +kernel
theorem d_V_hide_31 : decode b_V_hide 31 = .ok (.if_icmp .ge 11, 3) := by decide +kernel
theorem d_V_hide_34 : decode b_V_hide 34 = .ok (.aload 5, 2) := by decide +kernel
theorem d_V_hide_36 : decode b_V_hide 36 = .ok (.invokevirtual 115, 3) := by decide +kernel
theorem d_V_hide_39 : decode b_V_hide 39 = .ok (.ifCond .ne 6, 3) := by decide +kernel
theorem d_V_hide_42 : decode b_V_hide 42 = .ok (.bipush (-3), 2) := by decide +kernel
theorem d_V_hide_44 : decode b_V_hide 44 = .ok (.ireturn, 1) := by decide +kernel
theorem d_V_hide_45 : decode b_V_hide 45 = .ok (.aload 5, 2) := by decide +kernel
theorem d_V_hide_47 : decode b_V_hide 47 = .ok (.getfield 122, 3) := by decide +kernel
theorem d_V_hide_50 : decode b_V_hide 50 = .ok (.iload_n 2, 1) := by decide +kernel
theorem d_V_hide_51 : decode b_V_hide 51 = .ok (.iconst 1, 1) := by decide +kernel
theorem d_V_hide_52 : decode b_V_hide 52 = .ok (.bastore, 1) := by decide +kernel
theorem d_V_hide_53 : decode b_V_hide 53 = .ok (.aload 5, 2) := by decide +kernel
theorem d_V_hide_55 : decode b_V_hide 55 = .ok (.getfield 126, 3) := by decide +kernel
theorem d_V_hide_58 : decode b_V_hide 58 = .ok (.iload_n 2, 1) := by decide +kernel
theorem d_V_hide_59 : decode b_V_hide 59 = .ok (.lload_n 3, 1) := by decide +kernel
theorem d_V_hide_60 : decode b_V_hide 60 = .ok (.lastore, 1) := by decide +kernel
theorem d_V_hide_61 : decode b_V_hide 61 = .ok (.iconst 1, 1) := by decide +kernel
theorem d_V_hide_62 : decode b_V_hide 62 = .ok (.ireturn, 1) := by decide +kernel
theorem d_V_reveal_0 : decode b_V_reveal 0 = .ok (.aload_n 0, 1) := by decide +kernel
theorem d_V_reveal_1 : decode b_V_reveal 1 = .ok (.iload_n 1, 1) := by decide +kernel
theorem d_V_reveal_2 : decode b_V_reveal 2 = .ok (.invokevirtual 92, 3) := by decide +kernel
theorem d_V_reveal_5 : decode b_V_reveal 5 = .ok (.astore 5, 2) := by decide +kernel
theorem d_V_reveal_7 : decode b_V_reveal 7 = .ok (.aload 5, 2) := by decide +kernel
theorem d_V_reveal_9 : decode b_V_reveal 9 = .ok (.ifnull 11, 3) := by decide +kernel
theorem d_V_reveal_12 : decode b_V_reveal 12 = .ok (.aload_n 0, 1) := by decide +kernel
theorem d_V_reveal_13 : decode b_V_reveal 13 = .ok (.iload_n 2, 1) := by decide +kernel
theorem d_V_reveal_14 : decode b_V_reveal 14 = .ok (.invokevirtual 53, 3) := by decide +kernel
theorem d_V_reveal_17 : decode b_V_reveal 17 = .ok (.ifCond .eq 5, 3) := by decide +kernel
theorem d_V_reveal_20 : decode b_V_reveal 20 = .ok (.iconst (-1), 1) := by decide +kernel
theorem d_V_reveal_21 : decode b_V_reveal 21 = .ok (.ireturn, 1) := by decide +kernel
theorem d_V_reveal_22 : decode b_V_reveal 22 = .ok (.aload 5, 2) := by decide +kernel
theorem d_V_reveal_24 : decode b_V_reveal 24 = .ok (.iload_n 2, 1) := by decide +kernel
theorem d_V_reveal_25 : decode b_V_reveal 25 = .ok (.iload_n 3, 1) := by decide +kernel
theorem d_V_reveal_26 : decode b_V_reveal 26 = .ok (.invokestatic 111, 3) := by decide +kernel
theorem d_V_reveal_29 : decode b_V_reveal 29 = .ok (.ifCond .ne 6, 3) := by decide +kernel
theorem d_V_reveal_32 : decode b_V_reveal 32 = .ok (.bipush (-2), 2) := by decide +kernel
theorem d_V_reveal_34 : decode b_V_reveal 34 = .ok (.ireturn, 1) := by decide +kernel
theorem d_V_reveal_35 : decode b_V_reveal 35 = .ok (.aload 5, 2) := by decide +kernel
theorem d_V_reveal_37 : decode b_V_reveal 37 = .ok (.invokevirtual 115, 3) := by decide +kernel
theorem d_V_reveal_40 : decode b_V_reveal 40 = .ok (.ifCond .eq 27, 3) := by decide +kernel
theorem d_V_reveal_43 : decode b_V_reveal 43 = .ok (.aload_n 0, 1) := by decide +kernel
theorem d_V_reveal_44 : decode b_V_reveal 44 = .ok (.getfield 66, 3) := by decide +kernel
theorem d_V_reveal_47 : decode b_V_reveal 47 = .ok (.aload 5, 2) := by decide +kernel
theorem d_V_reveal_49 : decode b_V_reveal 49 = .ok (.getfield 96, 3) := by decide +kernel
theorem d_V_reveal_52 : decode b_V_reveal 52 = .ok (.if_icmp .lt 15, 3) := by decide +kernel
theorem d_V_reveal_55 : decode b_V_reveal 55 = .ok (.aload_n 0, 1) := by decide +kernel
theorem d_V_reveal_56 : decode b_V_reveal 56 = .ok (.getfield 66, 3) := by decide +kernel
theorem d_V_reveal_59 : decode b_V_reveal 59 = .ok (.aload 5, 2) := by decide +kernel
theorem d_V_reveal_61 : decode b_V_reveal 61 = .ok (.getfield 105, 3) := by decide +kernel
theorem d_V_reveal_64 : decode b_V_reveal 64 = .ok (.if_icmp .lt 6, 3) := by decide +kernel
theorem d_V_reveal_67 : decode b_V_reveal 67 = .ok (.bipush (-3), 2) := by decide +kernel
theorem d_V_reveal_69 : decode b_V_reveal 69 = .ok (.ireturn, 1) := by decide +kernel
theorem d_V_reveal_70 : decode b_V_reveal 70 = .ok (.aload 5, 2) := by decide +kernel
theorem d_V_reveal_72 : decode b_V_reveal 72 = .ok (.getfield 119, 3) := by decide +kernel
theorem d_V_reveal_75 : decode b_V_reveal 75 = .ok (.iload_n 2, 1) := by decide +kernel
theorem d_V_reveal_76 : decode b_V_reveal 76 = .ok (.iaload, 1) := by decide +kernel
theorem d_V_reveal_77 : decode b_V_reveal 77 = .ok (.iconst (-1), 1) := by decide +kernel
theorem d_V_reveal_78 : decode b_V_reveal 78 = .ok (.if_icmp .ne 32, 3) := by decide +kernel
theorem d_V_reveal_81 : decode b_V_reveal 81 = .ok (.aload 5, 2) := by decide +kernel
theorem d_V_reveal_83 : decode b_V_reveal 83 = .ok (.getfield 122, 3) := by decide +kernel
theorem d_V_reveal_86 : decode b_V_reveal 86 = .ok (.iload_n 2, 1) := by decide +kernel
theorem d_V_reveal_87 : decode b_V_reveal 87 = .ok (.baload, 1) := by decide +kernel
theorem d_V_reveal_88 : decode b_V_reveal 88 = .ok (.ifCond .eq 22, 3) := by decide +kernel
theorem d_V_reveal_91 : decode b_V_reveal 91 = .ok (.aload 5, 2) := by decide +kernel
theorem d_V_reveal_93 : decode b_V_reveal 93 = .ok (.getfield 126, 3) := by decide +kernel
theorem d_V_reveal_96 : decode b_V_reveal 96 = .ok (.iload_n 2, 1) := by decide +kernel
theorem d_V_reveal_97 : decode b_V_reveal 97 = .ok (.laload, 1) := by decide +kernel
theorem d_V_reveal_98 : decode b_V_reveal 98 = .ok (.aload_n 0, 1) := by decide +kernel
theorem d_V_reveal_99 : decode b_V_reveal 99 = .ok (.iload_n 2, 1) := by decide +kernel
theorem d_V_reveal_100 : decode b_V_reveal 100 = .ok (.iload_n 3, 1) := by decide +kernel
theorem d_V_reveal_101 : decode b_V_reveal 101 = .ok (.iload 4, 2) := by decide +kernel
theorem d_V_reveal_103 : decode b_V_reveal 103 = .ok (.invokevirtual 129, 3) := by decide +kernel
theorem d_V_reveal_106 : decode b_V_reveal 106 = .ok (.lcmp, 1) := by decide +kernel
theorem d_V_reveal_107 : decode b_V_reveal 107 = .ok (.ifCond .eq 6, 3) := by decide +kernel
theorem d_V_reveal_110 : decode b_V_reveal 110 = .ok (.bipush (-3), 2) := by decide +kernel
theorem d_V_reveal_112 : decode b_V_reveal 112 = .ok (.ireturn, 1) := by decide +kernel
theorem d_V_reveal_113 : decode b_V_reveal 113 = .ok (.aload 5, 2) := by decide +kernel
theorem d_V_reveal_115 : decode b_V_reveal 115 = .ok (.getfield 119, 3) := by decide +kernel
theorem d_V_reveal_118 : decode b_V_reveal 118 = .ok (.iload_n 2, 1) := by decide +kernel
theorem d_V_reveal_119 : decode b_V_reveal 119 = .ok (.iload_n 3, 1) := by decide +kernel
theorem d_V_reveal_120 : decode b_V_reveal 120 = .ok (.iastore, 1) := by decide +kernel
theorem d_V_reveal_121 : decode b_V_reveal 121 = .ok (.iconst 1, 1) := by decide +kernel
theorem d_V_reveal_122 : decode b_V_reveal 122 = .ok (.ireturn, 1) := by decide +kernel
theorem d_V_voiceOf_0 : decode b_V_voiceOf 0 = .ok (.iload_n 2, 1) := by decide +kernel
theorem d_V_voiceOf_1 : decode b_V_voiceOf 1 = .ok (.istore_n 3, 1) := by decide +kernel
theorem d_V_voiceOf_2 : decode b_V_voiceOf 2 = .ok (.iconst 0, 1) := by decide +kernel
theorem d_V_voiceOf_3 : decode b_V_voiceOf 3 = .ok (.istore 4, 2) := by decide +kernel
theorem d_V_voiceOf_5 : decode b_V_voiceOf 5 = .ok (.iload 4, 2) := by decide +kernel
theorem d_V_voiceOf_7 : decode b_V_voiceOf 7 = .ok (.bipush 8, 2) := by decide +kernel
theorem d_V_voiceOf_9 : decode b_V_voiceOf 9 = .ok (.if_icmp .ge 70, 3) := by decide +kernel
theorem d_V_voiceOf_12 : decode b_V_voiceOf 12 = .ok (.iload_n 3, 1) := by decide +kernel
theorem d_V_voiceOf_13 : decode b_V_voiceOf 13 = .ok (.iconst 0, 1) := by decide +kernel
theorem d_V_voiceOf_14 : decode b_V_voiceOf 14 = .ok (.bipush 7, 2) := by decide +kernel
theorem d_V_voiceOf_16 : decode b_V_voiceOf 16 = .ok (.invokestatic 44, 3) := by decide +kernel
theorem d_V_voiceOf_19 : decode b_V_voiceOf 19 = .ok (.ifCond .eq 5, 3) := by decide +kernel
theorem d_V_voiceOf_22 : decode b_V_voiceOf 22 = .ok (.iconst (-1), 1) := by decide +kernel
theorem d_V_voiceOf_23 : decode b_V_voiceOf 23 = .ok (.ireturn, 1) := by decide +kernel
theorem d_V_voiceOf_24 : decode b_V_voiceOf 24 = .ok (.aload_n 1, 1) := by decide +kernel
theorem d_V_voiceOf_25 : decode b_V_voiceOf 25 = .ok (.getfield 119, 3) := by decide +kernel
theorem d_V_voiceOf_28 : decode b_V_voiceOf 28 = .ok (.iload_n 3, 1) := by decide +kernel
theorem d_V_voiceOf_29 : decode b_V_voiceOf 29 = .ok (.iaload, 1) := by decide +kernel
theorem d_V_voiceOf_30 : decode b_V_voiceOf 30 = .ok (.iconst (-1), 1) := by decide +kernel
theorem d_V_voiceOf_31 : decode b_V_voiceOf 31 = .ok (.if_icmp .eq 5, 3) := by decide +kernel
theorem d_V_voiceOf_34 : decode b_V_voiceOf 34 = .ok (.iload_n 3, 1) := by decide +kernel
theorem d_V_voiceOf_35 : decode b_V_voiceOf 35 = .ok (.ireturn, 1) := by decide +kernel
theorem d_V_voiceOf_36 : decode b_V_voiceOf 36 = .ok (.aload_n 1, 1) := by decide +kernel
theorem d_V_voiceOf_37 : decode b_V_voiceOf 37 = .ok (.getfield 140, 3) := by decide +kernel
theorem d_V_voiceOf_40 : decode b_V_voiceOf 40 = .ok (.iconst 3, 1) := by decide +kernel
theorem d_V_voiceOf_41 : decode b_V_voiceOf 41 = .ok (.if_icmp .ne 5, 3) := by decide +kernel
theorem d_V_voiceOf_44 : decode b_V_voiceOf 44 = .ok (.iconst (-1), 1) := by decide +kernel
theorem d_V_voiceOf_45 : decode b_V_voiceOf 45 = .ok (.ireturn, 1) := by decide +kernel
theorem d_V_voiceOf_46 : decode b_V_voiceOf 46 = .ok (.aload_n 0, 1) := by decide +kernel
theorem d_V_voiceOf_47 : decode b_V_voiceOf 47 = .ok (.getfield 66, 3) := by decide +kernel
theorem d_V_voiceOf_50 : decode b_V_voiceOf 50 = .ok (.aload_n 1, 1) := by decide +kernel
theorem d_V_voiceOf_51 : decode b_V_voiceOf 51 = .ok (.getfield 105, 3) := by decide +kernel
theorem d_V_voiceOf_54 : decode b_V_voiceOf 54 = .ok (.if_icmp .lt 12, 3) := by decide +kernel
theorem d_V_voiceOf_57 : decode b_V_voiceOf 57 = .ok (.aload_n 1, 1) := by decide +kernel
theorem d_V_voiceOf_58 : decode b_V_voiceOf 58 = .ok (.getfield 260, 3) := by decide +kernel
theorem d_V_voiceOf_61 : decode b_V_voiceOf 61 = .ok (.iload_n 3, 1) := by decide +kernel
theorem d_V_voiceOf_62 : decode b_V_voiceOf 62 = .ok (.iaload, 1) := by decide +kernel
theorem d_V_voiceOf_63 : decode b_V_voiceOf 63 = .ok (.goto 9, 3) := by decide +kernel
theorem d_V_voiceOf_66 : decode b_V_voiceOf 66 = .ok (.aload_n 0, 1) := by decide +kernel
theorem d_V_voiceOf_67 : decode b_V_voiceOf 67 = .ok (.getfield 20, 3) := by decide +kernel
theorem d_V_voiceOf_70 : decode b_V_voiceOf 70 = .ok (.iload_n 3, 1) := by decide +kernel
theorem d_V_voiceOf_71 : decode b_V_voiceOf 71 = .ok (.iaload, 1) := by decide +kernel
theorem d_V_voiceOf_72 : decode b_V_voiceOf 72 = .ok (.istore_n 3, 1) := by decide +kernel
theorem d_V_voiceOf_73 : decode b_V_voiceOf 73 = .ok (.iinc 4 1, 3) := by decide +kernel
theorem d_V_voiceOf_76 : decode b_V_voiceOf 76 = .ok (.goto (-71), 3) := by decide +kernel
theorem d_V_voiceOf_79 : decode b_V_voiceOf 79 = .ok (.iconst (-1), 1) := by decide +kernel
theorem d_V_voiceOf_80 : decode b_V_voiceOf 80 = .ok (.ireturn, 1) := by decide +kernel
theorem d_V_findVoices_0 : decode b_V_findVoices 0 = .ok (.iconst 0, 1) := by decide +kernel
theorem d_V_findVoices_1 : decode b_V_findVoices 1 = .ok (.istore_n 2, 1) := by decide +kernel
theorem d_V_findVoices_2 : decode b_V_findVoices 2 = .ok (.iload_n 2, 1) := by decide +kernel
theorem d_V_findVoices_3 : decode b_V_findVoices 3 = .ok (.bipush 8, 2) := by decide +kernel
theorem d_V_findVoices_5 : decode b_V_findVoices 5 = .ok (.if_icmp .ge 21, 3) := by decide +kernel
theorem d_V_findVoices_8 : decode b_V_findVoices 8 = .ok (.aload_n 0, 1) := by decide +kernel
theorem d_V_findVoices_9 : decode b_V_findVoices 9 = .ok (.getfield 35, 3) := by decide +kernel
theorem d_V_findVoices_12 : decode b_V_findVoices 12 = .ok (.iload_n 2, 1) := by decide +kernel
theorem d_V_findVoices_13 : decode b_V_findVoices 13 = .ok (.aload_n 0, 1) := by decide +kernel
theorem d_V_findVoices_14 : decode b_V_findVoices 14 = .ok (.aload_n 1, 1) := by decide +kernel
theorem d_V_findVoices_15 : decode b_V_findVoices 15 = .ok (.iload_n 2, 1) := by decide +kernel
theorem d_V_findVoices_16 : decode b_V_findVoices 16 = .ok (.invokevirtual 257, 3) := by decide +kernel
theorem d_V_findVoices_19 : decode b_V_findVoices 19 = .ok (.iastore, 1) := by decide +kernel
theorem d_V_findVoices_20 : decode b_V_findVoices 20 = .ok (.iinc 2 1, 3) := by decide +kernel
theorem d_V_findVoices_23 : decode b_V_findVoices 23 = .ok (.goto (-21), 3) := by decide +kernel
theorem d_V_findVoices_26 : decode b_V_findVoices 26 = .ok (.return_, 1) := by decide +kernel
theorem d_V_firstOfRanks_0 : decode b_V_firstOfRanks 0 = .ok (.iload_n 0, 1) := by decide +kernel
theorem d_V_firstOfRanks_1 : decode b_V_firstOfRanks 1 = .ok (.istore_n 3, 1) := by decide +kernel
theorem d_V_firstOfRanks_2 : decode b_V_firstOfRanks 2 = .ok (.iconst 0, 1) := by decide +kernel
theorem d_V_firstOfRanks_3 : decode b_V_firstOfRanks 3 = .ok (.istore 4, 2) := by decide +kernel
theorem d_V_firstOfRanks_5 : decode b_V_firstOfRanks 5 = .ok (.iload 4, 2) := by decide +kernel
theorem d_V_firstOfRanks_7 : decode b_V_firstOfRanks 7 = .ok (.iload_n 1, 1) := by decide +kernel
theorem d_V_firstOfRanks_8 : decode b_V_firstOfRanks 8 = .ok (.if_icmp .ge 42, 3) := by decide +kernel
theorem d_V_firstOfRanks_11 : decode b_V_firstOfRanks 11 = .ok (.iload_n 3, 1) := by decide +kernel
theorem d_V_firstOfRanks_12 : decode b_V_firstOfRanks 12 = .ok (.ifCond .le 38, 3) := by decide +kernel
theorem d_V_firstOfRanks_15 : decode b_V_firstOfRanks 15 = .ok (.iload_n 3, 1) := by decide +kernel
theorem d_V_firstOfRanks_16 : decode b_V_firstOfRanks 16 = .ok (.bipush 7, 2) := by decide +kernel
theorem d_V_firstOfRanks_18 : decode b_V_firstOfRanks 18 = .ok (.iand, 1) := by decide +kernel
theorem d_V_firstOfRanks_19 : decode b_V_firstOfRanks 19 = .ok (.iconst 1, 1) := by decide +kernel
theorem d_V_firstOfRanks_20 : decode b_V_firstOfRanks 20 = .ok (.isub, 1) := by decide +kernel
theorem d_V_firstOfRanks_21 : decode b_V_firstOfRanks 21 = .ok (.istore 5, 2) := by decide +kernel
theorem d_V_firstOfRanks_23 : decode b_V_firstOfRanks 23 = .ok (.iload 5, 2) := by decide +kernel
theorem d_V_firstOfRanks_25 : decode b_V_firstOfRanks 25 = .ok (.ifCond .lt 15, 3) := by decide +kernel
theorem d_V_firstOfRanks_28 : decode b_V_firstOfRanks 28 = .ok (.iload_n 2, 1) := by decide +kernel
theorem d_V_firstOfRanks_29 : decode b_V_firstOfRanks 29 = .ok (.iload 5, 2) := by decide +kernel
theorem d_V_firstOfRanks_31 : decode b_V_firstOfRanks 31 = .ok (.invokestatic 236, 3) := by decide +kernel
theorem d_V_firstOfRanks_34 : decode b_V_firstOfRanks 34 = .ok (.ifCond .eq 6, 3) := by decide +kernel
theorem d_V_firstOfRanks_37 : decode b_V_firstOfRanks 37 = .ok (.iload 5, 2) := by decide +kernel
theorem d_V_firstOfRanks_39 : decode b_V_firstOfRanks 39 = .ok (.ireturn, 1) := by decide +kernel
theorem d_V_firstOfRanks_40 : decode b_V_firstOfRanks 40 = .ok (.iload_n 3, 1) := by decide +kernel
theorem d_V_firstOfRanks_41 : decode b_V_firstOfRanks 41 = .ok (.iconst 3, 1) := by decide +kernel
theorem d_V_firstOfRanks_42 : decode b_V_firstOfRanks 42 = .ok (.ishr, 1) := by decide +kernel
theorem d_V_firstOfRanks_43 : decode b_V_firstOfRanks 43 = .ok (.istore_n 3, 1) := by decide +kernel
theorem d_V_firstOfRanks_44 : decode b_V_firstOfRanks 44 = .ok (.iinc 4 1, 3) := by decide +kernel
theorem d_V_firstOfRanks_47 : decode b_V_firstOfRanks 47 = .ok (.goto (-42), 3) := by decide +kernel
theorem d_V_firstOfRanks_50 : decode b_V_firstOfRanks 50 = .ok (.iconst (-1), 1) := by decide +kernel
theorem d_V_firstOfRanks_51 : decode b_V_firstOfRanks 51 = .ok (.ireturn, 1) := by decide +kernel
theorem d_V_shareOf_0 : decode b_V_shareOf 0 = .ok (.aload_n 0, 1) := by decide +kernel
theorem d_V_shareOf_1 : decode b_V_shareOf 1 = .ok (.getfield 140, 3) := by decide +kernel
theorem d_V_shareOf_4 : decode b_V_shareOf 4 = .ok (.tableswitch 73 0 2 #[28, 39, 53], 28) := by decide +kernel
theorem d_V_shareOf_32 : decode b_V_shareOf 32 = .ok (.iload_n 1, 1) := by decide +kernel
theorem d_V_shareOf_33 : decode b_V_shareOf 33 = .ok (.iload_n 3, 1) := by decide +kernel
theorem d_V_shareOf_34 : decode b_V_shareOf 34 = .ok (.if_icmp .ne 7, 3) := by decide +kernel
theorem d_V_shareOf_37 : decode b_V_shareOf 37 = .ok (.iload_n 2, 1) := by decide +kernel
theorem d_V_shareOf_38 : decode b_V_shareOf 38 = .ok (.goto 4, 3) := by decide +kernel
theorem d_V_shareOf_41 : decode b_V_shareOf 41 = .ok (.iconst 0, 1) := by decide +kernel
theorem d_V_shareOf_42 : decode b_V_shareOf 42 = .ok (.ireturn, 1) := by decide +kernel
theorem d_V_shareOf_43 : decode b_V_shareOf 43 = .ok (.iload_n 1, 1) := by decide +kernel
theorem d_V_shareOf_44 : decode b_V_shareOf 44 = .ok (.iload_n 3, 1) := by decide +kernel
theorem d_V_shareOf_45 : decode b_V_shareOf 45 = .ok (.invokestatic 236, 3) := by decide +kernel
theorem d_V_shareOf_48 : decode b_V_shareOf 48 = .ok (.ifCond .eq 7, 3) := by decide +kernel
theorem d_V_shareOf_51 : decode b_V_shareOf 51 = .ok (.iload_n 2, 1) := by decide +kernel
theorem d_V_shareOf_52 : decode b_V_shareOf 52 = .ok (.goto 4, 3) := by decide +kernel
theorem d_V_shareOf_55 : decode b_V_shareOf 55 = .ok (.iconst 0, 1) := by decide +kernel
theorem d_V_shareOf_56 : decode b_V_shareOf 56 = .ok (.ireturn, 1) := by decide +kernel
theorem d_V_shareOf_57 : decode b_V_shareOf 57 = .ok (.iload_n 1, 1) := by decide +kernel
theorem d_V_shareOf_58 : decode b_V_shareOf 58 = .ok (.aload_n 0, 1) := by decide +kernel
theorem d_V_shareOf_59 : decode b_V_shareOf 59 = .ok (.getfield 133, 3) := by decide +kernel
theorem d_V_shareOf_62 : decode b_V_shareOf 62 = .ok (.iload 4, 2) := by decide +kernel
theorem d_V_shareOf_64 : decode b_V_shareOf 64 = .ok (.invokestatic 267, 3) := by decide +kernel
theorem d_V_shareOf_67 : decode b_V_shareOf 67 = .ok (.iload_n 3, 1) := by decide +kernel
theorem d_V_shareOf_68 : decode b_V_shareOf 68 = .ok (.if_icmp .ne 7, 3) := by decide +kernel
theorem d_V_shareOf_71 : decode b_V_shareOf 71 = .ok (.iload_n 2, 1) := by decide +kernel
theorem d_V_shareOf_72 : decode b_V_shareOf 72 = .ok (.goto 4, 3) := by decide +kernel
theorem d_V_shareOf_75 : decode b_V_shareOf 75 = .ok (.iconst 0, 1) := by decide +kernel
theorem d_V_shareOf_76 : decode b_V_shareOf 76 = .ok (.ireturn, 1) := by decide +kernel
theorem d_V_shareOf_77 : decode b_V_shareOf 77 = .ok (.iload_n 1, 1) := by decide +kernel
theorem d_V_shareOf_78 : decode b_V_shareOf 78 = .ok (.iload_n 3, 1) := by decide +kernel
theorem d_V_shareOf_79 : decode b_V_shareOf 79 = .ok (.invokestatic 239, 3) := by decide +kernel
theorem d_V_shareOf_82 : decode b_V_shareOf 82 = .ok (.ireturn, 1) := by decide +kernel
theorem d_V_countRound_0 : decode b_V_countRound 0 = .ok (.iconst 0, 1) := by decide +kernel
theorem d_V_countRound_1 : decode b_V_countRound 1 = .ok (.istore_n 3, 1) := by decide +kernel
theorem d_V_countRound_2 : decode b_V_countRound 2 = .ok (.iload_n 3, 1) := by decide +kernel
theorem d_V_countRound_3 : decode b_V_countRound 3 = .ok (.aload_n 1, 1) := by decide +kernel
theorem d_V_countRound_4 : decode b_V_countRound 4 = .ok (.getfield 133, 3) := by decide +kernel
theorem d_V_countRound_7 : decode b_V_countRound 7 = .ok (.if_icmp .ge 76, 3) := by decide +kernel
theorem d_V_countRound_10 : decode b_V_countRound 10 = .ok (.iconst 0, 1) := by decide +kernel
theorem d_V_countRound_11 : decode b_V_countRound 11 = .ok (.istore 4, 2) := by decide +kernel
theorem d_V_countRound_13 : decode b_V_countRound 13 = .ok (.iconst 0, 1) := by decide +kernel
theorem d_V_countRound_14 : decode b_V_countRound 14 = .ok (.istore 5, 2) := by decide +kernel
theorem d_V_countRound_16 : decode b_V_countRound 16 = .ok (.iload 5, 2) := by decide +kernel
theorem d_V_countRound_18 : decode b_V_countRound 18 = .ok (.bipush 8, 2) := by decide +kernel
theorem d_V_countRound_20 : decode b_V_countRound 20 = .ok (.if_icmp .ge 49, 3) := by decide +kernel
theorem d_V_countRound_23 : decode b_V_countRound 23 = .ok (.aload_n 0, 1) := by decide +kernel
theorem d_V_countRound_24 : decode b_V_countRound 24 = .ok (.getfield 35, 3) := by decide +kernel
theorem d_V_countRound_27 : decode b_V_countRound 27 = .ok (.iload 5, 2) := by decide +kernel
theorem d_V_countRound_29 : decode b_V_countRound 29 = .ok (.iaload, 1) := by decide +kernel
theorem d_V_countRound_30 : decode b_V_countRound 30 = .ok (.istore 6, 2) := by decide +kernel
theorem d_V_countRound_32 : decode b_V_countRound 32 = .ok (.iload 6, 2) := by decide +kernel
theorem d_V_countRound_34 : decode b_V_countRound 34 = .ok (.iconst (-1), 1) := by decide +kernel
theorem d_V_countRound_35 : decode b_V_countRound 35 = .ok (.if_icmp .eq 28, 3) := by decide +kernel
theorem d_V_countRound_38 : decode b_V_countRound 38 = .ok (.iload 4, 2) := by decide +kernel
theorem d_V_countRound_40 : decode b_V_countRound 40 = .ok (.aload_n 1, 1) := by decide +kernel
theorem d_V_countRound_41 : decode b_V_countRound 41 = .ok (.aload_n 1, 1) := by decide +kernel
theorem d_V_countRound_42 : decode b_V_countRound 42 = .ok (.getfield 119, 3) := by decide +kernel
theorem d_V_countRound_45 : decode b_V_countRound 45 = .ok (.iload 6, 2) := by decide +kernel
theorem d_V_countRound_47 : decode b_V_countRound 47 = .ok (.iaload, 1) := by decide +kernel
theorem d_V_countRound_48 : decode b_V_countRound 48 = .ok (.aload_n 1, 1) := by decide +kernel
theorem d_V_countRound_49 : decode b_V_countRound 49 = .ok (.getfield 85, 3) := by decide +kernel
theorem d_V_countRound_52 : decode b_V_countRound 52 = .ok (.iload 5, 2) := by decide +kernel
theorem d_V_countRound_54 : decode b_V_countRound 54 = .ok (.iaload, 1) := by decide +kernel
theorem d_V_countRound_55 : decode b_V_countRound 55 = .ok (.iload_n 3, 1) := by decide +kernel
theorem d_V_countRound_56 : decode b_V_countRound 56 = .ok (.iload_n 2, 1) := by decide +kernel
theorem d_V_countRound_57 : decode b_V_countRound 57 = .ok (.invokestatic 263, 3) := by decide +kernel
theorem d_V_countRound_60 : decode b_V_countRound 60 = .ok (.iadd, 1) := by decide +kernel
theorem d_V_countRound_61 : decode b_V_countRound 61 = .ok (.istore 4, 2) := by decide +kernel
theorem d_V_countRound_63 : decode b_V_countRound 63 = .ok (.iinc 5 1, 3) := by decide +kernel
theorem d_V_countRound_66 : decode b_V_countRound 66 = .ok (.goto (-50), 3) := by decide +kernel
theorem d_V_countRound_69 : decode b_V_countRound 69 = .ok (.aload_n 0, 1) := by decide +kernel
theorem d_V_countRound_70 : decode b_V_countRound 70 = .ok (.getfield 38, 3) := by decide +kernel
theorem d_V_countRound_73 : decode b_V_countRound 73 = .ok (.iload_n 3, 1) := by decide +kernel
theorem d_V_countRound_74 : decode b_V_countRound 74 = .ok (.iload 4, 2) := by decide +kernel
theorem d_V_countRound_76 : decode b_V_countRound 76 = .ok (.iastore, 1) := by decide +kernel
theorem d_V_countRound_77 : decode b_V_countRound 77 = .ok (.iinc 3 1, 3) := by decide +kernel
theorem d_V_countRound_80 : decode b_V_countRound 80 = .ok (.goto (-78), 3) := by decide +kernel
theorem d_V_countRound_83 : decode b_V_countRound 83 = .ok (.return_, 1) := by decide +kernel
theorem d_V_hasMoreThanHalf_0 : decode b_V_hasMoreThanHalf 0 = .ok (.iconst 0, 1) := by decide +kernel
theorem d_V_hasMoreThanHalf_1 : decode b_V_hasMoreThanHalf 1 = .ok (.istore_n 2, 1) := by decide +kernel
theorem d_V_hasMoreThanHalf_2 : decode b_V_hasMoreThanHalf 2 = .ok (.iconst 0, 1) := by decide +kernel
theorem d_V_hasMoreThanHalf_3 : decode b_V_hasMoreThanHalf 3 = .ok (.istore_n 3, 1) := by decide +kernel
theorem d_V_hasMoreThanHalf_4 : decode b_V_hasMoreThanHalf 4 = .ok (.iconst 0, 1) := by decide +kernel
theorem d_V_hasMoreThanHalf_5 : decode b_V_hasMoreThanHalf 5 = .ok (.istore 4, 2) := by decide +kernel
theorem d_V_hasMoreThanHalf_7 : decode b_V_hasMoreThanHalf 7 = .ok (.iload 4, 2) := by decide +kernel
theorem d_V_hasMoreThanHalf_9 : decode b_V_hasMoreThanHalf 9 = .ok (.aload_n 1, 1) := by decide +kernel
theorem d_V_hasMoreThanHalf_10 : decode b_V_hasMoreThanHalf 10 = .ok (.getfield 133, 3) := by decide +kernel
theorem d_V_hasMoreThanHalf_13 : decode b_V_hasMoreThanHalf 13 = .ok (.if_icmp .ge 31, 3) := by decide +kernel
theorem d_V_hasMoreThanHalf_16 : decode b_V_hasMoreThanHalf 16 = .ok (.iload_n 2, 1) := by decide +kernel
theorem d_V_hasMoreThanHalf_17 : decode b_V_hasMoreThanHalf 17 = .ok (.aload_n 0, 1) := by decide +kernel
theorem d_V_hasMoreThanHalf_18 : decode b_V_hasMoreThanHalf 18 = .ok (.getfield 38, 3) := by decide +kernel
theorem d_V_hasMoreThanHalf_21 : decode b_V_hasMoreThanHalf 21 = .ok (.iload 4, 2) := by decide +kernel
theorem d_V_hasMoreThanHalf_23 : decode b_V_hasMoreThanHalf 23 = .ok (.iaload, 1) := by decide +kernel
theorem d_V_hasMoreThanHalf_24 : decode b_V_hasMoreThanHalf 24 = .ok (.invokestatic 271, 3) := by decide +kernel
theorem d_V_hasMoreThanHalf_27 : decode b_V_hasMoreThanHalf 27 = .ok (.istore_n 2, 1) := by decide +kernel
theorem d_V_hasMoreThanHalf_28 : decode b_V_hasMoreThanHalf 28 = .ok (.iload_n 3, 1) := by decide +kernel
theorem d_V_hasMoreThanHalf_29 : decode b_V_hasMoreThanHalf 29 = .ok (.aload_n 0, 1) := by decide +kernel
theorem d_V_hasMoreThanHalf_30 : decode b_V_hasMoreThanHalf 30 = .ok (.getfield 38, 3) := by decide +kernel
theorem d_V_hasMoreThanHalf_33 : decode b_V_hasMoreThanHalf 33 = .ok (.iload 4, 2) := by decide +kernel
theorem d_V_hasMoreThanHalf_35 : decode b_V_hasMoreThanHalf 35 = .ok (.iaload, 1) := by decide +kernel
theorem d_V_hasMoreThanHalf_36 : decode b_V_hasMoreThanHalf 36 = .ok (.iadd, 1) := by decide +kernel
theorem d_V_hasMoreThanHalf_37 : decode b_V_hasMoreThanHalf 37 = .ok (.istore_n 3, 1) := by decide +kernel
theorem d_V_hasMoreThanHalf_38 : decode b_V_hasMoreThanHalf 38 = .ok (.iinc 4 1, 3) := by decide +kernel
theorem d_V_hasMoreThanHalf_41 : decode b_V_hasMoreThanHalf 41 = .ok (.goto (-34), 3) := by decide +kernel
theorem d_V_hasMoreThanHalf_44 : decode b_V_hasMoreThanHalf 44 = .ok (.iconst 2, 1) := by decide +kernel
theorem d_V_hasMoreThanHalf_45 : decode b_V_hasMoreThanHalf 45 = .ok (.iload_n 2, 1) := by decide +kernel
theorem d_V_hasMoreThanHalf_46 : decode b_V_hasMoreThanHalf 46 = .ok (.imul, 1) := by decide +kernel
theorem d_V_hasMoreThanHalf_47 : decode b_V_hasMoreThanHalf 47 = .ok (.iload_n 3, 1) := by decide +kernel
theorem d_V_hasMoreThanHalf_48 : decode b_V_hasMoreThanHalf 48 = .ok (.if_icmp .le 7, 3) := by decide +kernel
theorem d_V_hasMoreThanHalf_51 : decode b_V_hasMoreThanHalf 51 = .ok (.iconst 1, 1) := by decide +kernel
theorem d_V_hasMoreThanHalf_52 : decode b_V_hasMoreThanHalf 52 = .ok (.goto 4, 3) := by decide +kernel
theorem d_V_hasMoreThanHalf_55 : decode b_V_hasMoreThanHalf 55 = .ok (.iconst 0, 1) := by decide +kernel
theorem d_V_hasMoreThanHalf_56 : decode b_V_hasMoreThanHalf 56 = .ok (.ireturn, 1) := by decide +kernel
theorem d_V_leastCounted_0 : decode b_V_leastCounted 0 = .ok (.iconst (-1), 1) := by decide +kernel
theorem d_V_leastCounted_1 : decode b_V_leastCounted 1 = .ok (.istore_n 3, 1) := by decide +kernel
theorem d_V_leastCounted_2 : decode b_V_leastCounted 2 = .ok (.iconst 0, 1) := by decide +kernel
theorem d_V_leastCounted_3 : decode b_V_leastCounted 3 = .ok (.istore 4, 2) := by decide +kernel
theorem d_V_leastCounted_5 : decode b_V_leastCounted 5 = .ok (.iload 4, 2) := by decide +kernel
theorem d_V_leastCounted_7 : decode b_V_leastCounted 7 = .ok (.aload_n 1, 1) := by decide +kernel
theorem d_V_leastCounted_8 : decode b_V_leastCounted 8 = .ok (.getfield 133, 3) := by decide +kernel
theorem d_V_leastCounted_11 : decode b_V_leastCounted 11 = .ok (.if_icmp .ge 42, 3) := by decide +kernel
theorem d_V_leastCounted_14 : decode b_V_leastCounted 14 = .ok (.iload_n 2, 1) := by decide +kernel
theorem d_V_leastCounted_15 : decode b_V_leastCounted 15 = .ok (.iload 4, 2) := by decide +kernel
theorem d_V_leastCounted_17 : decode b_V_leastCounted 17 = .ok (.invokestatic 236, 3) := by decide +kernel
theorem d_V_leastCounted_20 : decode b_V_leastCounted 20 = .ok (.ifCond .eq 27, 3) := by decide +kernel
theorem d_V_leastCounted_23 : decode b_V_leastCounted 23 = .ok (.iload_n 3, 1) := by decide +kernel
theorem d_V_leastCounted_24 : decode b_V_leastCounted 24 = .ok (.iconst (-1), 1) := by decide +kernel
theorem d_V_leastCounted_25 : decode b_V_leastCounted 25 = .ok (.if_icmp .eq 19, 3) := by decide +kernel
theorem d_V_leastCounted_28 : decode b_V_leastCounted 28 = .ok (.aload_n 0, 1) := by decide +kernel
theorem d_V_leastCounted_29 : decode b_V_leastCounted 29 = .ok (.getfield 38, 3) := by decide +kernel
theorem d_V_leastCounted_32 : decode b_V_leastCounted 32 = .ok (.iload 4, 2) := by decide +kernel
theorem d_V_leastCounted_34 : decode b_V_leastCounted 34 = .ok (.iaload, 1) := by decide +kernel
theorem d_V_leastCounted_35 : decode b_V_leastCounted 35 = .ok (.aload_n 0, 1) := by decide +kernel
theorem d_V_leastCounted_36 : decode b_V_leastCounted 36 = .ok (.getfield 38, 3) := by decide +kernel
theorem d_V_leastCounted_39 : decode b_V_leastCounted 39 = .ok (.iload_n 3, 1) := by decide +kernel
theorem d_V_leastCounted_40 : decode b_V_leastCounted 40 = .ok (.iaload, 1) := by decide +kernel
theorem d_V_leastCounted_41 : decode b_V_leastCounted 41 = .ok (.if_icmp .gt 6, 3) := by decide +kernel
theorem d_V_leastCounted_44 : decode b_V_leastCounted 44 = .ok (.iload 4, 2) := by decide +kernel
theorem d_V_leastCounted_46 : decode b_V_leastCounted 46 = .ok (.istore_n 3, 1) := by decide +kernel
theorem d_V_leastCounted_47 : decode b_V_leastCounted 47 = .ok (.iinc 4 1, 3) := by decide +kernel
theorem d_V_leastCounted_50 : decode b_V_leastCounted 50 = .ok (.goto (-45), 3) := by decide +kernel
theorem d_V_leastCounted_53 : decode b_V_leastCounted 53 = .ok (.iload_n 3, 1) := by decide +kernel
theorem d_V_leastCounted_54 : decode b_V_leastCounted 54 = .ok (.ireturn, 1) := by decide +kernel
theorem d_V_countVotes_0 : decode b_V_countVotes 0 = .ok (.aload_n 0, 1) := by decide +kernel
theorem d_V_countVotes_1 : decode b_V_countVotes 1 = .ok (.aload_n 1, 1) := by decide +kernel
theorem d_V_countVotes_2 : decode b_V_countVotes 2 = .ok (.invokevirtual 243, 3) := by decide +kernel
theorem d_V_countVotes_5 : decode b_V_countVotes 5 = .ok (.iconst 1, 1) := by decide +kernel
theorem d_V_countVotes_6 : decode b_V_countVotes 6 = .ok (.aload_n 1, 1) := by decide +kernel
theorem d_V_countVotes_7 : decode b_V_countVotes 7 = .ok (.getfield 133, 3) := by decide +kernel
theorem d_V_countVotes_10 : decode b_V_countVotes 10 = .ok (.ishl, 1) := by decide +kernel
theorem d_V_countVotes_11 : decode b_V_countVotes 11 = .ok (.iconst 1, 1) := by decide +kernel
theorem d_V_countVotes_12 : decode b_V_countVotes 12 = .ok (.isub, 1) := by decide +kernel
theorem d_V_countVotes_13 : decode b_V_countVotes 13 = .ok (.istore_n 2, 1) := by decide +kernel
theorem d_V_countVotes_14 : decode b_V_countVotes 14 = .ok (.aload_n 0, 1) := by decide +kernel
theorem d_V_countVotes_15 : decode b_V_countVotes 15 = .ok (.aload_n 1, 1) := by decide +kernel
theorem d_V_countVotes_16 : decode b_V_countVotes 16 = .ok (.iload_n 2, 1) := by decide +kernel
theorem d_V_countVotes_17 : decode b_V_countVotes 17 = .ok (.invokevirtual 246, 3) := by decide +kernel
theorem d_V_countVotes_20 : decode b_V_countVotes 20 = .ok (.aload_n 0, 1) := by decide +kernel
theorem d_V_countVotes_21 : decode b_V_countVotes 21 = .ok (.iconst 0, 1) := by decide +kernel
theorem d_V_countVotes_22 : decode b_V_countVotes 22 = .ok (.putfield 143, 3) := by decide +kernel
theorem d_V_countVotes_25 : decode b_V_countVotes 25 = .ok (.aload_n 1, 1) := by decide +kernel
theorem d_V_countVotes_26 : decode b_V_countVotes 26 = .ok (.getfield 140, 3) := by decide +kernel
theorem d_V_countVotes_29 : decode b_V_countVotes 29 = .ok (.iconst 2, 1) := by decide +kernel
theorem d_V_countVotes_30 : decode b_V_countVotes 30 = .ok (.if_icmp .ne 12, 3) := by decide +kernel
theorem d_V_countVotes_33 : decode b_V_countVotes 33 = .ok (.aload_n 1, 1) := by decide +kernel
theorem d_V_countVotes_34 : decode b_V_countVotes 34 = .ok (.getfield 133, 3) := by decide +kernel
theorem d_V_countVotes_37 : decode b_V_countVotes 37 = .ok (.iconst 1, 1) := by decide +kernel
theorem d_V_countVotes_38 : decode b_V_countVotes 38 = .ok (.isub, 1) := by decide +kernel
theorem d_V_countVotes_39 : decode b_V_countVotes 39 = .ok (.goto 4, 3) := by decide +kernel
theorem d_V_countVotes_42 : decode b_V_countVotes 42 = .ok (.iconst 0, 1) := by decide +kernel
theorem d_V_countVotes_43 : decode b_V_countVotes 43 = .ok (.istore_n 3, 1) := by decide +kernel
theorem d_V_countVotes_44 : decode b_V_countVotes 44 = .ok (.iconst 0, 1) := by decide +kernel
theorem d_V_countVotes_45 : decode b_V_countVotes 45 = .ok (.istore 4, 2) := by decide +kernel
theorem d_V_countVotes_47 : decode b_V_countVotes 47 = .ok (.iload 4, 2) := by decide +kernel
theorem d_V_countVotes_49 : decode b_V_countVotes 49 = .ok (.iload_n 3, 1) := by decide +kernel
theorem d_V_countVotes_50 : decode b_V_countVotes 50 = .ok (.if_icmp .ge 57, 3) := by decide +kernel
theorem d_V_countVotes_53 : decode b_V_countVotes 53 = .ok (.aload_n 0, 1) := by decide +kernel
theorem d_V_countVotes_54 : decode b_V_countVotes 54 = .ok (.aload_n 1, 1) := by decide +kernel
theorem d_V_countVotes_55 : decode b_V_countVotes 55 = .ok (.invokevirtual 250, 3) := by decide +kernel
theorem d_V_countVotes_58 : decode b_V_countVotes 58 = .ok (.ifCond .ne 49, 3) := by decide +kernel
theorem d_V_countVotes_61 : decode b_V_countVotes 61 = .ok (.aload_n 0, 1) := by decide +kernel
theorem d_V_countVotes_62 : decode b_V_countVotes 62 = .ok (.aload_n 1, 1) := by decide +kernel
theorem d_V_countVotes_63 : decode b_V_countVotes 63 = .ok (.iload_n 2, 1) := by decide +kernel
theorem d_V_countVotes_64 : decode b_V_countVotes 64 = .ok (.invokevirtual 253, 3) := by decide +kernel
theorem d_V_countVotes_67 : decode b_V_countVotes 67 = .ok (.istore 5, 2) := by decide +kernel
theorem d_V_countVotes_69 : decode b_V_countVotes 69 = .ok (.aload_n 0, 1) := by decide +kernel
theorem d_V_countVotes_70 : decode b_V_countVotes 70 = .ok (.getfield 41, 3) := by decide +kernel
theorem d_V_countVotes_73 : decode b_V_countVotes 73 = .ok (.iload 4, 2) := by decide +kernel
theorem d_V_countVotes_75 : decode b_V_countVotes 75 = .ok (.iload 5, 2) := by decide +kernel
theorem d_V_countVotes_77 : decode b_V_countVotes 77 = .ok (.iastore, 1) := by decide +kernel
theorem d_V_countVotes_78 : decode b_V_countVotes 78 = .ok (.aload_n 0, 1) := by decide +kernel
theorem d_V_countVotes_79 : decode b_V_countVotes 79 = .ok (.iload 4, 2) := by decide +kernel
theorem d_V_countVotes_81 : decode b_V_countVotes 81 = .ok (.iconst 1, 1) := by decide +kernel
theorem d_V_countVotes_82 : decode b_V_countVotes 82 = .ok (.iadd, 1) := by decide +kernel
theorem d_V_countVotes_83 : decode b_V_countVotes 83 = .ok (.putfield 143, 3) := by decide +kernel
theorem d_V_countVotes_86 : decode b_V_countVotes 86 = .ok (.iload_n 2, 1) := by decide +kernel
theorem d_V_countVotes_87 : decode b_V_countVotes 87 = .ok (.iconst 1, 1) := by decide +kernel
theorem d_V_countVotes_88 : decode b_V_countVotes 88 = .ok (.iload 5, 2) := by decide +kernel
theorem d_V_countVotes_90 : decode b_V_countVotes 90 = .ok (.ishl, 1) := by decide +kernel
theorem d_V_countVotes_91 : decode b_V_countVotes 91 = .ok (.iconst (-1), 1) := by decide +kernel
theorem d_V_countVotes_92 : decode b_V_countVotes 92 = .ok (.ixor, 1) := by decide +kernel
theorem d_V_countVotes_93 : decode b_V_countVotes 93 = .ok (.iand, 1) := by decide +kernel
theorem d_V_countVotes_94 : decode b_V_countVotes 94 = .ok (.istore_n 2, 1) := by decide +kernel
theorem d_V_countVotes_95 : decode b_V_countVotes 95 = .ok (.aload_n 0, 1) := by decide +kernel
theorem d_V_countVotes_96 : decode b_V_countVotes 96 = .ok (.aload_n 1, 1) := by decide +kernel
theorem d_V_countVotes_97 : decode b_V_countVotes 97 = .ok (.iload_n 2, 1) := by decide +kernel
theorem d_V_countVotes_98 : decode b_V_countVotes 98 = .ok (.invokevirtual 246, 3) := by decide +kernel
theorem d_V_countVotes_101 : decode b_V_countVotes 101 = .ok (.iinc 4 1, 3) := by decide +kernel
theorem d_V_countVotes_104 : decode b_V_countVotes 104 = .ok (.goto (-57), 3) := by decide +kernel
theorem d_V_countVotes_107 : decode b_V_countVotes 107 = .ok (.return_, 1) := by decide +kernel
