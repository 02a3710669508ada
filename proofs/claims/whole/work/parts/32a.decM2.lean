theorem d_M_isHidden_0 : decode b_M_isHidden 0 = .ok (.aload_n 0, 1) := by decide +kernel
theorem d_M_isHidden_1 : decode b_M_isHidden 1 = .ok (.getfield 32, 3) := by decide +kernel
theorem d_M_isHidden_4 : decode b_M_isHidden 4 = .ok (.iload_n 1, 1) := by decide +kernel
theorem d_M_isHidden_5 : decode b_M_isHidden 5 = .ok (.iaload, 1) := by decide +kernel
theorem d_M_isHidden_6 : decode b_M_isHidden 6 = .ok (.aload_n 0, 1) := by decide +kernel
theorem d_M_isHidden_7 : decode b_M_isHidden 7 = .ok (.getfield 29, 3) := by decide +kernel
theorem d_M_isHidden_10 : decode b_M_isHidden 10 = .ok (.iload_n 1, 1) := by decide +kernel
theorem d_M_isHidden_11 : decode b_M_isHidden 11 = .ok (.iaload, 1) := by decide +kernel
theorem d_M_isHidden_12 : decode b_M_isHidden 12 = .ok (.if_icmp .le 7, 3) := by decide +kernel
theorem d_M_isHidden_15 : decode b_M_isHidden 15 = .ok (.iconst 1, 1) := by decide +kernel
theorem d_M_isHidden_16 : decode b_M_isHidden 16 = .ok (.goto 4, 3) := by decide +kernel
theorem d_M_isHidden_19 : decode b_M_isHidden 19 = .ok (.iconst 0, 1) := by decide +kernel
theorem d_M_isHidden_20 : decode b_M_isHidden 20 = .ok (.ireturn, 1) := by decide +kernel
theorem d_M_call_0 : decode b_M_call 0 = .ok (.aload_n 0, 1) := by decide +kernel
theorem d_M_call_1 : decode b_M_call 1 = .ok (.iload_n 1, 1) := by decide +kernel
theorem d_M_call_2 : decode b_M_call 2 = .ok (.invokevirtual 173, 3) := by decide +kernel
theorem d_M_call_5 : decode b_M_call 5 = .ok (.ifCond .eq 11, 3) := by decide +kernel
theorem d_M_call_8 : decode b_M_call 8 = .ok (.aload_n 0, 1) := by decide +kernel
theorem d_M_call_9 : decode b_M_call 9 = .ok (.iload_n 2, 1) := by decide +kernel
theorem d_M_call_10 : decode b_M_call 10 = .ok (.invokevirtual 143, 3) := by decide +kernel
theorem d_M_call_13 : decode b_M_call 13 = .ok (.ifCond .ne 5, 3) := by decide +kernel
theorem d_M_call_16 : decode b_M_call 16 = .ok (.iconst (-1), 1) := by decide +kernel
theorem d_M_call_17 : decode b_M_call 17 = .ok (.ireturn, 1) := by decide +kernel
theorem d_M_call_18 : decode b_M_call 18 = .ok (.iload_n 3, 1) := by decide +kernel
theorem d_M_call_19 : decode b_M_call 19 = .ok (.iconst 0, 1) := by decide +kernel
theorem d_M_call_20 : decode b_M_call 20 = .ok (.ldc 147, 2) := by decide +kernel
theorem d_M_call_22 : decode b_M_call 22 = .ok (.invokestatic 139, 3) := by decide +kernel
theorem d_M_call_25 : decode b_M_call 25 = .ok (.ifCond .eq 14, 3) := by decide +kernel
theorem d_M_call_28 : decode b_M_call 28 = .ok (.iload 4, 2) := by decide +kernel
theorem d_M_call_30 : decode b_M_call 30 = .ok (.iconst 0, 1) := by decide +kernel
theorem d_M_call_31 : decode b_M_call 31 = .ok (.bipush 50, 2) := by decide +kernel
theorem d_M_call_33 : decode b_M_call 33 = .ok (.invokestatic 139, 3) := by decide +kernel
theorem d_M_call_36 : decode b_M_call 36 = .ok (.ifCond .ne 6, 3) := by decide +kernel
theorem d_M_call_39 : decode b_M_call 39 = .ok (.bipush (-2), 2) := by decide +kernel
theorem d_M_call_41 : decode b_M_call 41 = .ok (.ireturn, 1) := by decide +kernel
theorem d_M_call_42 : decode b_M_call 42 = .ok (.aload_n 0, 1) := by decide +kernel
theorem d_M_call_43 : decode b_M_call 43 = .ok (.getfield 156, 3) := by decide +kernel
theorem d_M_call_46 : decode b_M_call 46 = .ok (.aload_n 0, 1) := by decide +kernel
theorem d_M_call_47 : decode b_M_call 47 = .ok (.getfield 29, 3) := by decide +kernel
theorem d_M_call_50 : decode b_M_call 50 = .ok (.iload_n 1, 1) := by decide +kernel
theorem d_M_call_51 : decode b_M_call 51 = .ok (.iaload, 1) := by decide +kernel
theorem d_M_call_52 : decode b_M_call 52 = .ok (.if_icmp .lt 6, 3) := by decide +kernel
theorem d_M_call_55 : decode b_M_call 55 = .ok (.bipush (-3), 2) := by decide +kernel
theorem d_M_call_57 : decode b_M_call 57 = .ok (.ireturn, 1) := by decide +kernel
theorem d_M_call_58 : decode b_M_call 58 = .ok (.aload_n 0, 1) := by decide +kernel
theorem d_M_call_59 : decode b_M_call 59 = .ok (.getfield 38, 3) := by decide +kernel
theorem d_M_call_62 : decode b_M_call 62 = .ok (.iload_n 1, 1) := by decide +kernel
theorem d_M_call_63 : decode b_M_call 63 = .ok (.iconst 1, 1) := by decide +kernel
theorem d_M_call_64 : decode b_M_call 64 = .ok (.bastore, 1) := by decide +kernel
theorem d_M_call_65 : decode b_M_call 65 = .ok (.aload_n 0, 1) := by decide +kernel
theorem d_M_call_66 : decode b_M_call 66 = .ok (.getfield 45, 3) := by decide +kernel
theorem d_M_call_69 : decode b_M_call 69 = .ok (.iload_n 1, 1) := by decide +kernel
theorem d_M_call_70 : decode b_M_call 70 = .ok (.iload_n 2, 1) := by decide +kernel
theorem d_M_call_71 : decode b_M_call 71 = .ok (.iastore, 1) := by decide +kernel
theorem d_M_call_72 : decode b_M_call 72 = .ok (.aload_n 0, 1) := by decide +kernel
theorem d_M_call_73 : decode b_M_call 73 = .ok (.getfield 48, 3) := by decide +kernel
theorem d_M_call_76 : decode b_M_call 76 = .ok (.iload_n 1, 1) := by decide +kernel
theorem d_M_call_77 : decode b_M_call 77 = .ok (.iload_n 3, 1) := by decide +kernel
theorem d_M_call_78 : decode b_M_call 78 = .ok (.iastore, 1) := by decide +kernel
theorem d_M_call_79 : decode b_M_call 79 = .ok (.aload_n 0, 1) := by decide +kernel
theorem d_M_call_80 : decode b_M_call 80 = .ok (.getfield 51, 3) := by decide +kernel
theorem d_M_call_83 : decode b_M_call 83 = .ok (.iload_n 1, 1) := by decide +kernel
theorem d_M_call_84 : decode b_M_call 84 = .ok (.iload 4, 2) := by decide +kernel
theorem d_M_call_86 : decode b_M_call 86 = .ok (.iastore, 1) := by decide +kernel
theorem d_M_call_87 : decode b_M_call 87 = .ok (.iconst 1, 1) := by decide +kernel
theorem d_M_call_88 : decode b_M_call 88 = .ok (.ireturn, 1) := by decide +kernel
theorem d_M_isRanks_0 : decode b_M_isRanks 0 = .ok (.iload_n 1, 1) := by decide +kernel
theorem d_M_isRanks_1 : decode b_M_isRanks 1 = .ok (.istore_n 2, 1) := by decide +kernel
theorem d_M_isRanks_2 : decode b_M_isRanks 2 = .ok (.iconst 0, 1) := by decide +kernel
theorem d_M_isRanks_3 : decode b_M_isRanks 3 = .ok (.istore_n 3, 1) := by decide +kernel
theorem d_M_isRanks_4 : decode b_M_isRanks 4 = .ok (.iload_n 2, 1) := by decide +kernel
theorem d_M_isRanks_5 : decode b_M_isRanks 5 = .ok (.bipush 8, 2) := by decide +kernel
theorem d_M_isRanks_7 : decode b_M_isRanks 7 = .ok (.irem, 1) := by decide +kernel
theorem d_M_isRanks_8 : decode b_M_isRanks 8 = .ok (.ifCond .eq 42, 3) := by decide +kernel
theorem d_M_isRanks_11 : decode b_M_isRanks 11 = .ok (.iload_n 2, 1) := by decide +kernel
theorem d_M_isRanks_12 : decode b_M_isRanks 12 = .ok (.bipush 8, 2) := by decide +kernel
theorem d_M_isRanks_14 : decode b_M_isRanks 14 = .ok (.irem, 1) := by decide +kernel
theorem d_M_isRanks_15 : decode b_M_isRanks 15 = .ok (.istore 4, 2) := by decide +kernel
theorem d_M_isRanks_17 : decode b_M_isRanks 17 = .ok (.iload 4, 2) := by decide +kernel
theorem d_M_isRanks_19 : decode b_M_isRanks 19 = .ok (.iload_n 0, 1) := by decide +kernel
theorem d_M_isRanks_20 : decode b_M_isRanks 20 = .ok (.if_icmp .gt 13, 3) := by decide +kernel
theorem d_M_isRanks_23 : decode b_M_isRanks 23 = .ok (.iload_n 3, 1) := by decide +kernel
theorem d_M_isRanks_24 : decode b_M_isRanks 24 = .ok (.iload 4, 2) := by decide +kernel
theorem d_M_isRanks_26 : decode b_M_isRanks 26 = .ok (.ishr, 1) := by decide +kernel
theorem d_M_isRanks_27 : decode b_M_isRanks 27 = .ok (.iconst 1, 1) := by decide +kernel
theorem d_M_isRanks_28 : decode b_M_isRanks 28 = .ok (.iand, 1) := by decide +kernel
theorem d_M_isRanks_29 : decode b_M_isRanks 29 = .ok (.iconst 1, 1) := by decide +kernel
theorem d_M_isRanks_30 : decode b_M_isRanks 30 = .ok (.if_icmp .ne 5, 3) := by decide +kernel
theorem d_M_isRanks_33 : decode b_M_isRanks 33 = .ok (.iconst 0, 1) := by decide +kernel
theorem d_M_isRanks_34 : decode b_M_isRanks 34 = .ok (.ireturn, 1) := by decide +kernel
theorem d_M_isRanks_35 : decode b_M_isRanks 35 = .ok (.iload_n 3, 1) := by decide +kernel
theorem d_M_isRanks_36 : decode b_M_isRanks 36 = .ok (.iconst 1, 1) := by decide +kernel
theorem d_M_isRanks_37 : decode b_M_isRanks 37 = .ok (.iload 4, 2) := by decide +kernel
theorem d_M_isRanks_39 : decode b_M_isRanks 39 = .ok (.ishl, 1) := by decide +kernel
theorem d_M_isRanks_40 : decode b_M_isRanks 40 = .ok (.ior, 1) := by decide +kernel
theorem d_M_isRanks_41 : decode b_M_isRanks 41 = .ok (.istore_n 3, 1) := by decide +kernel
theorem d_M_isRanks_42 : decode b_M_isRanks 42 = .ok (.iload_n 2, 1) := by decide +kernel
theorem d_M_isRanks_43 : decode b_M_isRanks 43 = .ok (.bipush 8, 2) := by decide +kernel
theorem d_M_isRanks_45 : decode b_M_isRanks 45 = .ok (.idiv, 1) := by decide +kernel
theorem d_M_isRanks_46 : decode b_M_isRanks 46 = .ok (.istore_n 2, 1) := by decide +kernel
theorem d_M_isRanks_47 : decode b_M_isRanks 47 = .ok (.goto (-43), 3) := by decide +kernel
theorem d_M_isRanks_50 : decode b_M_isRanks 50 = .ok (.iload_n 2, 1) := by decide +kernel
theorem d_M_isRanks_51 : decode b_M_isRanks 51 = .ok (.ifCond .ne 11, 3) := by decide +kernel
theorem d_M_isRanks_54 : decode b_M_isRanks 54 = .ok (.iload_n 1, 1) := by decide +kernel
theorem d_M_isRanks_55 : decode b_M_isRanks 55 = .ok (.ifCond .le 7, 3) := by decide +kernel
theorem d_M_isRanks_58 : decode b_M_isRanks 58 = .ok (.iconst 1, 1) := by decide +kernel
theorem d_M_isRanks_59 : decode b_M_isRanks 59 = .ok (.goto 4, 3) := by decide +kernel
theorem d_M_isRanks_62 : decode b_M_isRanks 62 = .ok (.iconst 0, 1) := by decide +kernel
theorem d_M_isRanks_63 : decode b_M_isRanks 63 = .ok (.ireturn, 1) := by decide +kernel
theorem d_M_isVote_0 : decode b_M_isVote 0 = .ok (.aload_n 0, 1) := by decide +kernel
theorem d_M_isVote_1 : decode b_M_isVote 1 = .ok (.getfield 26, 3) := by decide +kernel
theorem d_M_isVote_4 : decode b_M_isVote 4 = .ok (.iload_n 1, 1) := by decide +kernel
theorem d_M_isVote_5 : decode b_M_isVote 5 = .ok (.iaload, 1) := by decide +kernel
theorem d_M_isVote_6 : decode b_M_isVote 6 = .ok (.istore 4, 2) := by decide +kernel
theorem d_M_isVote_8 : decode b_M_isVote 8 = .ok (.iload_n 3, 1) := by decide +kernel
theorem d_M_isVote_9 : decode b_M_isVote 9 = .ok (.ifCond .ge 5, 3) := by decide +kernel
theorem d_M_isVote_12 : decode b_M_isVote 12 = .ok (.iconst 0, 1) := by decide +kernel
theorem d_M_isVote_13 : decode b_M_isVote 13 = .ok (.ireturn, 1) := by decide +kernel
theorem d_M_isVote_14 : decode b_M_isVote 14 = .ok (.aload_n 0, 1) := by decide +kernel
theorem d_M_isVote_15 : decode b_M_isVote 15 = .ok (.getfield 23, 3) := by decide +kernel
theorem d_M_isVote_18 : decode b_M_isVote 18 = .ok (.iload_n 1, 1) := by decide +kernel
theorem d_M_isVote_19 : decode b_M_isVote 19 = .ok (.iaload, 1) := by decide +kernel
theorem d_M_isVote_20 : decode b_M_isVote 20 = .ok (.tableswitch 66 0 2 #[28, 40, 59], 28) := by decide +kernel
theorem d_M_isVote_48 : decode b_M_isVote 48 = .ok (.iload_n 3, 1) := by decide +kernel
theorem d_M_isVote_49 : decode b_M_isVote 49 = .ok (.iload 4, 2) := by decide +kernel
theorem d_M_isVote_51 : decode b_M_isVote 51 = .ok (.if_icmp .ge 7, 3) := by decide +kernel
theorem d_M_isVote_54 : decode b_M_isVote 54 = .ok (.iconst 1, 1) := by decide +kernel
theorem d_M_isVote_55 : decode b_M_isVote 55 = .ok (.goto 4, 3) := by decide +kernel
theorem d_M_isVote_58 : decode b_M_isVote 58 = .ok (.iconst 0, 1) := by decide +kernel
theorem d_M_isVote_59 : decode b_M_isVote 59 = .ok (.ireturn, 1) := by decide +kernel
theorem d_M_isVote_60 : decode b_M_isVote 60 = .ok (.iload_n 3, 1) := by decide +kernel
theorem d_M_isVote_61 : decode b_M_isVote 61 = .ok (.iconst 1, 1) := by decide +kernel
theorem d_M_isVote_62 : decode b_M_isVote 62 = .ok (.if_icmp .lt 15, 3) := by decide +kernel
theorem d_M_isVote_65 : decode b_M_isVote 65 = .ok (.iload_n 3, 1) := by decide +kernel
theorem d_M_isVote_66 : decode b_M_isVote 66 = .ok (.iconst 1, 1) := by decide +kernel
theorem d_M_isVote_67 : decode b_M_isVote 67 = .ok (.iload 4, 2) := by decide +kernel
theorem d_M_isVote_69 : decode b_M_isVote 69 = .ok (.ishl, 1) := by decide +kernel
theorem d_M_isVote_70 : decode b_M_isVote 70 = .ok (.if_icmp .ge 7, 3) := by decide +kernel
theorem d_M_isVote_73 : decode b_M_isVote 73 = .ok (.iconst 1, 1) := by decide +kernel
theorem d_M_isVote_74 : decode b_M_isVote 74 = .ok (.goto 4, 3) := by decide +kernel
theorem d_M_isVote_77 : decode b_M_isVote 77 = .ok (.iconst 0, 1) := by decide +kernel
theorem d_M_isVote_78 : decode b_M_isVote 78 = .ok (.ireturn, 1) := by decide +kernel
theorem d_M_isVote_79 : decode b_M_isVote 79 = .ok (.iload 4, 2) := by decide +kernel
theorem d_M_isVote_81 : decode b_M_isVote 81 = .ok (.iload_n 3, 1) := by decide +kernel
theorem d_M_isVote_82 : decode b_M_isVote 82 = .ok (.invokestatic 176, 3) := by decide +kernel
theorem d_M_isVote_85 : decode b_M_isVote 85 = .ok (.ireturn, 1) := by decide +kernel
theorem d_M_isVote_86 : decode b_M_isVote 86 = .ok (.iconst 0, 1) := by decide +kernel
theorem d_M_isVote_87 : decode b_M_isVote 87 = .ok (.istore 5, 2) := by decide +kernel
theorem d_M_isVote_89 : decode b_M_isVote 89 = .ok (.iload_n 3, 1) := by decide +kernel
theorem d_M_isVote_90 : decode b_M_isVote 90 = .ok (.istore 6, 2) := by decide +kernel
theorem d_M_isVote_92 : decode b_M_isVote 92 = .ok (.iconst 0, 1) := by decide +kernel
theorem d_M_isVote_93 : decode b_M_isVote 93 = .ok (.istore 7, 2) := by decide +kernel
theorem d_M_isVote_95 : decode b_M_isVote 95 = .ok (.iload 7, 2) := by decide +kernel
theorem d_M_isVote_97 : decode b_M_isVote 97 = .ok (.iload 4, 2) := by decide +kernel
theorem d_M_isVote_99 : decode b_M_isVote 99 = .ok (.if_icmp .ge 32, 3) := by decide +kernel
theorem d_M_isVote_102 : decode b_M_isVote 102 = .ok (.iload 5, 2) := by decide +kernel
theorem d_M_isVote_104 : decode b_M_isVote 104 = .ok (.iload 6, 2) := by decide +kernel
theorem d_M_isVote_106 : decode b_M_isVote 106 = .ok (.bipush 32, 2) := by decide +kernel
theorem d_M_isVote_108 : decode b_M_isVote 108 = .ok (.irem, 1) := by decide +kernel
theorem d_M_isVote_109 : decode b_M_isVote 109 = .ok (.iload 6, 2) := by decide +kernel
theorem d_M_isVote_111 : decode b_M_isVote 111 = .ok (.bipush 32, 2) := by decide +kernel
theorem d_M_isVote_113 : decode b_M_isVote 113 = .ok (.irem, 1) := by decide +kernel
theorem d_M_isVote_114 : decode b_M_isVote 114 = .ok (.imul, 1) := by decide +kernel
theorem d_M_isVote_115 : decode b_M_isVote 115 = .ok (.iadd, 1) := by decide +kernel
theorem d_M_isVote_116 : decode b_M_isVote 116 = .ok (.istore 5, 2) := by decide +kernel
theorem d_M_isVote_118 : decode b_M_isVote 118 = .ok (.iload 6, 2) := by decide +kernel
theorem d_M_isVote_120 : decode b_M_isVote 120 = .ok (.bipush 32, 2) := by decide +kernel
theorem d_M_isVote_122 : decode b_M_isVote 122 = .ok (.idiv, 1) := by decide +kernel
theorem d_M_isVote_123 : decode b_M_isVote 123 = .ok (.istore 6, 2) := by decide +kernel
theorem d_M_isVote_125 : decode b_M_isVote 125 = .ok (.iinc 7 1, 3) := by decide +kernel
theorem d_M_isVote_128 : decode b_M_isVote 128 = .ok (.goto (-33), 3) := by decide +kernel
theorem d_M_isVote_131 : decode b_M_isVote 131 = .ok (.iload 6, 2) := by decide +kernel
theorem d_M_isVote_133 : decode b_M_isVote 133 = .ok (.ifCond .ne 23, 3) := by decide +kernel
theorem d_M_isVote_136 : decode b_M_isVote 136 = .ok (.iload 5, 2) := by decide +kernel
theorem d_M_isVote_138 : decode b_M_isVote 138 = .ok (.aload_n 0, 1) := by decide +kernel
theorem d_M_isVote_139 : decode b_M_isVote 139 = .ok (.getfield 54, 3) := by decide +kernel
theorem d_M_isVote_142 : decode b_M_isVote 142 = .ok (.bipush 8, 2) := by decide +kernel
theorem d_M_isVote_144 : decode b_M_isVote 144 = .ok (.iload_n 1, 1) := by decide +kernel
theorem d_M_isVote_145 : decode b_M_isVote 145 = .ok (.imul, 1) := by decide +kernel
theorem d_M_isVote_146 : decode b_M_isVote 146 = .ok (.iload_n 2, 1) := by decide +kernel
theorem d_M_isVote_147 : decode b_M_isVote 147 = .ok (.iadd, 1) := by decide +kernel
theorem d_M_isVote_148 : decode b_M_isVote 148 = .ok (.iaload, 1) := by decide +kernel
theorem d_M_isVote_149 : decode b_M_isVote 149 = .ok (.if_icmp .gt 7, 3) := by decide +kernel
theorem d_M_isVote_152 : decode b_M_isVote 152 = .ok (.iconst 1, 1) := by decide +kernel
theorem d_M_isVote_153 : decode b_M_isVote 153 = .ok (.goto 4, 3) := by decide +kernel
theorem d_M_isVote_156 : decode b_M_isVote 156 = .ok (.iconst 0, 1) := by decide +kernel
theorem d_M_isVote_157 : decode b_M_isVote 157 = .ok (.ireturn, 1) := by decide +kernel
theorem d_M_vote_0 : decode b_M_vote 0 = .ok (.aload_n 0, 1) := by decide +kernel
theorem d_M_vote_1 : decode b_M_vote 1 = .ok (.iload_n 1, 1) := by decide +kernel
theorem d_M_vote_2 : decode b_M_vote 2 = .ok (.invokevirtual 173, 3) := by decide +kernel
theorem d_M_vote_5 : decode b_M_vote 5 = .ok (.ifCond .eq 11, 3) := by decide +kernel
theorem d_M_vote_8 : decode b_M_vote 8 = .ok (.aload_n 0, 1) := by decide +kernel
theorem d_M_vote_9 : decode b_M_vote 9 = .ok (.iload_n 2, 1) := by decide +kernel
theorem d_M_vote_10 : decode b_M_vote 10 = .ok (.invokevirtual 143, 3) := by decide +kernel
theorem d_M_vote_13 : decode b_M_vote 13 = .ok (.ifCond .ne 5, 3) := by decide +kernel
theorem d_M_vote_16 : decode b_M_vote 16 = .ok (.iconst (-1), 1) := by decide +kernel
theorem d_M_vote_17 : decode b_M_vote 17 = .ok (.ireturn, 1) := by decide +kernel
theorem d_M_vote_18 : decode b_M_vote 18 = .ok (.iload_n 3, 1) := by decide +kernel
theorem d_M_vote_19 : decode b_M_vote 19 = .ok (.iconst (-1), 1) := by decide +kernel
theorem d_M_vote_20 : decode b_M_vote 20 = .ok (.if_icmp .eq 16, 3) := by decide +kernel
theorem d_M_vote_23 : decode b_M_vote 23 = .ok (.aload_n 0, 1) := by decide +kernel
theorem d_M_vote_24 : decode b_M_vote 24 = .ok (.iload_n 1, 1) := by decide +kernel
theorem d_M_vote_25 : decode b_M_vote 25 = .ok (.iload_n 2, 1) := by decide +kernel
theorem d_M_vote_26 : decode b_M_vote 26 = .ok (.iload_n 3, 1) := by decide +kernel
theorem d_M_vote_27 : decode b_M_vote 27 = .ok (.invokevirtual 180, 3) := by decide +kernel
theorem d_M_vote_30 : decode b_M_vote 30 = .ok (.ifCond .ne 6, 3) := by decide +kernel
theorem d_M_vote_33 : decode b_M_vote 33 = .ok (.bipush (-2), 2) := by decide +kernel
theorem d_M_vote_35 : decode b_M_vote 35 = .ok (.ireturn, 1) := by decide +kernel
theorem d_M_vote_36 : decode b_M_vote 36 = .ok (.aload_n 0, 1) := by decide +kernel
theorem d_M_vote_37 : decode b_M_vote 37 = .ok (.getfield 156, 3) := by decide +kernel
theorem d_M_vote_40 : decode b_M_vote 40 = .ok (.aload_n 0, 1) := by decide +kernel
theorem d_M_vote_41 : decode b_M_vote 41 = .ok (.getfield 29, 3) := by decide +kernel
theorem d_M_vote_44 : decode b_M_vote 44 = .ok (.iload_n 1, 1) := by decide +kernel
theorem d_M_vote_45 : decode b_M_vote 45 = .ok (.iaload, 1) := by decide +kernel
theorem d_M_vote_46 : decode b_M_vote 46 = .ok (.if_icmp .ge 11, 3) := by decide +kernel
theorem d_M_vote_49 : decode b_M_vote 49 = .ok (.aload_n 0, 1) := by decide +kernel
theorem d_M_vote_50 : decode b_M_vote 50 = .ok (.iload_n 1, 1) := by decide +kernel
theorem d_M_vote_51 : decode b_M_vote 51 = .ok (.invokevirtual 183, 3) := by decide +kernel
theorem d_M_vote_54 : decode b_M_vote 54 = .ok (.ifCond .eq 6, 3) := by decide +kernel
theorem d_M_vote_57 : decode b_M_vote 57 = .ok (.bipush (-3), 2) := by decide +kernel
theorem d_M_vote_59 : decode b_M_vote 59 = .ok (.ireturn, 1) := by decide +kernel
theorem d_M_vote_60 : decode b_M_vote 60 = .ok (.aload_n 0, 1) := by decide +kernel
theorem d_M_vote_61 : decode b_M_vote 61 = .ok (.getfield 57, 3) := by decide +kernel
theorem d_M_vote_64 : decode b_M_vote 64 = .ok (.bipush 8, 2) := by decide +kernel
theorem d_M_vote_66 : decode b_M_vote 66 = .ok (.iload_n 1, 1) := by decide +kernel
theorem d_M_vote_67 : decode b_M_vote 67 = .ok (.imul, 1) := by decide +kernel
theorem d_M_vote_68 : decode b_M_vote 68 = .ok (.iload_n 2, 1) := by decide +kernel
theorem d_M_vote_69 : decode b_M_vote 69 = .ok (.iadd, 1) := by decide +kernel
theorem d_M_vote_70 : decode b_M_vote 70 = .ok (.iload_n 3, 1) := by decide +kernel
theorem d_M_vote_71 : decode b_M_vote 71 = .ok (.iconst (-1), 1) := by decide +kernel
theorem d_M_vote_72 : decode b_M_vote 72 = .ok (.if_icmp .eq 7, 3) := by decide +kernel
theorem d_M_vote_75 : decode b_M_vote 75 = .ok (.iconst 1, 1) := by decide +kernel
theorem d_M_vote_76 : decode b_M_vote 76 = .ok (.goto 4, 3) := by decide +kernel
theorem d_M_vote_79 : decode b_M_vote 79 = .ok (.iconst 0, 1) := by decide +kernel
theorem d_M_vote_80 : decode b_M_vote 80 = .ok (.bastore, 1) := by decide +kernel
theorem d_M_vote_81 : decode b_M_vote 81 = .ok (.aload_n 0, 1) := by decide +kernel
theorem d_M_vote_82 : decode b_M_vote 82 = .ok (.getfield 60, 3) := by decide +kernel
theorem d_M_vote_85 : decode b_M_vote 85 = .ok (.bipush 8, 2) := by decide +kernel
theorem d_M_vote_87 : decode b_M_vote 87 = .ok (.iload_n 1, 1) := by decide +kernel
theorem d_M_vote_88 : decode b_M_vote 88 = .ok (.imul, 1) := by decide +kernel
theorem d_M_vote_89 : decode b_M_vote 89 = .ok (.iload_n 2, 1) := by decide +kernel
theorem d_M_vote_90 : decode b_M_vote 90 = .ok (.iadd, 1) := by decide +kernel
theorem d_M_vote_91 : decode b_M_vote 91 = .ok (.iload_n 3, 1) := by decide +kernel
theorem d_M_vote_92 : decode b_M_vote 92 = .ok (.iastore, 1) := by decide +kernel
theorem d_M_vote_93 : decode b_M_vote 93 = .ok (.iconst 1, 1) := by decide +kernel
theorem d_M_vote_94 : decode b_M_vote 94 = .ok (.ireturn, 1) := by decide +kernel
theorem d_M_hide_0 : decode b_M_hide 0 = .ok (.aload_n 0, 1) := by decide +kernel
theorem d_M_hide_1 : decode b_M_hide 1 = .ok (.iload_n 1, 1) := by decide +kernel
theorem d_M_hide_2 : decode b_M_hide 2 = .ok (.invokevirtual 173, 3) := by decide +kernel
theorem d_M_hide_5 : decode b_M_hide 5 = .ok (.ifCond .eq 11, 3) := by decide +kernel
theorem d_M_hide_8 : decode b_M_hide 8 = .ok (.aload_n 0, 1) := by decide +kernel
theorem d_M_hide_9 : decode b_M_hide 9 = .ok (.iload_n 2, 1) := by decide +kernel
theorem d_M_hide_10 : decode b_M_hide 10 = .ok (.invokevirtual 143, 3) := by decide +kernel
theorem d_M_hide_13 : decode b_M_hide 13 = .ok (.ifCond .ne 5, 3) := by decide +kernel
theorem d_M_hide_16 : decode b_M_hide 16 = .ok (.iconst (-1), 1) := by decide +kernel
theorem d_M_hide_17 : decode b_M_hide 17 = .ok (.ireturn, 1) := by decide +kernel
theorem d_M_hide_18 : decode b_M_hide 18 = .ok (.aload_n 0, 1) := by decide +kernel
theorem d_M_hide_19 : decode b_M_hide 19 = .ok (.getfield 156, 3) := by decide +kernel
theorem d_M_hide_22 : decode b_M_hide 22 = .ok (.aload_n 0, 1) := by decide +kernel
theorem d_M_hide_23 : decode b_M_hide 23 = .ok (.getfield 29, 3) := by decide +kernel
theorem d_M_hide_26 : decode b_M_hide 26 = .ok (.iload_n 1, 1) := by decide +kernel
theorem d_M_hide_27 : decode b_M_hide 27 = .ok (.iaload, 1) := by decide +kernel
theorem d_M_hide_28 : decode b_M_hide 28 = .ok (.if_icmp .ge 11, 3) := by decide +kernel
theorem d_M_hide_31 : decode b_M_hide 31 = .ok (.aload_n 0, 1) := by decide +kernel
theorem d_M_hide_32 : decode b_M_hide 32 = .ok (.iload_n 1, 1) := by decide +kernel
theorem d_M_hide_33 : decode b_M_hide 33 = .ok (.invokevirtual 183, 3) := by decide +kernel
theorem d_M_hide_36 : decode b_M_hide 36 = .ok (.ifCond .ne 6, 3) := by decide +kernel
theorem d_M_hide_39 : decode b_M_hide 39 = .ok (.bipush (-3), 2) := by decide +kernel
theorem d_M_hide_41 : decode b_M_hide 41 = .ok (.ireturn, 1) := by decide +kernel
theorem d_M_hide_42 : decode b_M_hide 42 = .ok (.aload_n 0, 1) := by decide +kernel
theorem d_M_hide_43 : decode b_M_hide 43 = .ok (.getfield 63, 3) := by decide +kernel
theorem d_M_hide_46 : decode b_M_hide 46 = .ok (.bipush 8, 2) := by decide +kernel
theorem d_M_hide_48 : decode b_M_hide 48 = .ok (.iload_n 1, 1) := by decide +kernel
theorem d_M_hide_49 : decode b_M_hide 49 = .ok (.imul, 1) := by decide +kernel
theorem d_M_hide_50 : decode b_M_hide 50 = .ok (.iload_n 2, 1) := by decide +kernel
theorem d_M_hide_51 : decode b_M_hide 51 = .ok (.iadd, 1) := by decide +kernel
theorem d_M_hide_52 : decode b_M_hide 52 = .ok (.iconst 1, 1) := by decide +kernel
theorem d_M_hide_53 : decode b_M_hide 53 = .ok (.bastore, 1) := by decide +kernel
theorem d_M_hide_54 : decode b_M_hide 54 = .ok (.aload_n 0, 1) := by decide +kernel
theorem d_M_hide_55 : decode b_M_hide 55 = .ok (.getfield 66, 3) := by decide +kernel
theorem d_M_hide_58 : decode b_M_hide 58 = .ok (.bipush 8, 2) := by decide +kernel
theorem d_M_hide_60 : decode b_M_hide 60 = .ok (.iload_n 1, 1) := by decide +kernel
theorem d_M_hide_61 : decode b_M_hide 61 = .ok (.imul, 1) := by decide +kernel
theorem d_M_hide_62 : decode b_M_hide 62 = .ok (.iload_n 2, 1) := by decide +kernel
theorem d_M_hide_63 : decode b_M_hide 63 = .ok (.iadd, 1) := by decide +kernel
theorem d_M_hide_64 : decode b_M_hide 64 = .ok (.lload_n 3, 1) := by decide +kernel
theorem d_M_hide_65 : decode b_M_hide 65 = .ok (.lastore, 1) := by decide +kernel
theorem d_M_hide_66 : decode b_M_hide 66 = .ok (.iconst 1, 1) := by decide +kernel
theorem d_M_hide_67 : decode b_M_hide 67 = .ok (.ireturn, 1) := by decide +kernel
theorem d_M_reveal_0 : decode b_M_reveal 0 = .ok (.aload_n 0, 1) := by decide +kernel
theorem d_M_reveal_1 : decode b_M_reveal 1 = .ok (.iload_n 1, 1) := by decide +kernel
theorem d_M_reveal_2 : decode b_M_reveal 2 = .ok (.invokevirtual 173, 3) := by decide +kernel
theorem d_M_reveal_5 : decode b_M_reveal 5 = .ok (.ifCond .eq 11, 3) := by decide +kernel
theorem d_M_reveal_8 : decode b_M_reveal 8 = .ok (.aload_n 0, 1) := by decide +kernel
theorem d_M_reveal_9 : decode b_M_reveal 9 = .ok (.iload_n 2, 1) := by decide +kernel
theorem d_M_reveal_10 : decode b_M_reveal 10 = .ok (.invokevirtual 143, 3) := by decide +kernel
theorem d_M_reveal_13 : decode b_M_reveal 13 = .ok (.ifCond .ne 5, 3) := by decide +kernel
theorem d_M_reveal_16 : decode b_M_reveal 16 = .ok (.iconst (-1), 1) := by decide +kernel
theorem d_M_reveal_17 : decode b_M_reveal 17 = .ok (.ireturn, 1) := by decide +kernel
theorem d_M_reveal_18 : decode b_M_reveal 18 = .ok (.aload_n 0, 1) := by decide +kernel
theorem d_M_reveal_19 : decode b_M_reveal 19 = .ok (.iload_n 1, 1) := by decide +kernel
theorem d_M_reveal_20 : decode b_M_reveal 20 = .ok (.iload_n 2, 1) := by decide +kernel
theorem d_M_reveal_21 : decode b_M_reveal 21 = .ok (.iload_n 3, 1) := by decide +kernel
theorem d_M_reveal_22 : decode b_M_reveal 22 = .ok (.invokevirtual 180, 3) := by decide +kernel
theorem d_M_reveal_25 : decode b_M_reveal 25 = .ok (.ifCond .ne 6, 3) := by decide +kernel
theorem d_M_reveal_28 : decode b_M_reveal 28 = .ok (.bipush (-2), 2) := by decide +kernel
theorem d_M_reveal_30 : decode b_M_reveal 30 = .ok (.ireturn, 1) := by decide +kernel
theorem d_M_reveal_31 : decode b_M_reveal 31 = .ok (.bipush 8, 2) := by decide +kernel
theorem d_M_reveal_33 : decode b_M_reveal 33 = .ok (.iload_n 1, 1) := by decide +kernel
theorem d_M_reveal_34 : decode b_M_reveal 34 = .ok (.imul, 1) := by decide +kernel
theorem d_M_reveal_35 : decode b_M_reveal 35 = .ok (.iload_n 2, 1) := by decide +kernel
theorem d_M_reveal_36 : decode b_M_reveal 36 = .ok (.iadd, 1) := by decide +kernel
theorem d_M_reveal_37 : decode b_M_reveal 37 = .ok (.istore 5, 2) := by decide +kernel
theorem d_M_reveal_39 : decode b_M_reveal 39 = .ok (.aload_n 0, 1) := by decide +kernel
theorem d_M_reveal_40 : decode b_M_reveal 40 = .ok (.iload_n 1, 1) := by decide +kernel
theorem d_M_reveal_41 : decode b_M_reveal 41 = .ok (.invokevirtual 183, 3) := by decide +kernel
theorem d_M_reveal_44 : decode b_M_reveal 44 = .ok (.ifCond .eq 68, 3) := by decide +kernel
theorem d_M_reveal_47 : decode b_M_reveal 47 = .ok (.aload_n 0, 1) := by decide +kernel
theorem d_M_reveal_48 : decode b_M_reveal 48 = .ok (.getfield 156, 3) := by decide +kernel
theorem d_M_reveal_51 : decode b_M_reveal 51 = .ok (.aload_n 0, 1) := by decide +kernel
theorem d_M_reveal_52 : decode b_M_reveal 52 = .ok (.getfield 29, 3) := by decide +kernel
theorem d_M_reveal_55 : decode b_M_reveal 55 = .ok (.iload_n 1, 1) := by decide +kernel
theorem d_M_reveal_56 : decode b_M_reveal 56 = .ok (.iaload, 1) := by decide +kernel
theorem d_M_reveal_57 : decode b_M_reveal 57 = .ok (.if_icmp .lt 55, 3) := by decide +kernel
theorem d_M_reveal_60 : decode b_M_reveal 60 = .ok (.aload_n 0, 1) := by decide +kernel
theorem d_M_reveal_61 : decode b_M_reveal 61 = .ok (.getfield 156, 3) := by decide +kernel
theorem d_M_reveal_64 : decode b_M_reveal 64 = .ok (.aload_n 0, 1) := by decide +kernel
theorem d_M_reveal_65 : decode b_M_reveal 65 = .ok (.getfield 32, 3) := by decide +kernel
theorem d_M_reveal_68 : decode b_M_reveal 68 = .ok (.iload_n 1, 1) := by decide +kernel
theorem d_M_reveal_69 : decode b_M_reveal 69 = .ok (.iaload, 1) := by decide +kernel
theorem d_M_reveal_70 : decode b_M_reveal 70 = .ok (.if_icmp .ge 42, 3) := by decide +kernel
theorem d_M_reveal_73 : decode b_M_reveal 73 = .ok (.aload_n 0, 1) := by decide +kernel
theorem d_M_reveal_74 : decode b_M_reveal 74 = .ok (.getfield 57, 3) := by decide +kernel
theorem d_M_reveal_77 : decode b_M_reveal 77 = .ok (.iload 5, 2) := by decide +kernel
theorem d_M_reveal_79 : decode b_M_reveal 79 = .ok (.baload, 1) := by decide +kernel
theorem d_M_reveal_80 : decode b_M_reveal 80 = .ok (.ifCond .ne 32, 3) := by decide +kernel
theorem d_M_reveal_83 : decode b_M_reveal 83 = .ok (.aload_n 0, 1) := by decide +kernel
theorem d_M_reveal_84 : decode b_M_reveal 84 = .ok (.getfield 63, 3) := by decide +kernel
theorem d_M_reveal_87 : decode b_M_reveal 87 = .ok (.iload 5, 2) := by decide +kernel
theorem d_M_reveal_89 : decode b_M_reveal 89 = .ok (.baload, 1) := by decide +kernel
theorem d_M_reveal_90 : decode b_M_reveal 90 = .ok (.ifCond .eq 22, 3) := by decide +kernel
theorem d_M_reveal_93 : decode b_M_reveal 93 = .ok (.aload_n 0, 1) := by decide +kernel
theorem d_M_reveal_94 : decode b_M_reveal 94 = .ok (.getfield 66, 3) := by decide +kernel
theorem d_M_reveal_97 : decode b_M_reveal 97 = .ok (.iload 5, 2) := by decide +kernel
theorem d_M_reveal_99 : decode b_M_reveal 99 = .ok (.laload, 1) := by decide +kernel
theorem d_M_reveal_100 : decode b_M_reveal 100 = .ok (.aload_n 0, 1) := by decide +kernel
theorem d_M_reveal_101 : decode b_M_reveal 101 = .ok (.iload_n 2, 1) := by decide +kernel
theorem d_M_reveal_102 : decode b_M_reveal 102 = .ok (.iload_n 3, 1) := by decide +kernel
theorem d_M_reveal_103 : decode b_M_reveal 103 = .ok (.iload 4, 2) := by decide +kernel
theorem d_M_reveal_105 : decode b_M_reveal 105 = .ok (.invokevirtual 186, 3) := by decide +kernel
theorem d_M_reveal_108 : decode b_M_reveal 108 = .ok (.lcmp, 1) := by decide +kernel
theorem d_M_reveal_109 : decode b_M_reveal 109 = .ok (.ifCond .eq 6, 3) := by decide +kernel
theorem d_M_reveal_112 : decode b_M_reveal 112 = .ok (.bipush (-3), 2) := by decide +kernel
theorem d_M_reveal_114 : decode b_M_reveal 114 = .ok (.ireturn, 1) := by decide +kernel
theorem d_M_reveal_115 : decode b_M_reveal 115 = .ok (.aload_n 0, 1) := by decide +kernel
theorem d_M_reveal_116 : decode b_M_reveal 116 = .ok (.getfield 57, 3) := by decide +kernel
theorem d_M_reveal_119 : decode b_M_reveal 119 = .ok (.iload 5, 2) := by decide +kernel
theorem d_M_reveal_121 : decode b_M_reveal 121 = .ok (.iconst 1, 1) := by decide +kernel
theorem d_M_reveal_122 : decode b_M_reveal 122 = .ok (.bastore, 1) := by decide +kernel
theorem d_M_reveal_123 : decode b_M_reveal 123 = .ok (.aload_n 0, 1) := by decide +kernel
theorem d_M_reveal_124 : decode b_M_reveal 124 = .ok (.getfield 60, 3) := by decide +kernel
theorem d_M_reveal_127 : decode b_M_reveal 127 = .ok (.iload 5, 2) := by decide +kernel
theorem d_M_reveal_129 : decode b_M_reveal 129 = .ok (.iload_n 3, 1) := by decide +kernel
theorem d_M_reveal_130 : decode b_M_reveal 130 = .ok (.iastore, 1) := by decide +kernel
theorem d_M_reveal_131 : decode b_M_reveal 131 = .ok (.iconst 1, 1) := by decide +kernel
theorem d_M_reveal_132 : decode b_M_reveal 132 = .ok (.ireturn, 1) := by decide +kernel
theorem d_M_speakerOf_0 : decode b_M_speakerOf 0 = .ok (.aload_n 0, 1) := by decide +kernel
theorem d_M_speakerOf_1 : decode b_M_speakerOf 1 = .ok (.getfield 156, 3) := by decide +kernel
theorem d_M_speakerOf_4 : decode b_M_speakerOf 4 = .ok (.aload_n 0, 1) := by decide +kernel
theorem d_M_speakerOf_5 : decode b_M_speakerOf 5 = .ok (.getfield 32, 3) := by decide +kernel
theorem d_M_speakerOf_8 : decode b_M_speakerOf 8 = .ok (.iload_n 1, 1) := by decide +kernel
theorem d_M_speakerOf_9 : decode b_M_speakerOf 9 = .ok (.iaload, 1) := by decide +kernel
theorem d_M_speakerOf_10 : decode b_M_speakerOf 10 = .ok (.if_icmp .lt 17, 3) := by decide +kernel
theorem d_M_speakerOf_13 : decode b_M_speakerOf 13 = .ok (.aload_n 0, 1) := by decide +kernel
theorem d_M_speakerOf_14 : decode b_M_speakerOf 14 = .ok (.getfield 69, 3) := by decide +kernel
theorem d_M_speakerOf_17 : decode b_M_speakerOf 17 = .ok (.bipush 8, 2) := by decide +kernel
theorem d_M_speakerOf_19 : decode b_M_speakerOf 19 = .ok (.iload_n 1, 1) := by decide +kernel
theorem d_M_speakerOf_20 : decode b_M_speakerOf 20 = .ok (.imul, 1) := by decide +kernel
theorem d_M_speakerOf_21 : decode b_M_speakerOf 21 = .ok (.iload_n 2, 1) := by decide +kernel
theorem d_M_speakerOf_22 : decode b_M_speakerOf 22 = .ok (.iadd, 1) := by decide +kernel
theorem d_M_speakerOf_23 : decode b_M_speakerOf 23 = .ok (.iaload, 1) := by decide +kernel
theorem d_M_speakerOf_24 : decode b_M_speakerOf 24 = .ok (.goto 9, 3) := by decide +kernel
theorem d_M_speakerOf_27 : decode b_M_speakerOf 27 = .ok (.aload_n 0, 1) := by decide +kernel
theorem d_M_speakerOf_28 : decode b_M_speakerOf 28 = .ok (.getfield 20, 3) := by decide +kernel
theorem d_M_speakerOf_31 : decode b_M_speakerOf 31 = .ok (.iload_n 2, 1) := by decide +kernel
theorem d_M_speakerOf_32 : decode b_M_speakerOf 32 = .ok (.iaload, 1) := by decide +kernel
theorem d_M_speakerOf_33 : decode b_M_speakerOf 33 = .ok (.ireturn, 1) := by decide +kernel
theorem d_M_findVoices_0 : decode b_M_findVoices 0 = .ok (.iconst 0, 1) := by decide +kernel
theorem d_M_findVoices_1 : decode b_M_findVoices 1 = .ok (.istore_n 2, 1) := by decide +kernel
theorem d_M_findVoices_2 : decode b_M_findVoices 2 = .ok (.iload_n 2, 1) := by decide +kernel
theorem d_M_findVoices_3 : decode b_M_findVoices 3 = .ok (.bipush 8, 2) := by decide +kernel
theorem d_M_findVoices_5 : decode b_M_findVoices 5 = .ok (.if_icmp .ge 42, 3) := by decide +kernel
theorem d_M_findVoices_8 : decode b_M_findVoices 8 = .ok (.aload_n 0, 1) := by decide +kernel
theorem d_M_findVoices_9 : decode b_M_findVoices 9 = .ok (.getfield 117, 3) := by decide +kernel
theorem d_M_findVoices_12 : decode b_M_findVoices 12 = .ok (.iload_n 2, 1) := by decide +kernel
theorem d_M_findVoices_13 : decode b_M_findVoices 13 = .ok (.iload_n 2, 1) := by decide +kernel
theorem d_M_findVoices_14 : decode b_M_findVoices 14 = .ok (.aload_n 0, 1) := by decide +kernel
theorem d_M_findVoices_15 : decode b_M_findVoices 15 = .ok (.getfield 136, 3) := by decide +kernel
theorem d_M_findVoices_18 : decode b_M_findVoices 18 = .ok (.if_icmp .ge 21, 3) := by decide +kernel
theorem d_M_findVoices_21 : decode b_M_findVoices 21 = .ok (.aload_n 0, 1) := by decide +kernel
theorem d_M_findVoices_22 : decode b_M_findVoices 22 = .ok (.getfield 57, 3) := by decide +kernel
theorem d_M_findVoices_25 : decode b_M_findVoices 25 = .ok (.bipush 8, 2) := by decide +kernel
theorem d_M_findVoices_27 : decode b_M_findVoices 27 = .ok (.iload_n 1, 1) := by decide +kernel
theorem d_M_findVoices_28 : decode b_M_findVoices 28 = .ok (.imul, 1) := by decide +kernel
theorem d_M_findVoices_29 : decode b_M_findVoices 29 = .ok (.iload_n 2, 1) := by decide +kernel
theorem d_M_findVoices_30 : decode b_M_findVoices 30 = .ok (.iadd, 1) := by decide +kernel
theorem d_M_findVoices_31 : decode b_M_findVoices 31 = .ok (.baload, 1) := by decide +kernel
theorem d_M_findVoices_32 : decode b_M_findVoices 32 = .ok (.ifCond .eq 7, 3) := by decide +kernel
theorem d_M_findVoices_35 : decode b_M_findVoices 35 = .ok (.iload_n 2, 1) := by decide +kernel
theorem d_M_findVoices_36 : decode b_M_findVoices 36 = .ok (.goto 4, 3) := by decide +kernel
theorem d_M_findVoices_39 : decode b_M_findVoices 39 = .ok (.iconst (-1), 1) := by decide +kernel
theorem d_M_findVoices_40 : decode b_M_findVoices 40 = .ok (.iastore, 1) := by decide +kernel
theorem d_M_findVoices_41 : decode b_M_findVoices 41 = .ok (.iinc 2 1, 3) := by decide +kernel
theorem d_M_findVoices_44 : decode b_M_findVoices 44 = .ok (.goto (-42), 3) := by decide +kernel
theorem d_M_findVoices_47 : decode b_M_findVoices 47 = .ok (.iconst 0, 1) := by decide +kernel
theorem d_M_findVoices_48 : decode b_M_findVoices 48 = .ok (.istore_n 2, 1) := by decide +kernel
theorem d_M_findVoices_49 : decode b_M_findVoices 49 = .ok (.iload_n 2, 1) := by decide +kernel
theorem d_M_findVoices_50 : decode b_M_findVoices 50 = .ok (.bipush 8, 2) := by decide +kernel
theorem d_M_findVoices_52 : decode b_M_findVoices 52 = .ok (.if_icmp .ge 98, 3) := by decide +kernel
theorem d_M_findVoices_55 : decode b_M_findVoices 55 = .ok (.aload_n 0, 1) := by decide +kernel
theorem d_M_findVoices_56 : decode b_M_findVoices 56 = .ok (.getfield 23, 3) := by decide +kernel
theorem d_M_findVoices_59 : decode b_M_findVoices 59 = .ok (.iload_n 1, 1) := by decide +kernel
theorem d_M_findVoices_60 : decode b_M_findVoices 60 = .ok (.iaload, 1) := by decide +kernel
theorem d_M_findVoices_61 : decode b_M_findVoices 61 = .ok (.iconst 3, 1) := by decide +kernel
theorem d_M_findVoices_62 : decode b_M_findVoices 62 = .ok (.if_icmp .eq 88, 3) := by decide +kernel
theorem d_M_findVoices_65 : decode b_M_findVoices 65 = .ok (.iconst 0, 1) := by decide +kernel
theorem d_M_findVoices_66 : decode b_M_findVoices 66 = .ok (.istore_n 3, 1) := by decide +kernel
theorem d_M_findVoices_67 : decode b_M_findVoices 67 = .ok (.iload_n 3, 1) := by decide +kernel
theorem d_M_findVoices_68 : decode b_M_findVoices 68 = .ok (.aload_n 0, 1) := by decide +kernel
theorem d_M_findVoices_69 : decode b_M_findVoices 69 = .ok (.getfield 136, 3) := by decide +kernel
theorem d_M_findVoices_72 : decode b_M_findVoices 72 = .ok (.if_icmp .ge 44, 3) := by decide +kernel
theorem d_M_findVoices_75 : decode b_M_findVoices 75 = .ok (.aload_n 0, 1) := by decide +kernel
theorem d_M_findVoices_76 : decode b_M_findVoices 76 = .ok (.getfield 120, 3) := by decide +kernel
theorem d_M_findVoices_79 : decode b_M_findVoices 79 = .ok (.iload_n 3, 1) := by decide +kernel
theorem d_M_findVoices_80 : decode b_M_findVoices 80 = .ok (.aload_n 0, 1) := by decide +kernel
theorem d_M_findVoices_81 : decode b_M_findVoices 81 = .ok (.getfield 117, 3) := by decide +kernel
theorem d_M_findVoices_84 : decode b_M_findVoices 84 = .ok (.iload_n 3, 1) := by decide +kernel
theorem d_M_findVoices_85 : decode b_M_findVoices 85 = .ok (.iaload, 1) := by decide +kernel
theorem d_M_findVoices_86 : decode b_M_findVoices 86 = .ok (.ifCond .ge 17, 3) := by decide +kernel
theorem d_M_findVoices_89 : decode b_M_findVoices 89 = .ok (.aload_n 0, 1) := by decide +kernel
theorem d_M_findVoices_90 : decode b_M_findVoices 90 = .ok (.getfield 117, 3) := by decide +kernel
theorem d_M_findVoices_93 : decode b_M_findVoices 93 = .ok (.aload_n 0, 1) := by decide +kernel
theorem d_M_findVoices_94 : decode b_M_findVoices 94 = .ok (.iload_n 1, 1) := by decide +kernel
theorem d_M_findVoices_95 : decode b_M_findVoices 95 = .ok (.iload_n 3, 1) := by decide +kernel
theorem d_M_findVoices_96 : decode b_M_findVoices 96 = .ok (.invokevirtual 190, 3) := by decide +kernel
theorem d_M_findVoices_99 : decode b_M_findVoices 99 = .ok (.iaload, 1) := by decide +kernel
theorem d_M_findVoices_100 : decode b_M_findVoices 100 = .ok (.goto 9, 3) := by decide +kernel
theorem d_M_findVoices_103 : decode b_M_findVoices 103 = .ok (.aload_n 0, 1) := by decide +kernel
theorem d_M_findVoices_104 : decode b_M_findVoices 104 = .ok (.getfield 117, 3) := by decide +kernel
theorem d_M_findVoices_107 : decode b_M_findVoices 107 = .ok (.iload_n 3, 1) := by decide +kernel
theorem d_M_findVoices_108 : decode b_M_findVoices 108 = .ok (.iaload, 1) := by decide +kernel
theorem d_M_findVoices_109 : decode b_M_findVoices 109 = .ok (.iastore, 1) := by decide +kernel
theorem d_M_findVoices_110 : decode b_M_findVoices 110 = .ok (.iinc 3 1, 3) := by decide +kernel
theorem d_M_findVoices_113 : decode b_M_findVoices 113 = .ok (.goto (-46), 3) := by decide +kernel
theorem d_M_findVoices_116 : decode b_M_findVoices 116 = .ok (.iconst 0, 1) := by decide +kernel
theorem d_M_findVoices_117 : decode b_M_findVoices 117 = .ok (.istore_n 3, 1) := by decide +kernel
theorem d_M_findVoices_118 : decode b_M_findVoices 118 = .ok (.iload_n 3, 1) := by decide +kernel
theorem d_M_findVoices_119 : decode b_M_findVoices 119 = .ok (.aload_n 0, 1) := by decide +kernel
theorem d_M_findVoices_120 : decode b_M_findVoices 120 = .ok (.getfield 136, 3) := by decide +kernel
theorem d_M_findVoices_123 : decode b_M_findVoices 123 = .ok (.if_icmp .ge 21, 3) := by decide +kernel
theorem d_M_findVoices_126 : decode b_M_findVoices 126 = .ok (.aload_n 0, 1) := by decide +kernel
theorem d_M_findVoices_127 : decode b_M_findVoices 127 = .ok (.getfield 117, 3) := by decide +kernel
theorem d_M_findVoices_130 : decode b_M_findVoices 130 = .ok (.iload_n 3, 1) := by decide +kernel
theorem d_M_findVoices_131 : decode b_M_findVoices 131 = .ok (.aload_n 0, 1) := by decide +kernel
theorem d_M_findVoices_132 : decode b_M_findVoices 132 = .ok (.getfield 120, 3) := by decide +kernel
theorem d_M_findVoices_135 : decode b_M_findVoices 135 = .ok (.iload_n 3, 1) := by decide +kernel
theorem d_M_findVoices_136 : decode b_M_findVoices 136 = .ok (.iaload, 1) := by decide +kernel
theorem d_M_findVoices_137 : decode b_M_findVoices 137 = .ok (.iastore, 1) := by decide +kernel
theorem d_M_findVoices_138 : decode b_M_findVoices 138 = .ok (.iinc 3 1, 3) := by decide +kernel
theorem d_M_findVoices_141 : decode b_M_findVoices 141 = .ok (.goto (-23), 3) := by decide +kernel
theorem d_M_findVoices_144 : decode b_M_findVoices 144 = .ok (.iinc 2 1, 3) := by decide +kernel
theorem d_M_findVoices_147 : decode b_M_findVoices 147 = .ok (.goto (-98), 3) := by decide +kernel
theorem d_M_findVoices_150 : decode b_M_findVoices 150 = .ok (.return_, 1) := by decide +kernel
