theorem d_V_bid_0 : decode b_V_bid 0 = .ok (.aload_n 0, 1) := by decide +kernel
theorem d_V_bid_1 : decode b_V_bid 1 = .ok (.iload_n 1, 1) := by decide +kernel
theorem d_V_bid_2 : decode b_V_bid 2 = .ok (.invokevirtual 164, 3) := by decide +kernel
theorem d_V_bid_5 : decode b_V_bid 5 = .ok (.astore 5, 2) := by decide +kernel
theorem d_V_bid_7 : decode b_V_bid 7 = .ok (.aload 5, 2) := by decide +kernel
theorem d_V_bid_9 : decode b_V_bid 9 = .ok (.ifnull 11, 3) := by decide +kernel
theorem d_V_bid_12 : decode b_V_bid 12 = .ok (.aload_n 0, 1) := by decide +kernel
theorem d_V_bid_13 : decode b_V_bid 13 = .ok (.iload_n 2, 1) := by decide +kernel
theorem d_V_bid_14 : decode b_V_bid 14 = .ok (.invokevirtual 53, 3) := by decide +kernel
theorem d_V_bid_17 : decode b_V_bid 17 = .ok (.ifCond .eq 5, 3) := by decide +kernel
theorem d_V_bid_20 : decode b_V_bid 20 = .ok (.iconst (-1), 1) := by decide +kernel
theorem d_V_bid_21 : decode b_V_bid 21 = .ok (.ireturn, 1) := by decide +kernel
theorem d_V_bid_22 : decode b_V_bid 22 = .ok (.iload_n 3, 1) := by decide +kernel
theorem d_V_bid_23 : decode b_V_bid 23 = .ok (.iconst 1, 1) := by decide +kernel
theorem d_V_bid_24 : decode b_V_bid 24 = .ok (.aload 5, 2) := by decide +kernel
theorem d_V_bid_26 : decode b_V_bid 26 = .ok (.getfield 168, 3) := by decide +kernel
theorem d_V_bid_29 : decode b_V_bid 29 = .ok (.invokestatic 44, 3) := by decide +kernel
theorem d_V_bid_32 : decode b_V_bid 32 = .ok (.ifCond .ne 18, 3) := by decide +kernel
theorem d_V_bid_35 : decode b_V_bid 35 = .ok (.iload 4, 2) := by decide +kernel
theorem d_V_bid_37 : decode b_V_bid 37 = .ok (.aload 5, 2) := by decide +kernel
theorem d_V_bid_39 : decode b_V_bid 39 = .ok (.getfield 171, 3) := by decide +kernel
theorem d_V_bid_42 : decode b_V_bid 42 = .ok (.ldc 48, 2) := by decide +kernel
theorem d_V_bid_44 : decode b_V_bid 44 = .ok (.invokestatic 44, 3) := by decide +kernel
theorem d_V_bid_47 : decode b_V_bid 47 = .ok (.ifCond .eq 6, 3) := by decide +kernel
theorem d_V_bid_50 : decode b_V_bid 50 = .ok (.bipush (-2), 2) := by decide +kernel
theorem d_V_bid_52 : decode b_V_bid 52 = .ok (.ireturn, 1) := by decide +kernel
theorem d_V_bid_53 : decode b_V_bid 53 = .ok (.aload 5, 2) := by decide +kernel
theorem d_V_bid_55 : decode b_V_bid 55 = .ok (.getfield 174, 3) := by decide +kernel
theorem d_V_bid_58 : decode b_V_bid 58 = .ok (.ifCond .eq 12, 3) := by decide +kernel
theorem d_V_bid_61 : decode b_V_bid 61 = .ok (.aload 5, 2) := by decide +kernel
theorem d_V_bid_63 : decode b_V_bid 63 = .ok (.getfield 174, 3) := by decide +kernel
theorem d_V_bid_66 : decode b_V_bid 66 = .ok (.iconst 4, 1) := by decide +kernel
theorem d_V_bid_67 : decode b_V_bid 67 = .ok (.if_icmp .ne 48, 3) := by decide +kernel
theorem d_V_bid_70 : decode b_V_bid 70 = .ok (.aload_n 0, 1) := by decide +kernel
theorem d_V_bid_71 : decode b_V_bid 71 = .ok (.getfield 66, 3) := by decide +kernel
theorem d_V_bid_74 : decode b_V_bid 74 = .ok (.aload 5, 2) := by decide +kernel
theorem d_V_bid_76 : decode b_V_bid 76 = .ok (.getfield 175, 3) := by decide +kernel
theorem d_V_bid_79 : decode b_V_bid 79 = .ok (.if_icmp .ge 36, 3) := by decide +kernel
theorem d_V_bid_82 : decode b_V_bid 82 = .ok (.aload 5, 2) := by decide +kernel
theorem d_V_bid_84 : decode b_V_bid 84 = .ok (.iload 4, 2) := by decide +kernel
theorem d_V_bid_86 : decode b_V_bid 86 = .ok (.invokestatic 176, 3) := by decide +kernel
theorem d_V_bid_89 : decode b_V_bid 89 = .ok (.ifCond .ne 26, 3) := by decide +kernel
theorem d_V_bid_92 : decode b_V_bid 92 = .ok (.aload_n 0, 1) := by decide +kernel
theorem d_V_bid_93 : decode b_V_bid 93 = .ok (.getfield 13, 3) := by decide +kernel
theorem d_V_bid_96 : decode b_V_bid 96 = .ok (.iload_n 2, 1) := by decide +kernel
theorem d_V_bid_97 : decode b_V_bid 97 = .ok (.laload, 1) := by decide +kernel
theorem d_V_bid_98 : decode b_V_bid 98 = .ok (.aload 5, 2) := by decide +kernel
theorem d_V_bid_100 : decode b_V_bid 100 = .ok (.iload_n 2, 1) := by decide +kernel
theorem d_V_bid_101 : decode b_V_bid 101 = .ok (.invokevirtual 180, 3) := by decide +kernel
theorem d_V_bid_104 : decode b_V_bid 104 = .ok (.ladd, 1) := by decide +kernel
theorem d_V_bid_105 : decode b_V_bid 105 = .ok (.iload_n 3, 1) := by decide +kernel
theorem d_V_bid_106 : decode b_V_bid 106 = .ok (.i2l, 1) := by decide +kernel
theorem d_V_bid_107 : decode b_V_bid 107 = .ok (.iload 4, 2) := by decide +kernel
theorem d_V_bid_109 : decode b_V_bid 109 = .ok (.i2l, 1) := by decide +kernel
theorem d_V_bid_110 : decode b_V_bid 110 = .ok (.lmul, 1) := by decide +kernel
theorem d_V_bid_111 : decode b_V_bid 111 = .ok (.lcmp, 1) := by decide +kernel
theorem d_V_bid_112 : decode b_V_bid 112 = .ok (.ifCond .ge 6, 3) := by decide +kernel
theorem d_V_bid_115 : decode b_V_bid 115 = .ok (.bipush (-3), 2) := by decide +kernel
theorem d_V_bid_117 : decode b_V_bid 117 = .ok (.ireturn, 1) := by decide +kernel
theorem d_V_bid_118 : decode b_V_bid 118 = .ok (.aload 5, 2) := by decide +kernel
theorem d_V_bid_120 : decode b_V_bid 120 = .ok (.getfield 174, 3) := by decide +kernel
theorem d_V_bid_123 : decode b_V_bid 123 = .ok (.ifCond .ne 27, 3) := by decide +kernel
theorem d_V_bid_126 : decode b_V_bid 126 = .ok (.aload_n 0, 1) := by decide +kernel
theorem d_V_bid_127 : decode b_V_bid 127 = .ok (.aload 5, 2) := by decide +kernel
theorem d_V_bid_129 : decode b_V_bid 129 = .ok (.aload 5, 2) := by decide +kernel
theorem d_V_bid_131 : decode b_V_bid 131 = .ok (.getfield 184, 3) := by decide +kernel
theorem d_V_bid_134 : decode b_V_bid 134 = .ok (.invokevirtual 187, 3) := by decide +kernel
theorem d_V_bid_137 : decode b_V_bid 137 = .ok (.aload 5, 2) := by decide +kernel
theorem d_V_bid_139 : decode b_V_bid 139 = .ok (.iload_n 2, 1) := by decide +kernel
theorem d_V_bid_140 : decode b_V_bid 140 = .ok (.putfield 184, 3) := by decide +kernel
theorem d_V_bid_143 : decode b_V_bid 143 = .ok (.aload 5, 2) := by decide +kernel
theorem d_V_bid_145 : decode b_V_bid 145 = .ok (.iload 4, 2) := by decide +kernel
theorem d_V_bid_147 : decode b_V_bid 147 = .ok (.putfield 191, 3) := by decide +kernel
theorem d_V_bid_150 : decode b_V_bid 150 = .ok (.aload_n 0, 1) := by decide +kernel
theorem d_V_bid_151 : decode b_V_bid 151 = .ok (.aload 5, 2) := by decide +kernel
theorem d_V_bid_153 : decode b_V_bid 153 = .ok (.iload_n 2, 1) := by decide +kernel
theorem d_V_bid_154 : decode b_V_bid 154 = .ok (.invokevirtual 187, 3) := by decide +kernel
theorem d_V_bid_157 : decode b_V_bid 157 = .ok (.aload 5, 2) := by decide +kernel
theorem d_V_bid_159 : decode b_V_bid 159 = .ok (.iload_n 2, 1) := by decide +kernel
theorem d_V_bid_160 : decode b_V_bid 160 = .ok (.invokevirtual 194, 3) := by decide +kernel
theorem d_V_bid_163 : decode b_V_bid 163 = .ok (.aload 5, 2) := by decide +kernel
theorem d_V_bid_165 : decode b_V_bid 165 = .ok (.getfield 198, 3) := by decide +kernel
theorem d_V_bid_168 : decode b_V_bid 168 = .ok (.iload_n 2, 1) := by decide +kernel
theorem d_V_bid_169 : decode b_V_bid 169 = .ok (.iload_n 3, 1) := by decide +kernel
theorem d_V_bid_170 : decode b_V_bid 170 = .ok (.iastore, 1) := by decide +kernel
theorem d_V_bid_171 : decode b_V_bid 171 = .ok (.aload 5, 2) := by decide +kernel
theorem d_V_bid_173 : decode b_V_bid 173 = .ok (.getfield 201, 3) := by decide +kernel
theorem d_V_bid_176 : decode b_V_bid 176 = .ok (.iload_n 2, 1) := by decide +kernel
theorem d_V_bid_177 : decode b_V_bid 177 = .ok (.iload 4, 2) := by decide +kernel
theorem d_V_bid_179 : decode b_V_bid 179 = .ok (.iastore, 1) := by decide +kernel
theorem d_V_bid_180 : decode b_V_bid 180 = .ok (.aload_n 0, 1) := by decide +kernel
theorem d_V_bid_181 : decode b_V_bid 181 = .ok (.iload_n 2, 1) := by decide +kernel
theorem d_V_bid_182 : decode b_V_bid 182 = .ok (.aload 5, 2) := by decide +kernel
theorem d_V_bid_184 : decode b_V_bid 184 = .ok (.iload_n 2, 1) := by decide +kernel
theorem d_V_bid_185 : decode b_V_bid 185 = .ok (.invokevirtual 180, 3) := by decide +kernel
theorem d_V_bid_188 : decode b_V_bid 188 = .ok (.invokevirtual 204, 3) := by decide +kernel
theorem d_V_bid_191 : decode b_V_bid 191 = .ok (.iconst 1, 1) := by decide +kernel
theorem d_V_bid_192 : decode b_V_bid 192 = .ok (.ireturn, 1) := by decide +kernel
theorem d_V_seal_0 : decode b_V_seal 0 = .ok (.aload_n 0, 1) := by decide +kernel
theorem d_V_seal_1 : decode b_V_seal 1 = .ok (.iload_n 1, 1) := by decide +kernel
theorem d_V_seal_2 : decode b_V_seal 2 = .ok (.invokevirtual 164, 3) := by decide +kernel
theorem d_V_seal_5 : decode b_V_seal 5 = .ok (.astore 5, 2) := by decide +kernel
theorem d_V_seal_7 : decode b_V_seal 7 = .ok (.aload 5, 2) := by decide +kernel
theorem d_V_seal_9 : decode b_V_seal 9 = .ok (.ifnull 11, 3) := by decide +kernel
theorem d_V_seal_12 : decode b_V_seal 12 = .ok (.aload_n 0, 1) := by decide +kernel
theorem d_V_seal_13 : decode b_V_seal 13 = .ok (.iload_n 2, 1) := by decide +kernel
theorem d_V_seal_14 : decode b_V_seal 14 = .ok (.invokevirtual 53, 3) := by decide +kernel
theorem d_V_seal_17 : decode b_V_seal 17 = .ok (.ifCond .eq 5, 3) := by decide +kernel
theorem d_V_seal_20 : decode b_V_seal 20 = .ok (.iconst (-1), 1) := by decide +kernel
theorem d_V_seal_21 : decode b_V_seal 21 = .ok (.ireturn, 1) := by decide +kernel
theorem d_V_seal_22 : decode b_V_seal 22 = .ok (.aload 5, 2) := by decide +kernel
theorem d_V_seal_24 : decode b_V_seal 24 = .ok (.getfield 208, 3) := by decide +kernel
theorem d_V_seal_27 : decode b_V_seal 27 = .ok (.iload_n 2, 1) := by decide +kernel
theorem d_V_seal_28 : decode b_V_seal 28 = .ok (.iaload, 1) := by decide +kernel
theorem d_V_seal_29 : decode b_V_seal 29 = .ok (.ifCond .ne 7, 3) := by decide +kernel
theorem d_V_seal_32 : decode b_V_seal 32 = .ok (.iconst 1, 1) := by decide +kernel
theorem d_V_seal_33 : decode b_V_seal 33 = .ok (.goto 4, 3) := by decide +kernel
theorem d_V_seal_36 : decode b_V_seal 36 = .ok (.iconst 0, 1) := by decide +kernel
theorem d_V_seal_37 : decode b_V_seal 37 = .ok (.istore 6, 2) := by decide +kernel
theorem d_V_seal_39 : decode b_V_seal 39 = .ok (.aload 5, 2) := by decide +kernel
theorem d_V_seal_41 : decode b_V_seal 41 = .ok (.invokevirtual 211, 3) := by decide +kernel
theorem d_V_seal_44 : decode b_V_seal 44 = .ok (.ifCond .eq 36, 3) := by decide +kernel
theorem d_V_seal_47 : decode b_V_seal 47 = .ok (.aload_n 0, 1) := by decide +kernel
theorem d_V_seal_48 : decode b_V_seal 48 = .ok (.getfield 66, 3) := by decide +kernel
theorem d_V_seal_51 : decode b_V_seal 51 = .ok (.aload 5, 2) := by decide +kernel
theorem d_V_seal_53 : decode b_V_seal 53 = .ok (.getfield 214, 3) := by decide +kernel
theorem d_V_seal_56 : decode b_V_seal 56 = .ok (.if_icmp .ge 24, 3) := by decide +kernel
theorem d_V_seal_59 : decode b_V_seal 59 = .ok (.iload 6, 2) := by decide +kernel
theorem d_V_seal_61 : decode b_V_seal 61 = .ok (.ifCond .eq 22, 3) := by decide +kernel
theorem d_V_seal_64 : decode b_V_seal 64 = .ok (.aload_n 0, 1) := by decide +kernel
theorem d_V_seal_65 : decode b_V_seal 65 = .ok (.getfield 13, 3) := by decide +kernel
theorem d_V_seal_68 : decode b_V_seal 68 = .ok (.iload_n 2, 1) := by decide +kernel
theorem d_V_seal_69 : decode b_V_seal 69 = .ok (.laload, 1) := by decide +kernel
theorem d_V_seal_70 : decode b_V_seal 70 = .ok (.aload 5, 2) := by decide +kernel
theorem d_V_seal_72 : decode b_V_seal 72 = .ok (.getfield 171, 3) := by decide +kernel
theorem d_V_seal_75 : decode b_V_seal 75 = .ok (.i2l, 1) := by decide +kernel
theorem d_V_seal_76 : decode b_V_seal 76 = .ok (.lcmp, 1) := by decide +kernel
theorem d_V_seal_77 : decode b_V_seal 77 = .ok (.ifCond .ge 6, 3) := by decide +kernel
theorem d_V_seal_80 : decode b_V_seal 80 = .ok (.bipush (-3), 2) := by decide +kernel
theorem d_V_seal_82 : decode b_V_seal 82 = .ok (.ireturn, 1) := by decide +kernel
theorem d_V_seal_83 : decode b_V_seal 83 = .ok (.iload 6, 2) := by decide +kernel
theorem d_V_seal_85 : decode b_V_seal 85 = .ok (.ifCond .eq 14, 3) := by decide +kernel
theorem d_V_seal_88 : decode b_V_seal 88 = .ok (.aload_n 0, 1) := by decide +kernel
theorem d_V_seal_89 : decode b_V_seal 89 = .ok (.iload_n 2, 1) := by decide +kernel
theorem d_V_seal_90 : decode b_V_seal 90 = .ok (.aload 5, 2) := by decide +kernel
theorem d_V_seal_92 : decode b_V_seal 92 = .ok (.getfield 171, 3) := by decide +kernel
theorem d_V_seal_95 : decode b_V_seal 95 = .ok (.i2l, 1) := by decide +kernel
theorem d_V_seal_96 : decode b_V_seal 96 = .ok (.invokevirtual 204, 3) := by decide +kernel
theorem d_V_seal_99 : decode b_V_seal 99 = .ok (.aload 5, 2) := by decide +kernel
theorem d_V_seal_101 : decode b_V_seal 101 = .ok (.iload_n 2, 1) := by decide +kernel
theorem d_V_seal_102 : decode b_V_seal 102 = .ok (.invokevirtual 194, 3) := by decide +kernel
theorem d_V_seal_105 : decode b_V_seal 105 = .ok (.aload 5, 2) := by decide +kernel
theorem d_V_seal_107 : decode b_V_seal 107 = .ok (.getfield 215, 3) := by decide +kernel
theorem d_V_seal_110 : decode b_V_seal 110 = .ok (.iload_n 2, 1) := by decide +kernel
theorem d_V_seal_111 : decode b_V_seal 111 = .ok (.lload_n 3, 1) := by decide +kernel
theorem d_V_seal_112 : decode b_V_seal 112 = .ok (.lastore, 1) := by decide +kernel
theorem d_V_seal_113 : decode b_V_seal 113 = .ok (.iconst 1, 1) := by decide +kernel
theorem d_V_seal_114 : decode b_V_seal 114 = .ok (.ireturn, 1) := by decide +kernel
theorem d_V_unseal_0 : decode b_V_unseal 0 = .ok (.aload_n 0, 1) := by decide +kernel
theorem d_V_unseal_1 : decode b_V_unseal 1 = .ok (.iload_n 1, 1) := by decide +kernel
theorem d_V_unseal_2 : decode b_V_unseal 2 = .ok (.invokevirtual 164, 3) := by decide +kernel
theorem d_V_unseal_5 : decode b_V_unseal 5 = .ok (.astore 5, 2) := by decide +kernel
theorem d_V_unseal_7 : decode b_V_unseal 7 = .ok (.aload 5, 2) := by decide +kernel
theorem d_V_unseal_9 : decode b_V_unseal 9 = .ok (.ifnull 11, 3) := by decide +kernel
theorem d_V_unseal_12 : decode b_V_unseal 12 = .ok (.aload_n 0, 1) := by decide +kernel
theorem d_V_unseal_13 : decode b_V_unseal 13 = .ok (.iload_n 2, 1) := by decide +kernel
theorem d_V_unseal_14 : decode b_V_unseal 14 = .ok (.invokevirtual 53, 3) := by decide +kernel
theorem d_V_unseal_17 : decode b_V_unseal 17 = .ok (.ifCond .eq 5, 3) := by decide +kernel
theorem d_V_unseal_20 : decode b_V_unseal 20 = .ok (.iconst (-1), 1) := by decide +kernel
theorem d_V_unseal_21 : decode b_V_unseal 21 = .ok (.ireturn, 1) := by decide +kernel
theorem d_V_unseal_22 : decode b_V_unseal 22 = .ok (.iload_n 3, 1) := by decide +kernel
theorem d_V_unseal_23 : decode b_V_unseal 23 = .ok (.aload 5, 2) := by decide +kernel
theorem d_V_unseal_25 : decode b_V_unseal 25 = .ok (.getfield 171, 3) := by decide +kernel
theorem d_V_unseal_28 : decode b_V_unseal 28 = .ok (.ldc 48, 2) := by decide +kernel
theorem d_V_unseal_30 : decode b_V_unseal 30 = .ok (.invokestatic 44, 3) := by decide +kernel
theorem d_V_unseal_33 : decode b_V_unseal 33 = .ok (.ifCond .eq 6, 3) := by decide +kernel
theorem d_V_unseal_36 : decode b_V_unseal 36 = .ok (.bipush (-2), 2) := by decide +kernel
theorem d_V_unseal_38 : decode b_V_unseal 38 = .ok (.ireturn, 1) := by decide +kernel
theorem d_V_unseal_39 : decode b_V_unseal 39 = .ok (.aload 5, 2) := by decide +kernel
theorem d_V_unseal_41 : decode b_V_unseal 41 = .ok (.invokevirtual 211, 3) := by decide +kernel
theorem d_V_unseal_44 : decode b_V_unseal 44 = .ok (.ifCond .eq 27, 3) := by decide +kernel
theorem d_V_unseal_47 : decode b_V_unseal 47 = .ok (.aload_n 0, 1) := by decide +kernel
theorem d_V_unseal_48 : decode b_V_unseal 48 = .ok (.getfield 66, 3) := by decide +kernel
theorem d_V_unseal_51 : decode b_V_unseal 51 = .ok (.aload 5, 2) := by decide +kernel
theorem d_V_unseal_53 : decode b_V_unseal 53 = .ok (.getfield 214, 3) := by decide +kernel
theorem d_V_unseal_56 : decode b_V_unseal 56 = .ok (.if_icmp .lt 15, 3) := by decide +kernel
theorem d_V_unseal_59 : decode b_V_unseal 59 = .ok (.aload_n 0, 1) := by decide +kernel
theorem d_V_unseal_60 : decode b_V_unseal 60 = .ok (.getfield 66, 3) := by decide +kernel
theorem d_V_unseal_63 : decode b_V_unseal 63 = .ok (.aload 5, 2) := by decide +kernel
theorem d_V_unseal_65 : decode b_V_unseal 65 = .ok (.getfield 175, 3) := by decide +kernel
theorem d_V_unseal_68 : decode b_V_unseal 68 = .ok (.if_icmp .lt 6, 3) := by decide +kernel
theorem d_V_unseal_71 : decode b_V_unseal 71 = .ok (.bipush (-3), 2) := by decide +kernel
theorem d_V_unseal_73 : decode b_V_unseal 73 = .ok (.ireturn, 1) := by decide +kernel
theorem d_V_unseal_74 : decode b_V_unseal 74 = .ok (.aload 5, 2) := by decide +kernel
theorem d_V_unseal_76 : decode b_V_unseal 76 = .ok (.getfield 208, 3) := by decide +kernel
theorem d_V_unseal_79 : decode b_V_unseal 79 = .ok (.iload_n 2, 1) := by decide +kernel
theorem d_V_unseal_80 : decode b_V_unseal 80 = .ok (.iaload, 1) := by decide +kernel
theorem d_V_unseal_81 : decode b_V_unseal 81 = .ok (.ifCond .eq 51, 3) := by decide +kernel
theorem d_V_unseal_84 : decode b_V_unseal 84 = .ok (.aload 5, 2) := by decide +kernel
theorem d_V_unseal_86 : decode b_V_unseal 86 = .ok (.getfield 201, 3) := by decide +kernel
theorem d_V_unseal_89 : decode b_V_unseal 89 = .ok (.iload_n 2, 1) := by decide +kernel
theorem d_V_unseal_90 : decode b_V_unseal 90 = .ok (.iaload, 1) := by decide +kernel
theorem d_V_unseal_91 : decode b_V_unseal 91 = .ok (.ifCond .ne 41, 3) := by decide +kernel
theorem d_V_unseal_94 : decode b_V_unseal 94 = .ok (.aload 5, 2) := by decide +kernel
theorem d_V_unseal_96 : decode b_V_unseal 96 = .ok (.getfield 215, 3) := by decide +kernel
theorem d_V_unseal_99 : decode b_V_unseal 99 = .ok (.iload_n 2, 1) := by decide +kernel
theorem d_V_unseal_100 : decode b_V_unseal 100 = .ok (.laload, 1) := by decide +kernel
theorem d_V_unseal_101 : decode b_V_unseal 101 = .ok (.aload_n 0, 1) := by decide +kernel
theorem d_V_unseal_102 : decode b_V_unseal 102 = .ok (.iload_n 2, 1) := by decide +kernel
theorem d_V_unseal_103 : decode b_V_unseal 103 = .ok (.iload_n 3, 1) := by decide +kernel
theorem d_V_unseal_104 : decode b_V_unseal 104 = .ok (.iload 4, 2) := by decide +kernel
theorem d_V_unseal_106 : decode b_V_unseal 106 = .ok (.invokevirtual 129, 3) := by decide +kernel
theorem d_V_unseal_109 : decode b_V_unseal 109 = .ok (.lcmp, 1) := by decide +kernel
theorem d_V_unseal_110 : decode b_V_unseal 110 = .ok (.ifCond .ne 22, 3) := by decide +kernel
theorem d_V_unseal_113 : decode b_V_unseal 113 = .ok (.aload_n 0, 1) := by decide +kernel
theorem d_V_unseal_114 : decode b_V_unseal 114 = .ok (.getfield 13, 3) := by decide +kernel
theorem d_V_unseal_117 : decode b_V_unseal 117 = .ok (.iload_n 2, 1) := by decide +kernel
theorem d_V_unseal_118 : decode b_V_unseal 118 = .ok (.laload, 1) := by decide +kernel
theorem d_V_unseal_119 : decode b_V_unseal 119 = .ok (.aload 5, 2) := by decide +kernel
theorem d_V_unseal_121 : decode b_V_unseal 121 = .ok (.getfield 171, 3) := by decide +kernel
theorem d_V_unseal_124 : decode b_V_unseal 124 = .ok (.i2l, 1) := by decide +kernel
theorem d_V_unseal_125 : decode b_V_unseal 125 = .ok (.ladd, 1) := by decide +kernel
theorem d_V_unseal_126 : decode b_V_unseal 126 = .ok (.iload_n 3, 1) := by decide +kernel
theorem d_V_unseal_127 : decode b_V_unseal 127 = .ok (.i2l, 1) := by decide +kernel
theorem d_V_unseal_128 : decode b_V_unseal 128 = .ok (.lcmp, 1) := by decide +kernel
theorem d_V_unseal_129 : decode b_V_unseal 129 = .ok (.ifCond .ge 6, 3) := by decide +kernel
theorem d_V_unseal_132 : decode b_V_unseal 132 = .ok (.bipush (-3), 2) := by decide +kernel
theorem d_V_unseal_134 : decode b_V_unseal 134 = .ok (.ireturn, 1) := by decide +kernel
theorem d_V_unseal_135 : decode b_V_unseal 135 = .ok (.aload_n 0, 1) := by decide +kernel
theorem d_V_unseal_136 : decode b_V_unseal 136 = .ok (.iload_n 2, 1) := by decide +kernel
theorem d_V_unseal_137 : decode b_V_unseal 137 = .ok (.aload 5, 2) := by decide +kernel
theorem d_V_unseal_139 : decode b_V_unseal 139 = .ok (.getfield 171, 3) := by decide +kernel
theorem d_V_unseal_142 : decode b_V_unseal 142 = .ok (.i2l, 1) := by decide +kernel
theorem d_V_unseal_143 : decode b_V_unseal 143 = .ok (.invokevirtual 216, 3) := by decide +kernel
theorem d_V_unseal_146 : decode b_V_unseal 146 = .ok (.aload_n 0, 1) := by decide +kernel
theorem d_V_unseal_147 : decode b_V_unseal 147 = .ok (.iload_n 2, 1) := by decide +kernel
theorem d_V_unseal_148 : decode b_V_unseal 148 = .ok (.iload_n 3, 1) := by decide +kernel
theorem d_V_unseal_149 : decode b_V_unseal 149 = .ok (.i2l, 1) := by decide +kernel
theorem d_V_unseal_150 : decode b_V_unseal 150 = .ok (.invokevirtual 204, 3) := by decide +kernel
theorem d_V_unseal_153 : decode b_V_unseal 153 = .ok (.aload 5, 2) := by decide +kernel
theorem d_V_unseal_155 : decode b_V_unseal 155 = .ok (.getfield 198, 3) := by decide +kernel
theorem d_V_unseal_158 : decode b_V_unseal 158 = .ok (.iload_n 2, 1) := by decide +kernel
theorem d_V_unseal_159 : decode b_V_unseal 159 = .ok (.iconst 1, 1) := by decide +kernel
theorem d_V_unseal_160 : decode b_V_unseal 160 = .ok (.iastore, 1) := by decide +kernel
theorem d_V_unseal_161 : decode b_V_unseal 161 = .ok (.aload 5, 2) := by decide +kernel
theorem d_V_unseal_163 : decode b_V_unseal 163 = .ok (.getfield 201, 3) := by decide +kernel
theorem d_V_unseal_166 : decode b_V_unseal 166 = .ok (.iload_n 2, 1) := by decide +kernel
theorem d_V_unseal_167 : decode b_V_unseal 167 = .ok (.iload_n 3, 1) := by decide +kernel
theorem d_V_unseal_168 : decode b_V_unseal 168 = .ok (.iastore, 1) := by decide +kernel
theorem d_V_unseal_169 : decode b_V_unseal 169 = .ok (.iconst 1, 1) := by decide +kernel
theorem d_V_unseal_170 : decode b_V_unseal 170 = .ok (.ireturn, 1) := by decide +kernel
theorem d_V_fallingPrice_0 : decode b_V_fallingPrice 0 = .ok (.aload_n 1, 1) := by decide +kernel
theorem d_V_fallingPrice_1 : decode b_V_fallingPrice 1 = .ok (.getfield 171, 3) := by decide +kernel
theorem d_V_fallingPrice_4 : decode b_V_fallingPrice 4 = .ok (.aload_n 1, 1) := by decide +kernel
theorem d_V_fallingPrice_5 : decode b_V_fallingPrice 5 = .ok (.getfield 279, 3) := by decide +kernel
theorem d_V_fallingPrice_8 : decode b_V_fallingPrice 8 = .ok (.aload_n 1, 1) := by decide +kernel
theorem d_V_fallingPrice_9 : decode b_V_fallingPrice 9 = .ok (.getfield 175, 3) := by decide +kernel
theorem d_V_fallingPrice_12 : decode b_V_fallingPrice 12 = .ok (.aload_n 0, 1) := by decide +kernel
theorem d_V_fallingPrice_13 : decode b_V_fallingPrice 13 = .ok (.getfield 66, 3) := by decide +kernel
theorem d_V_fallingPrice_16 : decode b_V_fallingPrice 16 = .ok (.isub, 1) := by decide +kernel
theorem d_V_fallingPrice_17 : decode b_V_fallingPrice 17 = .ok (.imul, 1) := by decide +kernel
theorem d_V_fallingPrice_18 : decode b_V_fallingPrice 18 = .ok (.iadd, 1) := by decide +kernel
theorem d_V_fallingPrice_19 : decode b_V_fallingPrice 19 = .ok (.ireturn, 1) := by decide +kernel
theorem d_V_take_0 : decode b_V_take 0 = .ok (.aload_n 0, 1) := by decide +kernel
theorem d_V_take_1 : decode b_V_take 1 = .ok (.iload_n 1, 1) := by decide +kernel
theorem d_V_take_2 : decode b_V_take 2 = .ok (.invokevirtual 164, 3) := by decide +kernel
theorem d_V_take_5 : decode b_V_take 5 = .ok (.astore_n 3, 1) := by decide +kernel
theorem d_V_take_6 : decode b_V_take 6 = .ok (.aload_n 3, 1) := by decide +kernel
theorem d_V_take_7 : decode b_V_take 7 = .ok (.ifnull 11, 3) := by decide +kernel
theorem d_V_take_10 : decode b_V_take 10 = .ok (.aload_n 0, 1) := by decide +kernel
theorem d_V_take_11 : decode b_V_take 11 = .ok (.iload_n 2, 1) := by decide +kernel
theorem d_V_take_12 : decode b_V_take 12 = .ok (.invokevirtual 53, 3) := by decide +kernel
theorem d_V_take_15 : decode b_V_take 15 = .ok (.ifCond .eq 5, 3) := by decide +kernel
theorem d_V_take_18 : decode b_V_take 18 = .ok (.iconst (-1), 1) := by decide +kernel
theorem d_V_take_19 : decode b_V_take 19 = .ok (.ireturn, 1) := by decide +kernel
theorem d_V_take_20 : decode b_V_take 20 = .ok (.aload_n 3, 1) := by decide +kernel
theorem d_V_take_21 : decode b_V_take 21 = .ok (.getfield 174, 3) := by decide +kernel
theorem d_V_take_24 : decode b_V_take 24 = .ok (.iconst 3, 1) := by decide +kernel
theorem d_V_take_25 : decode b_V_take 25 = .ok (.if_icmp .ne 21, 3) := by decide +kernel
theorem d_V_take_28 : decode b_V_take 28 = .ok (.aload_n 3, 1) := by decide +kernel
theorem d_V_take_29 : decode b_V_take 29 = .ok (.getfield 191, 3) := by decide +kernel
theorem d_V_take_32 : decode b_V_take 32 = .ok (.ifCond .ne 14, 3) := by decide +kernel
theorem d_V_take_35 : decode b_V_take 35 = .ok (.aload_n 0, 1) := by decide +kernel
theorem d_V_take_36 : decode b_V_take 36 = .ok (.getfield 66, 3) := by decide +kernel
theorem d_V_take_39 : decode b_V_take 39 = .ok (.aload_n 3, 1) := by decide +kernel
theorem d_V_take_40 : decode b_V_take 40 = .ok (.getfield 175, 3) := by decide +kernel
theorem d_V_take_43 : decode b_V_take 43 = .ok (.if_icmp .lt 6, 3) := by decide +kernel
theorem d_V_take_46 : decode b_V_take 46 = .ok (.bipush (-3), 2) := by decide +kernel
theorem d_V_take_48 : decode b_V_take 48 = .ok (.ireturn, 1) := by decide +kernel
theorem d_V_take_49 : decode b_V_take 49 = .ok (.aload_n 0, 1) := by decide +kernel
theorem d_V_take_50 : decode b_V_take 50 = .ok (.aload_n 3, 1) := by decide +kernel
theorem d_V_take_51 : decode b_V_take 51 = .ok (.invokevirtual 219, 3) := by decide +kernel
theorem d_V_take_54 : decode b_V_take 54 = .ok (.istore 4, 2) := by decide +kernel
theorem d_V_take_56 : decode b_V_take 56 = .ok (.aload_n 0, 1) := by decide +kernel
theorem d_V_take_57 : decode b_V_take 57 = .ok (.getfield 13, 3) := by decide +kernel
theorem d_V_take_60 : decode b_V_take 60 = .ok (.iload_n 2, 1) := by decide +kernel
theorem d_V_take_61 : decode b_V_take 61 = .ok (.laload, 1) := by decide +kernel
theorem d_V_take_62 : decode b_V_take 62 = .ok (.iload 4, 2) := by decide +kernel
theorem d_V_take_64 : decode b_V_take 64 = .ok (.i2l, 1) := by decide +kernel
theorem d_V_take_65 : decode b_V_take 65 = .ok (.lcmp, 1) := by decide +kernel
theorem d_V_take_66 : decode b_V_take 66 = .ok (.ifCond .ge 6, 3) := by decide +kernel
theorem d_V_take_69 : decode b_V_take 69 = .ok (.bipush (-3), 2) := by decide +kernel
theorem d_V_take_71 : decode b_V_take 71 = .ok (.ireturn, 1) := by decide +kernel
theorem d_V_take_72 : decode b_V_take 72 = .ok (.aload_n 0, 1) := by decide +kernel
theorem d_V_take_73 : decode b_V_take 73 = .ok (.iload_n 2, 1) := by decide +kernel
theorem d_V_take_74 : decode b_V_take 74 = .ok (.iload 4, 2) := by decide +kernel
theorem d_V_take_76 : decode b_V_take 76 = .ok (.i2l, 1) := by decide +kernel
theorem d_V_take_77 : decode b_V_take 77 = .ok (.invokevirtual 204, 3) := by decide +kernel
theorem d_V_take_80 : decode b_V_take 80 = .ok (.aload_n 0, 1) := by decide +kernel
theorem d_V_take_81 : decode b_V_take 81 = .ok (.iload_n 2, 1) := by decide +kernel
theorem d_V_take_82 : decode b_V_take 82 = .ok (.iload 4, 2) := by decide +kernel
theorem d_V_take_84 : decode b_V_take 84 = .ok (.i2l, 1) := by decide +kernel
theorem d_V_take_85 : decode b_V_take 85 = .ok (.invokevirtual 223, 3) := by decide +kernel
theorem d_V_take_88 : decode b_V_take 88 = .ok (.aload_n 3, 1) := by decide +kernel
theorem d_V_take_89 : decode b_V_take 89 = .ok (.getfield 226, 3) := by decide +kernel
theorem d_V_take_92 : decode b_V_take 92 = .ok (.iload_n 2, 1) := by decide +kernel
theorem d_V_take_93 : decode b_V_take 93 = .ok (.iconst 1, 1) := by decide +kernel
theorem d_V_take_94 : decode b_V_take 94 = .ok (.iastore, 1) := by decide +kernel
theorem d_V_take_95 : decode b_V_take 95 = .ok (.aload_n 3, 1) := by decide +kernel
theorem d_V_take_96 : decode b_V_take 96 = .ok (.iload 4, 2) := by decide +kernel
theorem d_V_take_98 : decode b_V_take 98 = .ok (.putfield 191, 3) := by decide +kernel
theorem d_V_take_101 : decode b_V_take 101 = .ok (.iload 4, 2) := by decide +kernel
theorem d_V_take_103 : decode b_V_take 103 = .ok (.ireturn, 1) := by decide +kernel
theorem d_V_price_0 : decode b_V_price 0 = .ok (.aload_n 0, 1) := by decide +kernel
theorem d_V_price_1 : decode b_V_price 1 = .ok (.iload_n 1, 1) := by decide +kernel
theorem d_V_price_2 : decode b_V_price 2 = .ok (.invokevirtual 164, 3) := by decide +kernel
theorem d_V_price_5 : decode b_V_price 5 = .ok (.astore_n 2, 1) := by decide +kernel
theorem d_V_price_6 : decode b_V_price 6 = .ok (.aload_n 2, 1) := by decide +kernel
theorem d_V_price_7 : decode b_V_price 7 = .ok (.ifnonnull 5, 3) := by decide +kernel
theorem d_V_price_10 : decode b_V_price 10 = .ok (.iconst (-1), 1) := by decide +kernel
theorem d_V_price_11 : decode b_V_price 11 = .ok (.ireturn, 1) := by decide +kernel
theorem d_V_price_12 : decode b_V_price 12 = .ok (.aload_n 2, 1) := by decide +kernel
theorem d_V_price_13 : decode b_V_price 13 = .ok (.getfield 191, 3) := by decide +kernel
theorem d_V_price_16 : decode b_V_price 16 = .ok (.ifCond .eq 8, 3) := by decide +kernel
theorem d_V_price_19 : decode b_V_price 19 = .ok (.aload_n 2, 1) := by decide +kernel
theorem d_V_price_20 : decode b_V_price 20 = .ok (.getfield 191, 3) := by decide +kernel
theorem d_V_price_23 : decode b_V_price 23 = .ok (.ireturn, 1) := by decide +kernel
theorem d_V_price_24 : decode b_V_price 24 = .ok (.aload_n 2, 1) := by decide +kernel
theorem d_V_price_25 : decode b_V_price 25 = .ok (.getfield 174, 3) := by decide +kernel
theorem d_V_price_28 : decode b_V_price 28 = .ok (.iconst 3, 1) := by decide +kernel
theorem d_V_price_29 : decode b_V_price 29 = .ok (.if_icmp .ne 22, 3) := by decide +kernel
theorem d_V_price_32 : decode b_V_price 32 = .ok (.aload_n 0, 1) := by decide +kernel
theorem d_V_price_33 : decode b_V_price 33 = .ok (.getfield 66, 3) := by decide +kernel
theorem d_V_price_36 : decode b_V_price 36 = .ok (.aload_n 2, 1) := by decide +kernel
theorem d_V_price_37 : decode b_V_price 37 = .ok (.getfield 175, 3) := by decide +kernel
theorem d_V_price_40 : decode b_V_price 40 = .ok (.if_icmp .ge 11, 3) := by decide +kernel
theorem d_V_price_43 : decode b_V_price 43 = .ok (.aload_n 0, 1) := by decide +kernel
theorem d_V_price_44 : decode b_V_price 44 = .ok (.aload_n 2, 1) := by decide +kernel
theorem d_V_price_45 : decode b_V_price 45 = .ok (.invokevirtual 219, 3) := by decide +kernel
theorem d_V_price_48 : decode b_V_price 48 = .ok (.goto 5, 3) := by decide +kernel
theorem d_V_price_51 : decode b_V_price 51 = .ok (.bipush (-3), 2) := by decide +kernel
theorem d_V_price_53 : decode b_V_price 53 = .ok (.ireturn, 1) := by decide +kernel
theorem d_V_won_0 : decode b_V_won 0 = .ok (.aload_n 0, 1) := by decide +kernel
theorem d_V_won_1 : decode b_V_won 1 = .ok (.iload_n 1, 1) := by decide +kernel
theorem d_V_won_2 : decode b_V_won 2 = .ok (.invokevirtual 164, 3) := by decide +kernel
theorem d_V_won_5 : decode b_V_won 5 = .ok (.astore_n 3, 1) := by decide +kernel
theorem d_V_won_6 : decode b_V_won 6 = .ok (.aload_n 3, 1) := by decide +kernel
theorem d_V_won_7 : decode b_V_won 7 = .ok (.ifnull 11, 3) := by decide +kernel
theorem d_V_won_10 : decode b_V_won 10 = .ok (.aload_n 0, 1) := by decide +kernel
theorem d_V_won_11 : decode b_V_won 11 = .ok (.iload_n 2, 1) := by decide +kernel
theorem d_V_won_12 : decode b_V_won 12 = .ok (.invokevirtual 53, 3) := by decide +kernel
theorem d_V_won_15 : decode b_V_won 15 = .ok (.ifCond .eq 5, 3) := by decide +kernel
theorem d_V_won_18 : decode b_V_won 18 = .ok (.iconst (-1), 1) := by decide +kernel
theorem d_V_won_19 : decode b_V_won 19 = .ok (.ireturn, 1) := by decide +kernel
theorem d_V_won_20 : decode b_V_won 20 = .ok (.aload_n 3, 1) := by decide +kernel
theorem d_V_won_21 : decode b_V_won 21 = .ok (.getfield 226, 3) := by decide +kernel
theorem d_V_won_24 : decode b_V_won 24 = .ok (.iload_n 2, 1) := by decide +kernel
theorem d_V_won_25 : decode b_V_won 25 = .ok (.iaload, 1) := by decide +kernel
theorem d_V_won_26 : decode b_V_won 26 = .ok (.ireturn, 1) := by decide +kernel
