theorem d_M_seal_0 : decode b_M_seal 0 = .ok (.aload_n 0, 1) := by decide +kernel
theorem d_M_seal_1 : decode b_M_seal 1 = .ok (.iload_n 1, 1) := by decide +kernel
theorem d_M_seal_2 : decode b_M_seal 2 = .ok (.invokevirtual 228, 3) := by decide +kernel
theorem d_M_seal_5 : decode b_M_seal 5 = .ok (.ifCond .eq 11, 3) := by decide +kernel
theorem d_M_seal_8 : decode b_M_seal 8 = .ok (.aload_n 0, 1) := by decide +kernel
theorem d_M_seal_9 : decode b_M_seal 9 = .ok (.iload_n 2, 1) := by decide +kernel
theorem d_M_seal_10 : decode b_M_seal 10 = .ok (.invokevirtual 143, 3) := by decide +kernel
theorem d_M_seal_13 : decode b_M_seal 13 = .ok (.ifCond .ne 5, 3) := by decide +kernel
theorem d_M_seal_16 : decode b_M_seal 16 = .ok (.iconst (-1), 1) := by decide +kernel
theorem d_M_seal_17 : decode b_M_seal 17 = .ok (.ireturn, 1) := by decide +kernel
theorem d_M_seal_18 : decode b_M_seal 18 = .ok (.bipush 8, 2) := by decide +kernel
theorem d_M_seal_20 : decode b_M_seal 20 = .ok (.iload_n 1, 1) := by decide +kernel
theorem d_M_seal_21 : decode b_M_seal 21 = .ok (.imul, 1) := by decide +kernel
theorem d_M_seal_22 : decode b_M_seal 22 = .ok (.iload_n 2, 1) := by decide +kernel
theorem d_M_seal_23 : decode b_M_seal 23 = .ok (.iadd, 1) := by decide +kernel
theorem d_M_seal_24 : decode b_M_seal 24 = .ok (.istore 5, 2) := by decide +kernel
theorem d_M_seal_26 : decode b_M_seal 26 = .ok (.aload_n 0, 1) := by decide +kernel
theorem d_M_seal_27 : decode b_M_seal 27 = .ok (.getfield 72, 3) := by decide +kernel
theorem d_M_seal_30 : decode b_M_seal 30 = .ok (.iload_n 1, 1) := by decide +kernel
theorem d_M_seal_31 : decode b_M_seal 31 = .ok (.iaload, 1) := by decide +kernel
theorem d_M_seal_32 : decode b_M_seal 32 = .ok (.iconst 1, 1) := by decide +kernel
theorem d_M_seal_33 : decode b_M_seal 33 = .ok (.if_icmp .eq 13, 3) := by decide +kernel
theorem d_M_seal_36 : decode b_M_seal 36 = .ok (.aload_n 0, 1) := by decide +kernel
theorem d_M_seal_37 : decode b_M_seal 37 = .ok (.getfield 72, 3) := by decide +kernel
theorem d_M_seal_40 : decode b_M_seal 40 = .ok (.iload_n 1, 1) := by decide +kernel
theorem d_M_seal_41 : decode b_M_seal 41 = .ok (.iaload, 1) := by decide +kernel
theorem d_M_seal_42 : decode b_M_seal 42 = .ok (.iconst 2, 1) := by decide +kernel
theorem d_M_seal_43 : decode b_M_seal 43 = .ok (.if_icmp .ne 43, 3) := by decide +kernel
theorem d_M_seal_46 : decode b_M_seal 46 = .ok (.aload_n 0, 1) := by decide +kernel
theorem d_M_seal_47 : decode b_M_seal 47 = .ok (.getfield 156, 3) := by decide +kernel
theorem d_M_seal_50 : decode b_M_seal 50 = .ok (.aload_n 0, 1) := by decide +kernel
theorem d_M_seal_51 : decode b_M_seal 51 = .ok (.getfield 84, 3) := by decide +kernel
theorem d_M_seal_54 : decode b_M_seal 54 = .ok (.iload_n 1, 1) := by decide +kernel
theorem d_M_seal_55 : decode b_M_seal 55 = .ok (.iaload, 1) := by decide +kernel
theorem d_M_seal_56 : decode b_M_seal 56 = .ok (.if_icmp .ge 30, 3) := by decide +kernel
theorem d_M_seal_59 : decode b_M_seal 59 = .ok (.aload_n 0, 1) := by decide +kernel
theorem d_M_seal_60 : decode b_M_seal 60 = .ok (.getfield 96, 3) := by decide +kernel
theorem d_M_seal_63 : decode b_M_seal 63 = .ok (.iload 5, 2) := by decide +kernel
theorem d_M_seal_65 : decode b_M_seal 65 = .ok (.baload, 1) := by decide +kernel
theorem d_M_seal_66 : decode b_M_seal 66 = .ok (.ifCond .ne 23, 3) := by decide +kernel
theorem d_M_seal_69 : decode b_M_seal 69 = .ok (.aload_n 0, 1) := by decide +kernel
theorem d_M_seal_70 : decode b_M_seal 70 = .ok (.getfield 13, 3) := by decide +kernel
theorem d_M_seal_73 : decode b_M_seal 73 = .ok (.iload_n 2, 1) := by decide +kernel
theorem d_M_seal_74 : decode b_M_seal 74 = .ok (.laload, 1) := by decide +kernel
theorem d_M_seal_75 : decode b_M_seal 75 = .ok (.aload_n 0, 1) := by decide +kernel
theorem d_M_seal_76 : decode b_M_seal 76 = .ok (.getfield 78, 3) := by decide +kernel
theorem d_M_seal_79 : decode b_M_seal 79 = .ok (.iload_n 1, 1) := by decide +kernel
theorem d_M_seal_80 : decode b_M_seal 80 = .ok (.iaload, 1) := by decide +kernel
theorem d_M_seal_81 : decode b_M_seal 81 = .ok (.i2l, 1) := by decide +kernel
theorem d_M_seal_82 : decode b_M_seal 82 = .ok (.lcmp, 1) := by decide +kernel
theorem d_M_seal_83 : decode b_M_seal 83 = .ok (.ifCond .ge 6, 3) := by decide +kernel
theorem d_M_seal_86 : decode b_M_seal 86 = .ok (.bipush (-3), 2) := by decide +kernel
theorem d_M_seal_88 : decode b_M_seal 88 = .ok (.ireturn, 1) := by decide +kernel
theorem d_M_seal_89 : decode b_M_seal 89 = .ok (.aload_n 0, 1) := by decide +kernel
theorem d_M_seal_90 : decode b_M_seal 90 = .ok (.getfield 96, 3) := by decide +kernel
theorem d_M_seal_93 : decode b_M_seal 93 = .ok (.iload 5, 2) := by decide +kernel
theorem d_M_seal_95 : decode b_M_seal 95 = .ok (.baload, 1) := by decide +kernel
theorem d_M_seal_96 : decode b_M_seal 96 = .ok (.ifCond .ne 15, 3) := by decide +kernel
theorem d_M_seal_99 : decode b_M_seal 99 = .ok (.aload_n 0, 1) := by decide +kernel
theorem d_M_seal_100 : decode b_M_seal 100 = .ok (.iload_n 2, 1) := by decide +kernel
theorem d_M_seal_101 : decode b_M_seal 101 = .ok (.aload_n 0, 1) := by decide +kernel
theorem d_M_seal_102 : decode b_M_seal 102 = .ok (.getfield 78, 3) := by decide +kernel
theorem d_M_seal_105 : decode b_M_seal 105 = .ok (.iload_n 1, 1) := by decide +kernel
theorem d_M_seal_106 : decode b_M_seal 106 = .ok (.iaload, 1) := by decide +kernel
theorem d_M_seal_107 : decode b_M_seal 107 = .ok (.i2l, 1) := by decide +kernel
theorem d_M_seal_108 : decode b_M_seal 108 = .ok (.invokevirtual 241, 3) := by decide +kernel
theorem d_M_seal_111 : decode b_M_seal 111 = .ok (.aload_n 0, 1) := by decide +kernel
theorem d_M_seal_112 : decode b_M_seal 112 = .ok (.getfield 96, 3) := by decide +kernel
theorem d_M_seal_115 : decode b_M_seal 115 = .ok (.iload 5, 2) := by decide +kernel
theorem d_M_seal_117 : decode b_M_seal 117 = .ok (.iconst 1, 1) := by decide +kernel
theorem d_M_seal_118 : decode b_M_seal 118 = .ok (.bastore, 1) := by decide +kernel
theorem d_M_seal_119 : decode b_M_seal 119 = .ok (.aload_n 0, 1) := by decide +kernel
theorem d_M_seal_120 : decode b_M_seal 120 = .ok (.getfield 108, 3) := by decide +kernel
theorem d_M_seal_123 : decode b_M_seal 123 = .ok (.iload 5, 2) := by decide +kernel
theorem d_M_seal_125 : decode b_M_seal 125 = .ok (.lload_n 3, 1) := by decide +kernel
theorem d_M_seal_126 : decode b_M_seal 126 = .ok (.lastore, 1) := by decide +kernel
theorem d_M_seal_127 : decode b_M_seal 127 = .ok (.aload_n 0, 1) := by decide +kernel
theorem d_M_seal_128 : decode b_M_seal 128 = .ok (.getfield 105, 3) := by decide +kernel
theorem d_M_seal_131 : decode b_M_seal 131 = .ok (.iload 5, 2) := by decide +kernel
theorem d_M_seal_133 : decode b_M_seal 133 = .ok (.aload_n 0, 1) := by decide +kernel
theorem d_M_seal_134 : decode b_M_seal 134 = .ok (.getfield 245, 3) := by decide +kernel
theorem d_M_seal_137 : decode b_M_seal 137 = .ok (.iastore, 1) := by decide +kernel
theorem d_M_seal_138 : decode b_M_seal 138 = .ok (.aload_n 0, 1) := by decide +kernel
theorem d_M_seal_139 : decode b_M_seal 139 = .ok (.dup, 1) := by decide +kernel
theorem d_M_seal_140 : decode b_M_seal 140 = .ok (.getfield 245, 3) := by decide +kernel
theorem d_M_seal_143 : decode b_M_seal 143 = .ok (.iconst 1, 1) := by decide +kernel
theorem d_M_seal_144 : decode b_M_seal 144 = .ok (.iadd, 1) := by decide +kernel
theorem d_M_seal_145 : decode b_M_seal 145 = .ok (.putfield 245, 3) := by decide +kernel
theorem d_M_seal_148 : decode b_M_seal 148 = .ok (.iconst 1, 1) := by decide +kernel
theorem d_M_seal_149 : decode b_M_seal 149 = .ok (.ireturn, 1) := by decide +kernel
theorem d_M_unseal_0 : decode b_M_unseal 0 = .ok (.aload_n 0, 1) := by decide +kernel
theorem d_M_unseal_1 : decode b_M_unseal 1 = .ok (.iload_n 1, 1) := by decide +kernel
theorem d_M_unseal_2 : decode b_M_unseal 2 = .ok (.invokevirtual 228, 3) := by decide +kernel
theorem d_M_unseal_5 : decode b_M_unseal 5 = .ok (.ifCond .eq 11, 3) := by decide +kernel
theorem d_M_unseal_8 : decode b_M_unseal 8 = .ok (.aload_n 0, 1) := by decide +kernel
theorem d_M_unseal_9 : decode b_M_unseal 9 = .ok (.iload_n 2, 1) := by decide +kernel
theorem d_M_unseal_10 : decode b_M_unseal 10 = .ok (.invokevirtual 143, 3) := by decide +kernel
theorem d_M_unseal_13 : decode b_M_unseal 13 = .ok (.ifCond .ne 5, 3) := by decide +kernel
theorem d_M_unseal_16 : decode b_M_unseal 16 = .ok (.iconst (-1), 1) := by decide +kernel
theorem d_M_unseal_17 : decode b_M_unseal 17 = .ok (.ireturn, 1) := by decide +kernel
theorem d_M_unseal_18 : decode b_M_unseal 18 = .ok (.iload_n 3, 1) := by decide +kernel
theorem d_M_unseal_19 : decode b_M_unseal 19 = .ok (.aload_n 0, 1) := by decide +kernel
theorem d_M_unseal_20 : decode b_M_unseal 20 = .ok (.getfield 78, 3) := by decide +kernel
theorem d_M_unseal_23 : decode b_M_unseal 23 = .ok (.iload_n 1, 1) := by decide +kernel
theorem d_M_unseal_24 : decode b_M_unseal 24 = .ok (.iaload, 1) := by decide +kernel
theorem d_M_unseal_25 : decode b_M_unseal 25 = .ok (.ldc 142, 2) := by decide +kernel
theorem d_M_unseal_27 : decode b_M_unseal 27 = .ok (.invokestatic 139, 3) := by decide +kernel
theorem d_M_unseal_30 : decode b_M_unseal 30 = .ok (.ifCond .ne 6, 3) := by decide +kernel
theorem d_M_unseal_33 : decode b_M_unseal 33 = .ok (.bipush (-2), 2) := by decide +kernel
theorem d_M_unseal_35 : decode b_M_unseal 35 = .ok (.ireturn, 1) := by decide +kernel
theorem d_M_unseal_36 : decode b_M_unseal 36 = .ok (.bipush 8, 2) := by decide +kernel
theorem d_M_unseal_38 : decode b_M_unseal 38 = .ok (.iload_n 1, 1) := by decide +kernel
theorem d_M_unseal_39 : decode b_M_unseal 39 = .ok (.imul, 1) := by decide +kernel
theorem d_M_unseal_40 : decode b_M_unseal 40 = .ok (.iload_n 2, 1) := by decide +kernel
theorem d_M_unseal_41 : decode b_M_unseal 41 = .ok (.iadd, 1) := by decide +kernel
theorem d_M_unseal_42 : decode b_M_unseal 42 = .ok (.istore 5, 2) := by decide +kernel
theorem d_M_unseal_44 : decode b_M_unseal 44 = .ok (.aload_n 0, 1) := by decide +kernel
theorem d_M_unseal_45 : decode b_M_unseal 45 = .ok (.getfield 72, 3) := by decide +kernel
theorem d_M_unseal_48 : decode b_M_unseal 48 = .ok (.iload_n 1, 1) := by decide +kernel
theorem d_M_unseal_49 : decode b_M_unseal 49 = .ok (.iaload, 1) := by decide +kernel
theorem d_M_unseal_50 : decode b_M_unseal 50 = .ok (.iconst 1, 1) := by decide +kernel
theorem d_M_unseal_51 : decode b_M_unseal 51 = .ok (.if_icmp .eq 13, 3) := by decide +kernel
theorem d_M_unseal_54 : decode b_M_unseal 54 = .ok (.aload_n 0, 1) := by decide +kernel
theorem d_M_unseal_55 : decode b_M_unseal 55 = .ok (.getfield 72, 3) := by decide +kernel
theorem d_M_unseal_58 : decode b_M_unseal 58 = .ok (.iload_n 1, 1) := by decide +kernel
theorem d_M_unseal_59 : decode b_M_unseal 59 = .ok (.iaload, 1) := by decide +kernel
theorem d_M_unseal_60 : decode b_M_unseal 60 = .ok (.iconst 2, 1) := by decide +kernel
theorem d_M_unseal_61 : decode b_M_unseal 61 = .ok (.if_icmp .ne 88, 3) := by decide +kernel
theorem d_M_unseal_64 : decode b_M_unseal 64 = .ok (.aload_n 0, 1) := by decide +kernel
theorem d_M_unseal_65 : decode b_M_unseal 65 = .ok (.getfield 156, 3) := by decide +kernel
theorem d_M_unseal_68 : decode b_M_unseal 68 = .ok (.aload_n 0, 1) := by decide +kernel
theorem d_M_unseal_69 : decode b_M_unseal 69 = .ok (.getfield 84, 3) := by decide +kernel
theorem d_M_unseal_72 : decode b_M_unseal 72 = .ok (.iload_n 1, 1) := by decide +kernel
theorem d_M_unseal_73 : decode b_M_unseal 73 = .ok (.iaload, 1) := by decide +kernel
theorem d_M_unseal_74 : decode b_M_unseal 74 = .ok (.if_icmp .lt 75, 3) := by decide +kernel
theorem d_M_unseal_77 : decode b_M_unseal 77 = .ok (.aload_n 0, 1) := by decide +kernel
theorem d_M_unseal_78 : decode b_M_unseal 78 = .ok (.getfield 156, 3) := by decide +kernel
theorem d_M_unseal_81 : decode b_M_unseal 81 = .ok (.aload_n 0, 1) := by decide +kernel
theorem d_M_unseal_82 : decode b_M_unseal 82 = .ok (.getfield 87, 3) := by decide +kernel
theorem d_M_unseal_85 : decode b_M_unseal 85 = .ok (.iload_n 1, 1) := by decide +kernel
theorem d_M_unseal_86 : decode b_M_unseal 86 = .ok (.iaload, 1) := by decide +kernel
theorem d_M_unseal_87 : decode b_M_unseal 87 = .ok (.if_icmp .ge 62, 3) := by decide +kernel
theorem d_M_unseal_90 : decode b_M_unseal 90 = .ok (.aload_n 0, 1) := by decide +kernel
theorem d_M_unseal_91 : decode b_M_unseal 91 = .ok (.getfield 96, 3) := by decide +kernel
theorem d_M_unseal_94 : decode b_M_unseal 94 = .ok (.iload 5, 2) := by decide +kernel
theorem d_M_unseal_96 : decode b_M_unseal 96 = .ok (.baload, 1) := by decide +kernel
theorem d_M_unseal_97 : decode b_M_unseal 97 = .ok (.ifCond .eq 52, 3) := by decide +kernel
theorem d_M_unseal_100 : decode b_M_unseal 100 = .ok (.aload_n 0, 1) := by decide +kernel
theorem d_M_unseal_101 : decode b_M_unseal 101 = .ok (.getfield 111, 3) := by decide +kernel
theorem d_M_unseal_104 : decode b_M_unseal 104 = .ok (.iload 5, 2) := by decide +kernel
theorem d_M_unseal_106 : decode b_M_unseal 106 = .ok (.baload, 1) := by decide +kernel
theorem d_M_unseal_107 : decode b_M_unseal 107 = .ok (.ifCond .ne 42, 3) := by decide +kernel
theorem d_M_unseal_110 : decode b_M_unseal 110 = .ok (.aload_n 0, 1) := by decide +kernel
theorem d_M_unseal_111 : decode b_M_unseal 111 = .ok (.getfield 108, 3) := by decide +kernel
theorem d_M_unseal_114 : decode b_M_unseal 114 = .ok (.iload 5, 2) := by decide +kernel
theorem d_M_unseal_116 : decode b_M_unseal 116 = .ok (.laload, 1) := by decide +kernel
theorem d_M_unseal_117 : decode b_M_unseal 117 = .ok (.aload_n 0, 1) := by decide +kernel
theorem d_M_unseal_118 : decode b_M_unseal 118 = .ok (.iload_n 2, 1) := by decide +kernel
theorem d_M_unseal_119 : decode b_M_unseal 119 = .ok (.iload_n 3, 1) := by decide +kernel
theorem d_M_unseal_120 : decode b_M_unseal 120 = .ok (.iload 4, 2) := by decide +kernel
theorem d_M_unseal_122 : decode b_M_unseal 122 = .ok (.invokevirtual 186, 3) := by decide +kernel
theorem d_M_unseal_125 : decode b_M_unseal 125 = .ok (.lcmp, 1) := by decide +kernel
theorem d_M_unseal_126 : decode b_M_unseal 126 = .ok (.ifCond .ne 23, 3) := by decide +kernel
theorem d_M_unseal_129 : decode b_M_unseal 129 = .ok (.aload_n 0, 1) := by decide +kernel
theorem d_M_unseal_130 : decode b_M_unseal 130 = .ok (.getfield 13, 3) := by decide +kernel
theorem d_M_unseal_133 : decode b_M_unseal 133 = .ok (.iload_n 2, 1) := by decide +kernel
theorem d_M_unseal_134 : decode b_M_unseal 134 = .ok (.laload, 1) := by decide +kernel
theorem d_M_unseal_135 : decode b_M_unseal 135 = .ok (.aload_n 0, 1) := by decide +kernel
theorem d_M_unseal_136 : decode b_M_unseal 136 = .ok (.getfield 78, 3) := by decide +kernel
theorem d_M_unseal_139 : decode b_M_unseal 139 = .ok (.iload_n 1, 1) := by decide +kernel
theorem d_M_unseal_140 : decode b_M_unseal 140 = .ok (.iaload, 1) := by decide +kernel
theorem d_M_unseal_141 : decode b_M_unseal 141 = .ok (.i2l, 1) := by decide +kernel
theorem d_M_unseal_142 : decode b_M_unseal 142 = .ok (.ladd, 1) := by decide +kernel
theorem d_M_unseal_143 : decode b_M_unseal 143 = .ok (.iload_n 3, 1) := by decide +kernel
theorem d_M_unseal_144 : decode b_M_unseal 144 = .ok (.i2l, 1) := by decide +kernel
theorem d_M_unseal_145 : decode b_M_unseal 145 = .ok (.lcmp, 1) := by decide +kernel
theorem d_M_unseal_146 : decode b_M_unseal 146 = .ok (.ifCond .ge 6, 3) := by decide +kernel
theorem d_M_unseal_149 : decode b_M_unseal 149 = .ok (.bipush (-3), 2) := by decide +kernel
theorem d_M_unseal_151 : decode b_M_unseal 151 = .ok (.ireturn, 1) := by decide +kernel
theorem d_M_unseal_152 : decode b_M_unseal 152 = .ok (.aload_n 0, 1) := by decide +kernel
theorem d_M_unseal_153 : decode b_M_unseal 153 = .ok (.getfield 111, 3) := by decide +kernel
theorem d_M_unseal_156 : decode b_M_unseal 156 = .ok (.iload 5, 2) := by decide +kernel
theorem d_M_unseal_158 : decode b_M_unseal 158 = .ok (.iconst 1, 1) := by decide +kernel
theorem d_M_unseal_159 : decode b_M_unseal 159 = .ok (.bastore, 1) := by decide +kernel
theorem d_M_unseal_160 : decode b_M_unseal 160 = .ok (.aload_n 0, 1) := by decide +kernel
theorem d_M_unseal_161 : decode b_M_unseal 161 = .ok (.getfield 102, 3) := by decide +kernel
theorem d_M_unseal_164 : decode b_M_unseal 164 = .ok (.iload 5, 2) := by decide +kernel
theorem d_M_unseal_166 : decode b_M_unseal 166 = .ok (.iload_n 3, 1) := by decide +kernel
theorem d_M_unseal_167 : decode b_M_unseal 167 = .ok (.iastore, 1) := by decide +kernel
theorem d_M_unseal_168 : decode b_M_unseal 168 = .ok (.aload_n 0, 1) := by decide +kernel
theorem d_M_unseal_169 : decode b_M_unseal 169 = .ok (.iload_n 2, 1) := by decide +kernel
theorem d_M_unseal_170 : decode b_M_unseal 170 = .ok (.iload_n 3, 1) := by decide +kernel
theorem d_M_unseal_171 : decode b_M_unseal 171 = .ok (.aload_n 0, 1) := by decide +kernel
theorem d_M_unseal_172 : decode b_M_unseal 172 = .ok (.getfield 78, 3) := by decide +kernel
theorem d_M_unseal_175 : decode b_M_unseal 175 = .ok (.iload_n 1, 1) := by decide +kernel
theorem d_M_unseal_176 : decode b_M_unseal 176 = .ok (.iaload, 1) := by decide +kernel
theorem d_M_unseal_177 : decode b_M_unseal 177 = .ok (.isub, 1) := by decide +kernel
theorem d_M_unseal_178 : decode b_M_unseal 178 = .ok (.i2l, 1) := by decide +kernel
theorem d_M_unseal_179 : decode b_M_unseal 179 = .ok (.invokevirtual 241, 3) := by decide +kernel
theorem d_M_unseal_182 : decode b_M_unseal 182 = .ok (.iconst 1, 1) := by decide +kernel
theorem d_M_unseal_183 : decode b_M_unseal 183 = .ok (.ireturn, 1) := by decide +kernel
theorem d_M_nowPrice_0 : decode b_M_nowPrice 0 = .ok (.aload_n 0, 1) := by decide +kernel
theorem d_M_nowPrice_1 : decode b_M_nowPrice 1 = .ok (.getfield 78, 3) := by decide +kernel
theorem d_M_nowPrice_4 : decode b_M_nowPrice 4 = .ok (.iload_n 1, 1) := by decide +kernel
theorem d_M_nowPrice_5 : decode b_M_nowPrice 5 = .ok (.iaload, 1) := by decide +kernel
theorem d_M_nowPrice_6 : decode b_M_nowPrice 6 = .ok (.i2l, 1) := by decide +kernel
theorem d_M_nowPrice_7 : decode b_M_nowPrice 7 = .ok (.aload_n 0, 1) := by decide +kernel
theorem d_M_nowPrice_8 : decode b_M_nowPrice 8 = .ok (.getfield 81, 3) := by decide +kernel
theorem d_M_nowPrice_11 : decode b_M_nowPrice 11 = .ok (.iload_n 1, 1) := by decide +kernel
theorem d_M_nowPrice_12 : decode b_M_nowPrice 12 = .ok (.iaload, 1) := by decide +kernel
theorem d_M_nowPrice_13 : decode b_M_nowPrice 13 = .ok (.i2l, 1) := by decide +kernel
theorem d_M_nowPrice_14 : decode b_M_nowPrice 14 = .ok (.aload_n 0, 1) := by decide +kernel
theorem d_M_nowPrice_15 : decode b_M_nowPrice 15 = .ok (.getfield 87, 3) := by decide +kernel
theorem d_M_nowPrice_18 : decode b_M_nowPrice 18 = .ok (.iload_n 1, 1) := by decide +kernel
theorem d_M_nowPrice_19 : decode b_M_nowPrice 19 = .ok (.iaload, 1) := by decide +kernel
theorem d_M_nowPrice_20 : decode b_M_nowPrice 20 = .ok (.aload_n 0, 1) := by decide +kernel
theorem d_M_nowPrice_21 : decode b_M_nowPrice 21 = .ok (.getfield 156, 3) := by decide +kernel
theorem d_M_nowPrice_24 : decode b_M_nowPrice 24 = .ok (.isub, 1) := by decide +kernel
theorem d_M_nowPrice_25 : decode b_M_nowPrice 25 = .ok (.i2l, 1) := by decide +kernel
theorem d_M_nowPrice_26 : decode b_M_nowPrice 26 = .ok (.lmul, 1) := by decide +kernel
theorem d_M_nowPrice_27 : decode b_M_nowPrice 27 = .ok (.ladd, 1) := by decide +kernel
theorem d_M_nowPrice_28 : decode b_M_nowPrice 28 = .ok (.lreturn, 1) := by decide +kernel
theorem d_M_take_0 : decode b_M_take 0 = .ok (.aload_n 0, 1) := by decide +kernel
theorem d_M_take_1 : decode b_M_take 1 = .ok (.iload_n 1, 1) := by decide +kernel
theorem d_M_take_2 : decode b_M_take 2 = .ok (.invokevirtual 228, 3) := by decide +kernel
theorem d_M_take_5 : decode b_M_take 5 = .ok (.ifCond .eq 11, 3) := by decide +kernel
theorem d_M_take_8 : decode b_M_take 8 = .ok (.aload_n 0, 1) := by decide +kernel
theorem d_M_take_9 : decode b_M_take 9 = .ok (.iload_n 2, 1) := by decide +kernel
theorem d_M_take_10 : decode b_M_take 10 = .ok (.invokevirtual 143, 3) := by decide +kernel
theorem d_M_take_13 : decode b_M_take 13 = .ok (.ifCond .ne 5, 3) := by decide +kernel
theorem d_M_take_16 : decode b_M_take 16 = .ok (.iconst (-1), 1) := by decide +kernel
theorem d_M_take_17 : decode b_M_take 17 = .ok (.ireturn, 1) := by decide +kernel
theorem d_M_take_18 : decode b_M_take 18 = .ok (.aload_n 0, 1) := by decide +kernel
theorem d_M_take_19 : decode b_M_take 19 = .ok (.getfield 72, 3) := by decide +kernel
theorem d_M_take_22 : decode b_M_take 22 = .ok (.iload_n 1, 1) := by decide +kernel
theorem d_M_take_23 : decode b_M_take 23 = .ok (.iaload, 1) := by decide +kernel
theorem d_M_take_24 : decode b_M_take 24 = .ok (.iconst 3, 1) := by decide +kernel
theorem d_M_take_25 : decode b_M_take 25 = .ok (.if_icmp .ne 26, 3) := by decide +kernel
theorem d_M_take_28 : decode b_M_take 28 = .ok (.aload_n 0, 1) := by decide +kernel
theorem d_M_take_29 : decode b_M_take 29 = .ok (.iload_n 1, 1) := by decide +kernel
theorem d_M_take_30 : decode b_M_take 30 = .ok (.invokevirtual 231, 3) := by decide +kernel
theorem d_M_take_33 : decode b_M_take 33 = .ok (.ifCond .ne 18, 3) := by decide +kernel
theorem d_M_take_36 : decode b_M_take 36 = .ok (.aload_n 0, 1) := by decide +kernel
theorem d_M_take_37 : decode b_M_take 37 = .ok (.getfield 13, 3) := by decide +kernel
theorem d_M_take_40 : decode b_M_take 40 = .ok (.iload_n 2, 1) := by decide +kernel
theorem d_M_take_41 : decode b_M_take 41 = .ok (.laload, 1) := by decide +kernel
theorem d_M_take_42 : decode b_M_take 42 = .ok (.aload_n 0, 1) := by decide +kernel
theorem d_M_take_43 : decode b_M_take 43 = .ok (.iload_n 1, 1) := by decide +kernel
theorem d_M_take_44 : decode b_M_take 44 = .ok (.invokevirtual 248, 3) := by decide +kernel
theorem d_M_take_47 : decode b_M_take 47 = .ok (.lcmp, 1) := by decide +kernel
theorem d_M_take_48 : decode b_M_take 48 = .ok (.ifCond .ge 6, 3) := by decide +kernel
theorem d_M_take_51 : decode b_M_take 51 = .ok (.bipush (-3), 2) := by decide +kernel
theorem d_M_take_53 : decode b_M_take 53 = .ok (.ireturn, 1) := by decide +kernel
theorem d_M_take_54 : decode b_M_take 54 = .ok (.aload_n 0, 1) := by decide +kernel
theorem d_M_take_55 : decode b_M_take 55 = .ok (.getfield 90, 3) := by decide +kernel
theorem d_M_take_58 : decode b_M_take 58 = .ok (.iload_n 1, 1) := by decide +kernel
theorem d_M_take_59 : decode b_M_take 59 = .ok (.aload_n 0, 1) := by decide +kernel
theorem d_M_take_60 : decode b_M_take 60 = .ok (.iload_n 1, 1) := by decide +kernel
theorem d_M_take_61 : decode b_M_take 61 = .ok (.invokevirtual 248, 3) := by decide +kernel
theorem d_M_take_64 : decode b_M_take 64 = .ok (.lastore, 1) := by decide +kernel
theorem d_M_take_65 : decode b_M_take 65 = .ok (.aload_n 0, 1) := by decide +kernel
theorem d_M_take_66 : decode b_M_take 66 = .ok (.getfield 93, 3) := by decide +kernel
theorem d_M_take_69 : decode b_M_take 69 = .ok (.iload_n 1, 1) := by decide +kernel
theorem d_M_take_70 : decode b_M_take 70 = .ok (.iload_n 2, 1) := by decide +kernel
theorem d_M_take_71 : decode b_M_take 71 = .ok (.iastore, 1) := by decide +kernel
theorem d_M_take_72 : decode b_M_take 72 = .ok (.aload_n 0, 1) := by decide +kernel
theorem d_M_take_73 : decode b_M_take 73 = .ok (.getfield 114, 3) := by decide +kernel
theorem d_M_take_76 : decode b_M_take 76 = .ok (.bipush 8, 2) := by decide +kernel
theorem d_M_take_78 : decode b_M_take 78 = .ok (.iload_n 1, 1) := by decide +kernel
theorem d_M_take_79 : decode b_M_take 79 = .ok (.imul, 1) := by decide +kernel
theorem d_M_take_80 : decode b_M_take 80 = .ok (.iload_n 2, 1) := by decide +kernel
theorem d_M_take_81 : decode b_M_take 81 = .ok (.iadd, 1) := by decide +kernel
theorem d_M_take_82 : decode b_M_take 82 = .ok (.iconst 1, 1) := by decide +kernel
theorem d_M_take_83 : decode b_M_take 83 = .ok (.iastore, 1) := by decide +kernel
theorem d_M_take_84 : decode b_M_take 84 = .ok (.aload_n 0, 1) := by decide +kernel
theorem d_M_take_85 : decode b_M_take 85 = .ok (.getfield 13, 3) := by decide +kernel
theorem d_M_take_88 : decode b_M_take 88 = .ok (.iload_n 2, 1) := by decide +kernel
theorem d_M_take_89 : decode b_M_take 89 = .ok (.dup2, 1) := by decide +kernel
theorem d_M_take_90 : decode b_M_take 90 = .ok (.laload, 1) := by decide +kernel
theorem d_M_take_91 : decode b_M_take 91 = .ok (.aload_n 0, 1) := by decide +kernel
theorem d_M_take_92 : decode b_M_take 92 = .ok (.getfield 90, 3) := by decide +kernel
theorem d_M_take_95 : decode b_M_take 95 = .ok (.iload_n 1, 1) := by decide +kernel
theorem d_M_take_96 : decode b_M_take 96 = .ok (.laload, 1) := by decide +kernel
theorem d_M_take_97 : decode b_M_take 97 = .ok (.lsub, 1) := by decide +kernel
theorem d_M_take_98 : decode b_M_take 98 = .ok (.lastore, 1) := by decide +kernel
theorem d_M_take_99 : decode b_M_take 99 = .ok (.aload_n 0, 1) := by decide +kernel
theorem d_M_take_100 : decode b_M_take 100 = .ok (.dup, 1) := by decide +kernel
theorem d_M_take_101 : decode b_M_take 101 = .ok (.getfield 152, 3) := by decide +kernel
theorem d_M_take_104 : decode b_M_take 104 = .ok (.aload_n 0, 1) := by decide +kernel
theorem d_M_take_105 : decode b_M_take 105 = .ok (.getfield 90, 3) := by decide +kernel
theorem d_M_take_108 : decode b_M_take 108 = .ok (.iload_n 1, 1) := by decide +kernel
theorem d_M_take_109 : decode b_M_take 109 = .ok (.laload, 1) := by decide +kernel
theorem d_M_take_110 : decode b_M_take 110 = .ok (.ladd, 1) := by decide +kernel
theorem d_M_take_111 : decode b_M_take 111 = .ok (.putfield 152, 3) := by decide +kernel
theorem d_M_take_114 : decode b_M_take 114 = .ok (.aload_n 0, 1) := by decide +kernel
theorem d_M_take_115 : decode b_M_take 115 = .ok (.getfield 90, 3) := by decide +kernel
theorem d_M_take_118 : decode b_M_take 118 = .ok (.iload_n 1, 1) := by decide +kernel
theorem d_M_take_119 : decode b_M_take 119 = .ok (.laload, 1) := by decide +kernel
theorem d_M_take_120 : decode b_M_take 120 = .ok (.l2i, 1) := by decide +kernel
theorem d_M_take_121 : decode b_M_take 121 = .ok (.ireturn, 1) := by decide +kernel
theorem d_M_price_0 : decode b_M_price 0 = .ok (.aload_n 0, 1) := by decide +kernel
theorem d_M_price_1 : decode b_M_price 1 = .ok (.iload_n 1, 1) := by decide +kernel
theorem d_M_price_2 : decode b_M_price 2 = .ok (.invokevirtual 228, 3) := by decide +kernel
theorem d_M_price_5 : decode b_M_price 5 = .ok (.ifCond .ne 5, 3) := by decide +kernel
theorem d_M_price_8 : decode b_M_price 8 = .ok (.iconst (-1), 1) := by decide +kernel
theorem d_M_price_9 : decode b_M_price 9 = .ok (.ireturn, 1) := by decide +kernel
theorem d_M_price_10 : decode b_M_price 10 = .ok (.aload_n 0, 1) := by decide +kernel
theorem d_M_price_11 : decode b_M_price 11 = .ok (.getfield 72, 3) := by decide +kernel
theorem d_M_price_14 : decode b_M_price 14 = .ok (.iload_n 1, 1) := by decide +kernel
theorem d_M_price_15 : decode b_M_price 15 = .ok (.iaload, 1) := by decide +kernel
theorem d_M_price_16 : decode b_M_price 16 = .ok (.ifCond .ne 62, 3) := by decide +kernel
theorem d_M_price_19 : decode b_M_price 19 = .ok (.iconst (-1), 1) := by decide +kernel
theorem d_M_price_20 : decode b_M_price 20 = .ok (.istore_n 2, 1) := by decide +kernel
theorem d_M_price_21 : decode b_M_price 21 = .ok (.iconst 0, 1) := by decide +kernel
theorem d_M_price_22 : decode b_M_price 22 = .ok (.istore_n 3, 1) := by decide +kernel
theorem d_M_price_23 : decode b_M_price 23 = .ok (.iload_n 3, 1) := by decide +kernel
theorem d_M_price_24 : decode b_M_price 24 = .ok (.aload_n 0, 1) := by decide +kernel
theorem d_M_price_25 : decode b_M_price 25 = .ok (.getfield 136, 3) := by decide +kernel
theorem d_M_price_28 : decode b_M_price 28 = .ok (.if_icmp .ge 39, 3) := by decide +kernel
theorem d_M_price_31 : decode b_M_price 31 = .ok (.aload_n 0, 1) := by decide +kernel
theorem d_M_price_32 : decode b_M_price 32 = .ok (.getfield 96, 3) := by decide +kernel
theorem d_M_price_35 : decode b_M_price 35 = .ok (.bipush 8, 2) := by decide +kernel
theorem d_M_price_37 : decode b_M_price 37 = .ok (.iload_n 1, 1) := by decide +kernel
theorem d_M_price_38 : decode b_M_price 38 = .ok (.imul, 1) := by decide +kernel
theorem d_M_price_39 : decode b_M_price 39 = .ok (.iload_n 3, 1) := by decide +kernel
theorem d_M_price_40 : decode b_M_price 40 = .ok (.iadd, 1) := by decide +kernel
theorem d_M_price_41 : decode b_M_price 41 = .ok (.baload, 1) := by decide +kernel
theorem d_M_price_42 : decode b_M_price 42 = .ok (.ifCond .eq 17, 3) := by decide +kernel
theorem d_M_price_45 : decode b_M_price 45 = .ok (.aload_n 0, 1) := by decide +kernel
theorem d_M_price_46 : decode b_M_price 46 = .ok (.getfield 102, 3) := by decide +kernel
theorem d_M_price_49 : decode b_M_price 49 = .ok (.bipush 8, 2) := by decide +kernel
theorem d_M_price_51 : decode b_M_price 51 = .ok (.iload_n 1, 1) := by decide +kernel
theorem d_M_price_52 : decode b_M_price 52 = .ok (.imul, 1) := by decide +kernel
theorem d_M_price_53 : decode b_M_price 53 = .ok (.iload_n 3, 1) := by decide +kernel
theorem d_M_price_54 : decode b_M_price 54 = .ok (.iadd, 1) := by decide +kernel
theorem d_M_price_55 : decode b_M_price 55 = .ok (.iaload, 1) := by decide +kernel
theorem d_M_price_56 : decode b_M_price 56 = .ok (.goto 4, 3) := by decide +kernel
theorem d_M_price_59 : decode b_M_price 59 = .ok (.iload_n 2, 1) := by decide +kernel
theorem d_M_price_60 : decode b_M_price 60 = .ok (.istore_n 2, 1) := by decide +kernel
theorem d_M_price_61 : decode b_M_price 61 = .ok (.iinc 3 1, 3) := by decide +kernel
theorem d_M_price_64 : decode b_M_price 64 = .ok (.goto (-41), 3) := by decide +kernel
theorem d_M_price_67 : decode b_M_price 67 = .ok (.iload_n 2, 1) := by decide +kernel
theorem d_M_price_68 : decode b_M_price 68 = .ok (.ifCond .ge 8, 3) := by decide +kernel
theorem d_M_price_71 : decode b_M_price 71 = .ok (.bipush (-3), 2) := by decide +kernel
theorem d_M_price_73 : decode b_M_price 73 = .ok (.goto 4, 3) := by decide +kernel
theorem d_M_price_76 : decode b_M_price 76 = .ok (.iload_n 2, 1) := by decide +kernel
theorem d_M_price_77 : decode b_M_price 77 = .ok (.ireturn, 1) := by decide +kernel
theorem d_M_price_78 : decode b_M_price 78 = .ok (.aload_n 0, 1) := by decide +kernel
theorem d_M_price_79 : decode b_M_price 79 = .ok (.getfield 72, 3) := by decide +kernel
theorem d_M_price_82 : decode b_M_price 82 = .ok (.iload_n 1, 1) := by decide +kernel
theorem d_M_price_83 : decode b_M_price 83 = .ok (.iaload, 1) := by decide +kernel
theorem d_M_price_84 : decode b_M_price 84 = .ok (.iconst 3, 1) := by decide +kernel
theorem d_M_price_85 : decode b_M_price 85 = .ok (.if_icmp .ne 18, 3) := by decide +kernel
theorem d_M_price_88 : decode b_M_price 88 = .ok (.aload_n 0, 1) := by decide +kernel
theorem d_M_price_89 : decode b_M_price 89 = .ok (.iload_n 1, 1) := by decide +kernel
theorem d_M_price_90 : decode b_M_price 90 = .ok (.invokevirtual 231, 3) := by decide +kernel
theorem d_M_price_93 : decode b_M_price 93 = .ok (.ifCond .ne 10, 3) := by decide +kernel
theorem d_M_price_96 : decode b_M_price 96 = .ok (.aload_n 0, 1) := by decide +kernel
theorem d_M_price_97 : decode b_M_price 97 = .ok (.iload_n 1, 1) := by decide +kernel
theorem d_M_price_98 : decode b_M_price 98 = .ok (.invokevirtual 248, 3) := by decide +kernel
theorem d_M_price_101 : decode b_M_price 101 = .ok (.l2i, 1) := by decide +kernel
theorem d_M_price_102 : decode b_M_price 102 = .ok (.ireturn, 1) := by decide +kernel
theorem d_M_price_103 : decode b_M_price 103 = .ok (.aload_n 0, 1) := by decide +kernel
theorem d_M_price_104 : decode b_M_price 104 = .ok (.getfield 90, 3) := by decide +kernel
theorem d_M_price_107 : decode b_M_price 107 = .ok (.iload_n 1, 1) := by decide +kernel
theorem d_M_price_108 : decode b_M_price 108 = .ok (.laload, 1) := by decide +kernel
theorem d_M_price_109 : decode b_M_price 109 = .ok (.l2i, 1) := by decide +kernel
theorem d_M_price_110 : decode b_M_price 110 = .ok (.ireturn, 1) := by decide +kernel
theorem d_M_won_0 : decode b_M_won 0 = .ok (.aload_n 0, 1) := by decide +kernel
theorem d_M_won_1 : decode b_M_won 1 = .ok (.iload_n 1, 1) := by decide +kernel
theorem d_M_won_2 : decode b_M_won 2 = .ok (.invokevirtual 228, 3) := by decide +kernel
theorem d_M_won_5 : decode b_M_won 5 = .ok (.ifCond .eq 25, 3) := by decide +kernel
theorem d_M_won_8 : decode b_M_won 8 = .ok (.aload_n 0, 1) := by decide +kernel
theorem d_M_won_9 : decode b_M_won 9 = .ok (.iload_n 2, 1) := by decide +kernel
theorem d_M_won_10 : decode b_M_won 10 = .ok (.invokevirtual 143, 3) := by decide +kernel
theorem d_M_won_13 : decode b_M_won 13 = .ok (.ifCond .eq 17, 3) := by decide +kernel
theorem d_M_won_16 : decode b_M_won 16 = .ok (.aload_n 0, 1) := by decide +kernel
theorem d_M_won_17 : decode b_M_won 17 = .ok (.getfield 114, 3) := by decide +kernel
theorem d_M_won_20 : decode b_M_won 20 = .ok (.bipush 8, 2) := by decide +kernel
theorem d_M_won_22 : decode b_M_won 22 = .ok (.iload_n 1, 1) := by decide +kernel
theorem d_M_won_23 : decode b_M_won 23 = .ok (.imul, 1) := by decide +kernel
theorem d_M_won_24 : decode b_M_won 24 = .ok (.iload_n 2, 1) := by decide +kernel
theorem d_M_won_25 : decode b_M_won 25 = .ok (.iadd, 1) := by decide +kernel
theorem d_M_won_26 : decode b_M_won 26 = .ok (.iaload, 1) := by decide +kernel
theorem d_M_won_27 : decode b_M_won 27 = .ok (.goto 4, 3) := by decide +kernel
theorem d_M_won_30 : decode b_M_won 30 = .ok (.iconst (-1), 1) := by decide +kernel
theorem d_M_won_31 : decode b_M_won 31 = .ok (.ireturn, 1) := by decide +kernel
