theorem d_M_pay_0 : decode b_M_pay 0 = .ok (.aload_n 0, 1) := by decide +kernel
theorem d_M_pay_1 : decode b_M_pay 1 = .ok (.getfield 17, 3) := by decide +kernel
theorem d_M_pay_4 : decode b_M_pay 4 = .ok (.iload_n 1, 1) := by decide +kernel
theorem d_M_pay_5 : decode b_M_pay 5 = .ok (.dup2, 1) := by decide +kernel
theorem d_M_pay_6 : decode b_M_pay 6 = .ok (.laload, 1) := by decide +kernel
theorem d_M_pay_7 : decode b_M_pay 7 = .ok (.lload_n 2, 1) := by decide +kernel
theorem d_M_pay_8 : decode b_M_pay 8 = .ok (.lsub, 1) := by decide +kernel
theorem d_M_pay_9 : decode b_M_pay 9 = .ok (.lastore, 1) := by decide +kernel
theorem d_M_pay_10 : decode b_M_pay 10 = .ok (.aload_n 0, 1) := by decide +kernel
theorem d_M_pay_11 : decode b_M_pay 11 = .ok (.dup, 1) := by decide +kernel
theorem d_M_pay_12 : decode b_M_pay 12 = .ok (.getfield 152, 3) := by decide +kernel
theorem d_M_pay_15 : decode b_M_pay 15 = .ok (.lload_n 2, 1) := by decide +kernel
theorem d_M_pay_16 : decode b_M_pay 16 = .ok (.ladd, 1) := by decide +kernel
theorem d_M_pay_17 : decode b_M_pay 17 = .ok (.putfield 152, 3) := by decide +kernel
theorem d_M_pay_20 : decode b_M_pay 20 = .ok (.return_, 1) := by decide +kernel
theorem d_M_setAside_0 : decode b_M_setAside 0 = .ok (.aload_n 0, 1) := by decide +kernel
theorem d_M_setAside_1 : decode b_M_setAside 1 = .ok (.getfield 17, 3) := by decide +kernel
theorem d_M_setAside_4 : decode b_M_setAside 4 = .ok (.iload_n 1, 1) := by decide +kernel
theorem d_M_setAside_5 : decode b_M_setAside 5 = .ok (.dup2, 1) := by decide +kernel
theorem d_M_setAside_6 : decode b_M_setAside 6 = .ok (.laload, 1) := by decide +kernel
theorem d_M_setAside_7 : decode b_M_setAside 7 = .ok (.lload_n 2, 1) := by decide +kernel
theorem d_M_setAside_8 : decode b_M_setAside 8 = .ok (.ladd, 1) := by decide +kernel
theorem d_M_setAside_9 : decode b_M_setAside 9 = .ok (.lastore, 1) := by decide +kernel
theorem d_M_setAside_10 : decode b_M_setAside 10 = .ok (.aload_n 0, 1) := by decide +kernel
theorem d_M_setAside_11 : decode b_M_setAside 11 = .ok (.getfield 13, 3) := by decide +kernel
theorem d_M_setAside_14 : decode b_M_setAside 14 = .ok (.iload_n 1, 1) := by decide +kernel
theorem d_M_setAside_15 : decode b_M_setAside 15 = .ok (.dup2, 1) := by decide +kernel
theorem d_M_setAside_16 : decode b_M_setAside 16 = .ok (.laload, 1) := by decide +kernel
theorem d_M_setAside_17 : decode b_M_setAside 17 = .ok (.lload_n 2, 1) := by decide +kernel
theorem d_M_setAside_18 : decode b_M_setAside 18 = .ok (.lsub, 1) := by decide +kernel
theorem d_M_setAside_19 : decode b_M_setAside 19 = .ok (.lastore, 1) := by decide +kernel
theorem d_M_setAside_20 : decode b_M_setAside 20 = .ok (.return_, 1) := by decide +kernel
theorem d_M_endUnits_0 : decode b_M_endUnits 0 = .ok (.aload_n 0, 1) := by decide +kernel
theorem d_M_endUnits_1 : decode b_M_endUnits 1 = .ok (.getfield 75, 3) := by decide +kernel
theorem d_M_endUnits_4 : decode b_M_endUnits 4 = .ok (.iload_n 1, 1) := by decide +kernel
theorem d_M_endUnits_5 : decode b_M_endUnits 5 = .ok (.iaload, 1) := by decide +kernel
theorem d_M_endUnits_6 : decode b_M_endUnits 6 = .ok (.istore_n 2, 1) := by decide +kernel
theorem d_M_endUnits_7 : decode b_M_endUnits 7 = .ok (.aload_n 0, 1) := by decide +kernel
theorem d_M_endUnits_8 : decode b_M_endUnits 8 = .ok (.iload_n 1, 1) := by decide +kernel
theorem d_M_endUnits_9 : decode b_M_endUnits 9 = .ok (.iconst (-1), 1) := by decide +kernel
theorem d_M_endUnits_10 : decode b_M_endUnits 10 = .ok (.invokevirtual 234, 3) := by decide +kernel
theorem d_M_endUnits_13 : decode b_M_endUnits 13 = .ok (.istore_n 3, 1) := by decide +kernel
theorem d_M_endUnits_14 : decode b_M_endUnits 14 = .ok (.iload_n 2, 1) := by decide +kernel
theorem d_M_endUnits_15 : decode b_M_endUnits 15 = .ok (.ifCond .le 78, 3) := by decide +kernel
theorem d_M_endUnits_18 : decode b_M_endUnits 18 = .ok (.iload_n 3, 1) := by decide +kernel
theorem d_M_endUnits_19 : decode b_M_endUnits 19 = .ok (.ifCond .lt 74, 3) := by decide +kernel
theorem d_M_endUnits_22 : decode b_M_endUnits 22 = .ok (.bipush 8, 2) := by decide +kernel
theorem d_M_endUnits_24 : decode b_M_endUnits 24 = .ok (.iload_n 1, 1) := by decide +kernel
theorem d_M_endUnits_25 : decode b_M_endUnits 25 = .ok (.imul, 1) := by decide +kernel
theorem d_M_endUnits_26 : decode b_M_endUnits 26 = .ok (.iload_n 3, 1) := by decide +kernel
theorem d_M_endUnits_27 : decode b_M_endUnits 27 = .ok (.iadd, 1) := by decide +kernel
theorem d_M_endUnits_28 : decode b_M_endUnits 28 = .ok (.istore 4, 2) := by decide +kernel
theorem d_M_endUnits_30 : decode b_M_endUnits 30 = .ok (.aload_n 0, 1) := by decide +kernel
theorem d_M_endUnits_31 : decode b_M_endUnits 31 = .ok (.getfield 114, 3) := by decide +kernel
theorem d_M_endUnits_34 : decode b_M_endUnits 34 = .ok (.iload 4, 2) := by decide +kernel
theorem d_M_endUnits_36 : decode b_M_endUnits 36 = .ok (.aload_n 0, 1) := by decide +kernel
theorem d_M_endUnits_37 : decode b_M_endUnits 37 = .ok (.getfield 99, 3) := by decide +kernel
theorem d_M_endUnits_40 : decode b_M_endUnits 40 = .ok (.iload 4, 2) := by decide +kernel
theorem d_M_endUnits_42 : decode b_M_endUnits 42 = .ok (.iaload, 1) := by decide +kernel
theorem d_M_endUnits_43 : decode b_M_endUnits 43 = .ok (.iload_n 2, 1) := by decide +kernel
theorem d_M_endUnits_44 : decode b_M_endUnits 44 = .ok (.if_icmp .ge 13, 3) := by decide +kernel
theorem d_M_endUnits_47 : decode b_M_endUnits 47 = .ok (.aload_n 0, 1) := by decide +kernel
theorem d_M_endUnits_48 : decode b_M_endUnits 48 = .ok (.getfield 99, 3) := by decide +kernel
theorem d_M_endUnits_51 : decode b_M_endUnits 51 = .ok (.iload 4, 2) := by decide +kernel
theorem d_M_endUnits_53 : decode b_M_endUnits 53 = .ok (.iaload, 1) := by decide +kernel
theorem d_M_endUnits_54 : decode b_M_endUnits 54 = .ok (.goto 4, 3) := by decide +kernel
theorem d_M_endUnits_57 : decode b_M_endUnits 57 = .ok (.iload_n 2, 1) := by decide +kernel
theorem d_M_endUnits_58 : decode b_M_endUnits 58 = .ok (.iastore, 1) := by decide +kernel
theorem d_M_endUnits_59 : decode b_M_endUnits 59 = .ok (.iload_n 2, 1) := by decide +kernel
theorem d_M_endUnits_60 : decode b_M_endUnits 60 = .ok (.aload_n 0, 1) := by decide +kernel
theorem d_M_endUnits_61 : decode b_M_endUnits 61 = .ok (.getfield 114, 3) := by decide +kernel
theorem d_M_endUnits_64 : decode b_M_endUnits 64 = .ok (.iload 4, 2) := by decide +kernel
theorem d_M_endUnits_66 : decode b_M_endUnits 66 = .ok (.iaload, 1) := by decide +kernel
theorem d_M_endUnits_67 : decode b_M_endUnits 67 = .ok (.isub, 1) := by decide +kernel
theorem d_M_endUnits_68 : decode b_M_endUnits 68 = .ok (.istore_n 2, 1) := by decide +kernel
theorem d_M_endUnits_69 : decode b_M_endUnits 69 = .ok (.aload_n 0, 1) := by decide +kernel
theorem d_M_endUnits_70 : decode b_M_endUnits 70 = .ok (.getfield 90, 3) := by decide +kernel
theorem d_M_endUnits_73 : decode b_M_endUnits 73 = .ok (.iload_n 1, 1) := by decide +kernel
theorem d_M_endUnits_74 : decode b_M_endUnits 74 = .ok (.aload_n 0, 1) := by decide +kernel
theorem d_M_endUnits_75 : decode b_M_endUnits 75 = .ok (.getfield 102, 3) := by decide +kernel
theorem d_M_endUnits_78 : decode b_M_endUnits 78 = .ok (.iload 4, 2) := by decide +kernel
theorem d_M_endUnits_80 : decode b_M_endUnits 80 = .ok (.iaload, 1) := by decide +kernel
theorem d_M_endUnits_81 : decode b_M_endUnits 81 = .ok (.i2l, 1) := by decide +kernel
theorem d_M_endUnits_82 : decode b_M_endUnits 82 = .ok (.lastore, 1) := by decide +kernel
theorem d_M_endUnits_83 : decode b_M_endUnits 83 = .ok (.aload_n 0, 1) := by decide +kernel
theorem d_M_endUnits_84 : decode b_M_endUnits 84 = .ok (.iload_n 1, 1) := by decide +kernel
theorem d_M_endUnits_85 : decode b_M_endUnits 85 = .ok (.iconst (-1), 1) := by decide +kernel
theorem d_M_endUnits_86 : decode b_M_endUnits 86 = .ok (.invokevirtual 234, 3) := by decide +kernel
theorem d_M_endUnits_89 : decode b_M_endUnits 89 = .ok (.istore_n 3, 1) := by decide +kernel
theorem d_M_endUnits_90 : decode b_M_endUnits 90 = .ok (.goto (-76), 3) := by decide +kernel
theorem d_M_endUnits_93 : decode b_M_endUnits 93 = .ok (.iconst 0, 1) := by decide +kernel
theorem d_M_endUnits_94 : decode b_M_endUnits 94 = .ok (.istore 4, 2) := by decide +kernel
theorem d_M_endUnits_96 : decode b_M_endUnits 96 = .ok (.iload 4, 2) := by decide +kernel
theorem d_M_endUnits_98 : decode b_M_endUnits 98 = .ok (.aload_n 0, 1) := by decide +kernel
theorem d_M_endUnits_99 : decode b_M_endUnits 99 = .ok (.getfield 136, 3) := by decide +kernel
theorem d_M_endUnits_102 : decode b_M_endUnits 102 = .ok (.if_icmp .ge 94, 3) := by decide +kernel
theorem d_M_endUnits_105 : decode b_M_endUnits 105 = .ok (.bipush 8, 2) := by decide +kernel
theorem d_M_endUnits_107 : decode b_M_endUnits 107 = .ok (.iload_n 1, 1) := by decide +kernel
theorem d_M_endUnits_108 : decode b_M_endUnits 108 = .ok (.imul, 1) := by decide +kernel
theorem d_M_endUnits_109 : decode b_M_endUnits 109 = .ok (.iload 4, 2) := by decide +kernel
theorem d_M_endUnits_111 : decode b_M_endUnits 111 = .ok (.iadd, 1) := by decide +kernel
theorem d_M_endUnits_112 : decode b_M_endUnits 112 = .ok (.istore 5, 2) := by decide +kernel
theorem d_M_endUnits_114 : decode b_M_endUnits 114 = .ok (.aload_n 0, 1) := by decide +kernel
theorem d_M_endUnits_115 : decode b_M_endUnits 115 = .ok (.getfield 96, 3) := by decide +kernel
theorem d_M_endUnits_118 : decode b_M_endUnits 118 = .ok (.iload 5, 2) := by decide +kernel
theorem d_M_endUnits_120 : decode b_M_endUnits 120 = .ok (.baload, 1) := by decide +kernel
theorem d_M_endUnits_121 : decode b_M_endUnits 121 = .ok (.ifCond .eq 69, 3) := by decide +kernel
theorem d_M_endUnits_124 : decode b_M_endUnits 124 = .ok (.aload_n 0, 1) := by decide +kernel
theorem d_M_endUnits_125 : decode b_M_endUnits 125 = .ok (.getfield 114, 3) := by decide +kernel
theorem d_M_endUnits_128 : decode b_M_endUnits 128 = .ok (.iload 5, 2) := by decide +kernel
theorem d_M_endUnits_130 : decode b_M_endUnits 130 = .ok (.iaload, 1) := by decide +kernel
theorem d_M_endUnits_131 : decode b_M_endUnits 131 = .ok (.i2l, 1) := by decide +kernel
theorem d_M_endUnits_132 : decode b_M_endUnits 132 = .ok (.aload_n 0, 1) := by decide +kernel
theorem d_M_endUnits_133 : decode b_M_endUnits 133 = .ok (.getfield 90, 3) := by decide +kernel
theorem d_M_endUnits_136 : decode b_M_endUnits 136 = .ok (.iload_n 1, 1) := by decide +kernel
theorem d_M_endUnits_137 : decode b_M_endUnits 137 = .ok (.laload, 1) := by decide +kernel
theorem d_M_endUnits_138 : decode b_M_endUnits 138 = .ok (.lmul, 1) := by decide +kernel
theorem d_M_endUnits_139 : decode b_M_endUnits 139 = .ok (.lstore 6, 2) := by decide +kernel
theorem d_M_endUnits_141 : decode b_M_endUnits 141 = .ok (.aload_n 0, 1) := by decide +kernel
theorem d_M_endUnits_142 : decode b_M_endUnits 142 = .ok (.iload 5, 2) := by decide +kernel
theorem d_M_endUnits_144 : decode b_M_endUnits 144 = .ok (.invokevirtual 237, 3) := by decide +kernel
theorem d_M_endUnits_147 : decode b_M_endUnits 147 = .ok (.lstore 8, 2) := by decide +kernel
theorem d_M_endUnits_149 : decode b_M_endUnits 149 = .ok (.aload_n 0, 1) := by decide +kernel
theorem d_M_endUnits_150 : decode b_M_endUnits 150 = .ok (.iload 4, 2) := by decide +kernel
theorem d_M_endUnits_152 : decode b_M_endUnits 152 = .ok (.lload 6, 2) := by decide +kernel
theorem d_M_endUnits_154 : decode b_M_endUnits 154 = .ok (.lconst 0, 1) := by decide +kernel
theorem d_M_endUnits_155 : decode b_M_endUnits 155 = .ok (.lcmp, 1) := by decide +kernel
theorem d_M_endUnits_156 : decode b_M_endUnits 156 = .ok (.ifCond .le 8, 3) := by decide +kernel
theorem d_M_endUnits_159 : decode b_M_endUnits 159 = .ok (.lload 6, 2) := by decide +kernel
theorem d_M_endUnits_161 : decode b_M_endUnits 161 = .ok (.goto 4, 3) := by decide +kernel
theorem d_M_endUnits_164 : decode b_M_endUnits 164 = .ok (.lconst 0, 1) := by decide +kernel
theorem d_M_endUnits_165 : decode b_M_endUnits 165 = .ok (.invokevirtual 254, 3) := by decide +kernel
theorem d_M_endUnits_168 : decode b_M_endUnits 168 = .ok (.aload_n 0, 1) := by decide +kernel
theorem d_M_endUnits_169 : decode b_M_endUnits 169 = .ok (.iload 4, 2) := by decide +kernel
theorem d_M_endUnits_171 : decode b_M_endUnits 171 = .ok (.lload 6, 2) := by decide +kernel
theorem d_M_endUnits_173 : decode b_M_endUnits 173 = .ok (.lconst 0, 1) := by decide +kernel
theorem d_M_endUnits_174 : decode b_M_endUnits 174 = .ok (.lcmp, 1) := by decide +kernel
theorem d_M_endUnits_175 : decode b_M_endUnits 175 = .ok (.ifCond .le 8, 3) := by decide +kernel
theorem d_M_endUnits_178 : decode b_M_endUnits 178 = .ok (.lload 6, 2) := by decide +kernel
theorem d_M_endUnits_180 : decode b_M_endUnits 180 = .ok (.goto 4, 3) := by decide +kernel
theorem d_M_endUnits_183 : decode b_M_endUnits 183 = .ok (.lconst 0, 1) := by decide +kernel
theorem d_M_endUnits_184 : decode b_M_endUnits 184 = .ok (.lload 8, 2) := by decide +kernel
theorem d_M_endUnits_186 : decode b_M_endUnits 186 = .ok (.lsub, 1) := by decide +kernel
theorem d_M_endUnits_187 : decode b_M_endUnits 187 = .ok (.invokevirtual 241, 3) := by decide +kernel
theorem d_M_endUnits_190 : decode b_M_endUnits 190 = .ok (.iinc 4 1, 3) := by decide +kernel
theorem d_M_endUnits_193 : decode b_M_endUnits 193 = .ok (.goto (-97), 3) := by decide +kernel
theorem d_M_endUnits_196 : decode b_M_endUnits 196 = .ok (.return_, 1) := by decide +kernel
theorem d_M_end_0 : decode b_M_end 0 = .ok (.aload_n 0, 1) := by decide +kernel
theorem d_M_end_1 : decode b_M_end 1 = .ok (.getfield 72, 3) := by decide +kernel
theorem d_M_end_4 : decode b_M_end 4 = .ok (.iload_n 1, 1) := by decide +kernel
theorem d_M_end_5 : decode b_M_end 5 = .ok (.iaload, 1) := by decide +kernel
theorem d_M_end_6 : decode b_M_end 6 = .ok (.iconst 3, 1) := by decide +kernel
theorem d_M_end_7 : decode b_M_end 7 = .ok (.if_icmp .ne 4, 3) := by decide +kernel
theorem d_M_end_10 : decode b_M_end 10 = .ok (.return_, 1) := by decide +kernel
theorem d_M_end_11 : decode b_M_end 11 = .ok (.aload_n 0, 1) := by decide +kernel
theorem d_M_end_12 : decode b_M_end 12 = .ok (.getfield 72, 3) := by decide +kernel
theorem d_M_end_15 : decode b_M_end 15 = .ok (.iload_n 1, 1) := by decide +kernel
theorem d_M_end_16 : decode b_M_end 16 = .ok (.iaload, 1) := by decide +kernel
theorem d_M_end_17 : decode b_M_end 17 = .ok (.iconst 4, 1) := by decide +kernel
theorem d_M_end_18 : decode b_M_end 18 = .ok (.if_icmp .ne 9, 3) := by decide +kernel
theorem d_M_end_21 : decode b_M_end 21 = .ok (.aload_n 0, 1) := by decide +kernel
theorem d_M_end_22 : decode b_M_end 22 = .ok (.iload_n 1, 1) := by decide +kernel
theorem d_M_end_23 : decode b_M_end 23 = .ok (.invokevirtual 251, 3) := by decide +kernel
theorem d_M_end_26 : decode b_M_end 26 = .ok (.return_, 1) := by decide +kernel
theorem d_M_end_27 : decode b_M_end 27 = .ok (.aload_n 0, 1) := by decide +kernel
theorem d_M_end_28 : decode b_M_end 28 = .ok (.iload_n 1, 1) := by decide +kernel
theorem d_M_end_29 : decode b_M_end 29 = .ok (.iconst (-1), 1) := by decide +kernel
theorem d_M_end_30 : decode b_M_end 30 = .ok (.invokevirtual 234, 3) := by decide +kernel
theorem d_M_end_33 : decode b_M_end 33 = .ok (.istore_n 2, 1) := by decide +kernel
theorem d_M_end_34 : decode b_M_end 34 = .ok (.iload_n 2, 1) := by decide +kernel
theorem d_M_end_35 : decode b_M_end 35 = .ok (.ifCond .lt 148, 3) := by decide +kernel
theorem d_M_end_38 : decode b_M_end 38 = .ok (.aload_n 0, 1) := by decide +kernel
theorem d_M_end_39 : decode b_M_end 39 = .ok (.getfield 72, 3) := by decide +kernel
theorem d_M_end_42 : decode b_M_end 42 = .ok (.iload_n 1, 1) := by decide +kernel
theorem d_M_end_43 : decode b_M_end 43 = .ok (.iaload, 1) := by decide +kernel
theorem d_M_end_44 : decode b_M_end 44 = .ok (.iconst 2, 1) := by decide +kernel
theorem d_M_end_45 : decode b_M_end 45 = .ok (.if_icmp .ne 12, 3) := by decide +kernel
theorem d_M_end_48 : decode b_M_end 48 = .ok (.aload_n 0, 1) := by decide +kernel
theorem d_M_end_49 : decode b_M_end 49 = .ok (.iload_n 1, 1) := by decide +kernel
theorem d_M_end_50 : decode b_M_end 50 = .ok (.iload_n 2, 1) := by decide +kernel
theorem d_M_end_51 : decode b_M_end 51 = .ok (.invokevirtual 234, 3) := by decide +kernel
theorem d_M_end_54 : decode b_M_end 54 = .ok (.goto 4, 3) := by decide +kernel
theorem d_M_end_57 : decode b_M_end 57 = .ok (.iconst (-1), 1) := by decide +kernel
theorem d_M_end_58 : decode b_M_end 58 = .ok (.istore_n 3, 1) := by decide +kernel
theorem d_M_end_59 : decode b_M_end 59 = .ok (.aload_n 0, 1) := by decide +kernel
theorem d_M_end_60 : decode b_M_end 60 = .ok (.getfield 78, 3) := by decide +kernel
theorem d_M_end_63 : decode b_M_end 63 = .ok (.iload_n 1, 1) := by decide +kernel
theorem d_M_end_64 : decode b_M_end 64 = .ok (.iaload, 1) := by decide +kernel
theorem d_M_end_65 : decode b_M_end 65 = .ok (.istore 4, 2) := by decide +kernel
theorem d_M_end_67 : decode b_M_end 67 = .ok (.aload_n 0, 1) := by decide +kernel
theorem d_M_end_68 : decode b_M_end 68 = .ok (.getfield 90, 3) := by decide +kernel
theorem d_M_end_71 : decode b_M_end 71 = .ok (.iload_n 1, 1) := by decide +kernel
theorem d_M_end_72 : decode b_M_end 72 = .ok (.aload_n 0, 1) := by decide +kernel
theorem d_M_end_73 : decode b_M_end 73 = .ok (.getfield 72, 3) := by decide +kernel
theorem d_M_end_76 : decode b_M_end 76 = .ok (.iload_n 1, 1) := by decide +kernel
theorem d_M_end_77 : decode b_M_end 77 = .ok (.iaload, 1) := by decide +kernel
theorem d_M_end_78 : decode b_M_end 78 = .ok (.iconst 2, 1) := by decide +kernel
theorem d_M_end_79 : decode b_M_end 79 = .ok (.if_icmp .ge 18, 3) := by decide +kernel
theorem d_M_end_82 : decode b_M_end 82 = .ok (.aload_n 0, 1) := by decide +kernel
theorem d_M_end_83 : decode b_M_end 83 = .ok (.getfield 102, 3) := by decide +kernel
theorem d_M_end_86 : decode b_M_end 86 = .ok (.bipush 8, 2) := by decide +kernel
theorem d_M_end_88 : decode b_M_end 88 = .ok (.iload_n 1, 1) := by decide +kernel
theorem d_M_end_89 : decode b_M_end 89 = .ok (.imul, 1) := by decide +kernel
theorem d_M_end_90 : decode b_M_end 90 = .ok (.iload_n 2, 1) := by decide +kernel
theorem d_M_end_91 : decode b_M_end 91 = .ok (.iadd, 1) := by decide +kernel
theorem d_M_end_92 : decode b_M_end 92 = .ok (.iaload, 1) := by decide +kernel
theorem d_M_end_93 : decode b_M_end 93 = .ok (.i2l, 1) := by decide +kernel
theorem d_M_end_94 : decode b_M_end 94 = .ok (.goto 41, 3) := by decide +kernel
theorem d_M_end_97 : decode b_M_end 97 = .ok (.iload_n 3, 1) := by decide +kernel
theorem d_M_end_98 : decode b_M_end 98 = .ok (.ifCond .lt 34, 3) := by decide +kernel
theorem d_M_end_101 : decode b_M_end 101 = .ok (.aload_n 0, 1) := by decide +kernel
theorem d_M_end_102 : decode b_M_end 102 = .ok (.getfield 102, 3) := by decide +kernel
theorem d_M_end_105 : decode b_M_end 105 = .ok (.bipush 8, 2) := by decide +kernel
theorem d_M_end_107 : decode b_M_end 107 = .ok (.iload_n 1, 1) := by decide +kernel
theorem d_M_end_108 : decode b_M_end 108 = .ok (.imul, 1) := by decide +kernel
theorem d_M_end_109 : decode b_M_end 109 = .ok (.iload_n 3, 1) := by decide +kernel
theorem d_M_end_110 : decode b_M_end 110 = .ok (.iadd, 1) := by decide +kernel
theorem d_M_end_111 : decode b_M_end 111 = .ok (.iaload, 1) := by decide +kernel
theorem d_M_end_112 : decode b_M_end 112 = .ok (.iload 4, 2) := by decide +kernel
theorem d_M_end_114 : decode b_M_end 114 = .ok (.if_icmp .le 18, 3) := by decide +kernel
theorem d_M_end_117 : decode b_M_end 117 = .ok (.aload_n 0, 1) := by decide +kernel
theorem d_M_end_118 : decode b_M_end 118 = .ok (.getfield 102, 3) := by decide +kernel
theorem d_M_end_121 : decode b_M_end 121 = .ok (.bipush 8, 2) := by decide +kernel
theorem d_M_end_123 : decode b_M_end 123 = .ok (.iload_n 1, 1) := by decide +kernel
theorem d_M_end_124 : decode b_M_end 124 = .ok (.imul, 1) := by decide +kernel
theorem d_M_end_125 : decode b_M_end 125 = .ok (.iload_n 3, 1) := by decide +kernel
theorem d_M_end_126 : decode b_M_end 126 = .ok (.iadd, 1) := by decide +kernel
theorem d_M_end_127 : decode b_M_end 127 = .ok (.iaload, 1) := by decide +kernel
theorem d_M_end_128 : decode b_M_end 128 = .ok (.i2l, 1) := by decide +kernel
theorem d_M_end_129 : decode b_M_end 129 = .ok (.goto 6, 3) := by decide +kernel
theorem d_M_end_132 : decode b_M_end 132 = .ok (.iload 4, 2) := by decide +kernel
theorem d_M_end_134 : decode b_M_end 134 = .ok (.i2l, 1) := by decide +kernel
theorem d_M_end_135 : decode b_M_end 135 = .ok (.lastore, 1) := by decide +kernel
theorem d_M_end_136 : decode b_M_end 136 = .ok (.aload_n 0, 1) := by decide +kernel
theorem d_M_end_137 : decode b_M_end 137 = .ok (.getfield 114, 3) := by decide +kernel
theorem d_M_end_140 : decode b_M_end 140 = .ok (.bipush 8, 2) := by decide +kernel
theorem d_M_end_142 : decode b_M_end 142 = .ok (.iload_n 1, 1) := by decide +kernel
theorem d_M_end_143 : decode b_M_end 143 = .ok (.imul, 1) := by decide +kernel
theorem d_M_end_144 : decode b_M_end 144 = .ok (.iload_n 2, 1) := by decide +kernel
theorem d_M_end_145 : decode b_M_end 145 = .ok (.iadd, 1) := by decide +kernel
theorem d_M_end_146 : decode b_M_end 146 = .ok (.iconst 1, 1) := by decide +kernel
theorem d_M_end_147 : decode b_M_end 147 = .ok (.iastore, 1) := by decide +kernel
theorem d_M_end_148 : decode b_M_end 148 = .ok (.aload_n 0, 1) := by decide +kernel
theorem d_M_end_149 : decode b_M_end 149 = .ok (.iload_n 2, 1) := by decide +kernel
theorem d_M_end_150 : decode b_M_end 150 = .ok (.aload_n 0, 1) := by decide +kernel
theorem d_M_end_151 : decode b_M_end 151 = .ok (.getfield 90, 3) := by decide +kernel
theorem d_M_end_154 : decode b_M_end 154 = .ok (.iload_n 1, 1) := by decide +kernel
theorem d_M_end_155 : decode b_M_end 155 = .ok (.laload, 1) := by decide +kernel
theorem d_M_end_156 : decode b_M_end 156 = .ok (.invokevirtual 254, 3) := by decide +kernel
theorem d_M_end_159 : decode b_M_end 159 = .ok (.aload_n 0, 1) := by decide +kernel
theorem d_M_end_160 : decode b_M_end 160 = .ok (.iload_n 2, 1) := by decide +kernel
theorem d_M_end_161 : decode b_M_end 161 = .ok (.aload_n 0, 1) := by decide +kernel
theorem d_M_end_162 : decode b_M_end 162 = .ok (.getfield 90, 3) := by decide +kernel
theorem d_M_end_165 : decode b_M_end 165 = .ok (.iload_n 1, 1) := by decide +kernel
theorem d_M_end_166 : decode b_M_end 166 = .ok (.laload, 1) := by decide +kernel
theorem d_M_end_167 : decode b_M_end 167 = .ok (.aload_n 0, 1) := by decide +kernel
theorem d_M_end_168 : decode b_M_end 168 = .ok (.getfield 102, 3) := by decide +kernel
theorem d_M_end_171 : decode b_M_end 171 = .ok (.bipush 8, 2) := by decide +kernel
theorem d_M_end_173 : decode b_M_end 173 = .ok (.iload_n 1, 1) := by decide +kernel
theorem d_M_end_174 : decode b_M_end 174 = .ok (.imul, 1) := by decide +kernel
theorem d_M_end_175 : decode b_M_end 175 = .ok (.iload_n 2, 1) := by decide +kernel
theorem d_M_end_176 : decode b_M_end 176 = .ok (.iadd, 1) := by decide +kernel
theorem d_M_end_177 : decode b_M_end 177 = .ok (.iaload, 1) := by decide +kernel
theorem d_M_end_178 : decode b_M_end 178 = .ok (.i2l, 1) := by decide +kernel
theorem d_M_end_179 : decode b_M_end 179 = .ok (.lsub, 1) := by decide +kernel
theorem d_M_end_180 : decode b_M_end 180 = .ok (.invokevirtual 241, 3) := by decide +kernel
theorem d_M_end_183 : decode b_M_end 183 = .ok (.iconst 0, 1) := by decide +kernel
theorem d_M_end_184 : decode b_M_end 184 = .ok (.istore_n 3, 1) := by decide +kernel
theorem d_M_end_185 : decode b_M_end 185 = .ok (.iload_n 3, 1) := by decide +kernel
theorem d_M_end_186 : decode b_M_end 186 = .ok (.aload_n 0, 1) := by decide +kernel
theorem d_M_end_187 : decode b_M_end 187 = .ok (.getfield 136, 3) := by decide +kernel
theorem d_M_end_190 : decode b_M_end 190 = .ok (.if_icmp .ge 80, 3) := by decide +kernel
theorem d_M_end_193 : decode b_M_end 193 = .ok (.aload_n 0, 1) := by decide +kernel
theorem d_M_end_194 : decode b_M_end 194 = .ok (.getfield 72, 3) := by decide +kernel
theorem d_M_end_197 : decode b_M_end 197 = .ok (.iload_n 1, 1) := by decide +kernel
theorem d_M_end_198 : decode b_M_end 198 = .ok (.iaload, 1) := by decide +kernel
theorem d_M_end_199 : decode b_M_end 199 = .ok (.ifCond .le 71, 3) := by decide +kernel
theorem d_M_end_202 : decode b_M_end 202 = .ok (.bipush 8, 2) := by decide +kernel
theorem d_M_end_204 : decode b_M_end 204 = .ok (.iload_n 1, 1) := by decide +kernel
theorem d_M_end_205 : decode b_M_end 205 = .ok (.imul, 1) := by decide +kernel
theorem d_M_end_206 : decode b_M_end 206 = .ok (.iload_n 3, 1) := by decide +kernel
theorem d_M_end_207 : decode b_M_end 207 = .ok (.iadd, 1) := by decide +kernel
theorem d_M_end_208 : decode b_M_end 208 = .ok (.istore 4, 2) := by decide +kernel
theorem d_M_end_210 : decode b_M_end 210 = .ok (.aload_n 0, 1) := by decide +kernel
theorem d_M_end_211 : decode b_M_end 211 = .ok (.getfield 96, 3) := by decide +kernel
theorem d_M_end_214 : decode b_M_end 214 = .ok (.iload 4, 2) := by decide +kernel
theorem d_M_end_216 : decode b_M_end 216 = .ok (.baload, 1) := by decide +kernel
theorem d_M_end_217 : decode b_M_end 217 = .ok (.ifCond .eq 47, 3) := by decide +kernel
theorem d_M_end_220 : decode b_M_end 220 = .ok (.iload_n 3, 1) := by decide +kernel
theorem d_M_end_221 : decode b_M_end 221 = .ok (.iload_n 2, 1) := by decide +kernel
theorem d_M_end_222 : decode b_M_end 222 = .ok (.if_icmp .eq 42, 3) := by decide +kernel
theorem d_M_end_225 : decode b_M_end 225 = .ok (.aload_n 0, 1) := by decide +kernel
theorem d_M_end_226 : decode b_M_end 226 = .ok (.getfield 111, 3) := by decide +kernel
theorem d_M_end_229 : decode b_M_end 229 = .ok (.iload 4, 2) := by decide +kernel
theorem d_M_end_231 : decode b_M_end 231 = .ok (.baload, 1) := by decide +kernel
theorem d_M_end_232 : decode b_M_end 232 = .ok (.ifCond .eq 20, 3) := by decide +kernel
theorem d_M_end_235 : decode b_M_end 235 = .ok (.aload_n 0, 1) := by decide +kernel
theorem d_M_end_236 : decode b_M_end 236 = .ok (.iload_n 3, 1) := by decide +kernel
theorem d_M_end_237 : decode b_M_end 237 = .ok (.aload_n 0, 1) := by decide +kernel
theorem d_M_end_238 : decode b_M_end 238 = .ok (.getfield 102, 3) := by decide +kernel
theorem d_M_end_241 : decode b_M_end 241 = .ok (.iload 4, 2) := by decide +kernel
theorem d_M_end_243 : decode b_M_end 243 = .ok (.iaload, 1) := by decide +kernel
theorem d_M_end_244 : decode b_M_end 244 = .ok (.ineg, 1) := by decide +kernel
theorem d_M_end_245 : decode b_M_end 245 = .ok (.i2l, 1) := by decide +kernel
theorem d_M_end_246 : decode b_M_end 246 = .ok (.invokevirtual 241, 3) := by decide +kernel
theorem d_M_end_249 : decode b_M_end 249 = .ok (.goto 15, 3) := by decide +kernel
theorem d_M_end_252 : decode b_M_end 252 = .ok (.aload_n 0, 1) := by decide +kernel
theorem d_M_end_253 : decode b_M_end 253 = .ok (.iload_n 3, 1) := by decide +kernel
theorem d_M_end_254 : decode b_M_end 254 = .ok (.aload_n 0, 1) := by decide +kernel
theorem d_M_end_255 : decode b_M_end 255 = .ok (.getfield 78, 3) := by decide +kernel
theorem d_M_end_258 : decode b_M_end 258 = .ok (.iload_n 1, 1) := by decide +kernel
theorem d_M_end_259 : decode b_M_end 259 = .ok (.iaload, 1) := by decide +kernel
theorem d_M_end_260 : decode b_M_end 260 = .ok (.i2l, 1) := by decide +kernel
theorem d_M_end_261 : decode b_M_end 261 = .ok (.invokevirtual 254, 3) := by decide +kernel
theorem d_M_end_264 : decode b_M_end 264 = .ok (.iinc 3 1, 3) := by decide +kernel
theorem d_M_end_267 : decode b_M_end 267 = .ok (.goto (-82), 3) := by decide +kernel
theorem d_M_end_270 : decode b_M_end 270 = .ok (.return_, 1) := by decide +kernel
theorem d_M_tick_0 : decode b_M_tick 0 = .ok (.iload_n 1, 1) := by decide +kernel
theorem d_M_tick_1 : decode b_M_tick 1 = .ok (.iconst 0, 1) := by decide +kernel
theorem d_M_tick_2 : decode b_M_tick 2 = .ok (.bipush 50, 2) := by decide +kernel
theorem d_M_tick_4 : decode b_M_tick 4 = .ok (.invokestatic 139, 3) := by decide +kernel
theorem d_M_tick_7 : decode b_M_tick 7 = .ok (.ifCond .ne 6, 3) := by decide +kernel
theorem d_M_tick_10 : decode b_M_tick 10 = .ok (.bipush (-2), 2) := by decide +kernel
theorem d_M_tick_12 : decode b_M_tick 12 = .ok (.ireturn, 1) := by decide +kernel
theorem d_M_tick_13 : decode b_M_tick 13 = .ok (.iconst 0, 1) := by decide +kernel
theorem d_M_tick_14 : decode b_M_tick 14 = .ok (.istore_n 2, 1) := by decide +kernel
theorem d_M_tick_15 : decode b_M_tick 15 = .ok (.iload_n 2, 1) := by decide +kernel
theorem d_M_tick_16 : decode b_M_tick 16 = .ok (.iload_n 1, 1) := by decide +kernel
theorem d_M_tick_17 : decode b_M_tick 17 = .ok (.if_icmp .ge 119, 3) := by decide +kernel
theorem d_M_tick_20 : decode b_M_tick 20 = .ok (.aload_n 0, 1) := by decide +kernel
theorem d_M_tick_21 : decode b_M_tick 21 = .ok (.dup, 1) := by decide +kernel
theorem d_M_tick_22 : decode b_M_tick 22 = .ok (.getfield 156, 3) := by decide +kernel
theorem d_M_tick_25 : decode b_M_tick 25 = .ok (.iconst 1, 1) := by decide +kernel
theorem d_M_tick_26 : decode b_M_tick 26 = .ok (.iadd, 1) := by decide +kernel
theorem d_M_tick_27 : decode b_M_tick 27 = .ok (.putfield 156, 3) := by decide +kernel
theorem d_M_tick_30 : decode b_M_tick 30 = .ok (.iconst 0, 1) := by decide +kernel
theorem d_M_tick_31 : decode b_M_tick 31 = .ok (.istore_n 3, 1) := by decide +kernel
theorem d_M_tick_32 : decode b_M_tick 32 = .ok (.iload_n 3, 1) := by decide +kernel
theorem d_M_tick_33 : decode b_M_tick 33 = .ok (.aload_n 0, 1) := by decide +kernel
theorem d_M_tick_34 : decode b_M_tick 34 = .ok (.getfield 159, 3) := by decide +kernel
theorem d_M_tick_37 : decode b_M_tick 37 = .ok (.if_icmp .ge 59, 3) := by decide +kernel
theorem d_M_tick_40 : decode b_M_tick 40 = .ok (.iconst 0, 1) := by decide +kernel
theorem d_M_tick_41 : decode b_M_tick 41 = .ok (.istore 4, 2) := by decide +kernel
theorem d_M_tick_43 : decode b_M_tick 43 = .ok (.iload 4, 2) := by decide +kernel
theorem d_M_tick_45 : decode b_M_tick 45 = .ok (.aload_n 0, 1) := by decide +kernel
theorem d_M_tick_46 : decode b_M_tick 46 = .ok (.getfield 136, 3) := by decide +kernel
theorem d_M_tick_49 : decode b_M_tick 49 = .ok (.if_icmp .ge 41, 3) := by decide +kernel
theorem d_M_tick_52 : decode b_M_tick 52 = .ok (.aload_n 0, 1) := by decide +kernel
theorem d_M_tick_53 : decode b_M_tick 53 = .ok (.getfield 32, 3) := by decide +kernel
theorem d_M_tick_56 : decode b_M_tick 56 = .ok (.iload_n 3, 1) := by decide +kernel
theorem d_M_tick_57 : decode b_M_tick 57 = .ok (.iaload, 1) := by decide +kernel
theorem d_M_tick_58 : decode b_M_tick 58 = .ok (.aload_n 0, 1) := by decide +kernel
theorem d_M_tick_59 : decode b_M_tick 59 = .ok (.getfield 156, 3) := by decide +kernel
theorem d_M_tick_62 : decode b_M_tick 62 = .ok (.if_icmp .ne 28, 3) := by decide +kernel
theorem d_M_tick_65 : decode b_M_tick 65 = .ok (.aload_n 0, 1) := by decide +kernel
theorem d_M_tick_66 : decode b_M_tick 66 = .ok (.getfield 69, 3) := by decide +kernel
theorem d_M_tick_69 : decode b_M_tick 69 = .ok (.bipush 8, 2) := by decide +kernel
theorem d_M_tick_71 : decode b_M_tick 71 = .ok (.iload_n 3, 1) := by decide +kernel
theorem d_M_tick_72 : decode b_M_tick 72 = .ok (.imul, 1) := by decide +kernel
theorem d_M_tick_73 : decode b_M_tick 73 = .ok (.iload 4, 2) := by decide +kernel
theorem d_M_tick_75 : decode b_M_tick 75 = .ok (.iadd, 1) := by decide +kernel
theorem d_M_tick_76 : decode b_M_tick 76 = .ok (.aload_n 0, 1) := by decide +kernel
theorem d_M_tick_77 : decode b_M_tick 77 = .ok (.getfield 20, 3) := by decide +kernel
theorem d_M_tick_80 : decode b_M_tick 80 = .ok (.iload 4, 2) := by decide +kernel
theorem d_M_tick_82 : decode b_M_tick 82 = .ok (.iaload, 1) := by decide +kernel
theorem d_M_tick_83 : decode b_M_tick 83 = .ok (.iastore, 1) := by decide +kernel
theorem d_M_tick_84 : decode b_M_tick 84 = .ok (.iinc 4 1, 3) := by decide +kernel
theorem d_M_tick_87 : decode b_M_tick 87 = .ok (.goto (-44), 3) := by decide +kernel
theorem d_M_tick_90 : decode b_M_tick 90 = .ok (.iinc 3 1, 3) := by decide +kernel
theorem d_M_tick_93 : decode b_M_tick 93 = .ok (.goto (-61), 3) := by decide +kernel
theorem d_M_tick_96 : decode b_M_tick 96 = .ok (.iconst 0, 1) := by decide +kernel
theorem d_M_tick_97 : decode b_M_tick 97 = .ok (.istore_n 3, 1) := by decide +kernel
theorem d_M_tick_98 : decode b_M_tick 98 = .ok (.iload_n 3, 1) := by decide +kernel
theorem d_M_tick_99 : decode b_M_tick 99 = .ok (.aload_n 0, 1) := by decide +kernel
theorem d_M_tick_100 : decode b_M_tick 100 = .ok (.getfield 162, 3) := by decide +kernel
theorem d_M_tick_103 : decode b_M_tick 103 = .ok (.if_icmp .ge 27, 3) := by decide +kernel
theorem d_M_tick_106 : decode b_M_tick 106 = .ok (.aload_n 0, 1) := by decide +kernel
theorem d_M_tick_107 : decode b_M_tick 107 = .ok (.getfield 87, 3) := by decide +kernel
theorem d_M_tick_110 : decode b_M_tick 110 = .ok (.iload_n 3, 1) := by decide +kernel
theorem d_M_tick_111 : decode b_M_tick 111 = .ok (.iaload, 1) := by decide +kernel
theorem d_M_tick_112 : decode b_M_tick 112 = .ok (.aload_n 0, 1) := by decide +kernel
theorem d_M_tick_113 : decode b_M_tick 113 = .ok (.getfield 156, 3) := by decide +kernel
theorem d_M_tick_116 : decode b_M_tick 116 = .ok (.if_icmp .ne 8, 3) := by decide +kernel
theorem d_M_tick_119 : decode b_M_tick 119 = .ok (.aload_n 0, 1) := by decide +kernel
theorem d_M_tick_120 : decode b_M_tick 120 = .ok (.iload_n 3, 1) := by decide +kernel
theorem d_M_tick_121 : decode b_M_tick 121 = .ok (.invokevirtual 165, 3) := by decide +kernel
theorem d_M_tick_124 : decode b_M_tick 124 = .ok (.iinc 3 1, 3) := by decide +kernel
theorem d_M_tick_127 : decode b_M_tick 127 = .ok (.goto (-29), 3) := by decide +kernel
theorem d_M_tick_130 : decode b_M_tick 130 = .ok (.iinc 2 1, 3) := by decide +kernel
theorem d_M_tick_133 : decode b_M_tick 133 = .ok (.goto (-118), 3) := by decide +kernel
theorem d_M_tick_136 : decode b_M_tick 136 = .ok (.aload_n 0, 1) := by decide +kernel
theorem d_M_tick_137 : decode b_M_tick 137 = .ok (.getfield 156, 3) := by decide +kernel
theorem d_M_tick_140 : decode b_M_tick 140 = .ok (.ireturn, 1) := by decide +kernel
theorem d_M_mark_0 : decode b_M_mark 0 = .ok (.iload_n 1, 1) := by decide +kernel
theorem d_M_mark_1 : decode b_M_mark 1 = .ok (.i2l, 1) := by decide +kernel
theorem d_M_mark_2 : decode b_M_mark 2 = .ok (.ldc2_w 169, 3) := by decide +kernel
theorem d_M_mark_5 : decode b_M_mark 5 = .ok (.lmul, 1) := by decide +kernel
theorem d_M_mark_6 : decode b_M_mark 6 = .ok (.iload_n 2, 1) := by decide +kernel
theorem d_M_mark_7 : decode b_M_mark 7 = .ok (.i2l, 1) := by decide +kernel
theorem d_M_mark_8 : decode b_M_mark 8 = .ok (.ladd, 1) := by decide +kernel
theorem d_M_mark_9 : decode b_M_mark 9 = .ok (.lstore 4, 2) := by decide +kernel
theorem d_M_mark_11 : decode b_M_mark 11 = .ok (.lload 4, 2) := by decide +kernel
theorem d_M_mark_13 : decode b_M_mark 13 = .ok (.lload 4, 2) := by decide +kernel
theorem d_M_mark_15 : decode b_M_mark 15 = .ok (.bipush 31, 2) := by decide +kernel
theorem d_M_mark_17 : decode b_M_mark 17 = .ok (.lushr, 1) := by decide +kernel
theorem d_M_mark_18 : decode b_M_mark 18 = .ok (.lxor, 1) := by decide +kernel
theorem d_M_mark_19 : decode b_M_mark 19 = .ok (.ldc2_w 171, 3) := by decide +kernel
theorem d_M_mark_22 : decode b_M_mark 22 = .ok (.lmul, 1) := by decide +kernel
theorem d_M_mark_23 : decode b_M_mark 23 = .ok (.iload_n 3, 1) := by decide +kernel
theorem d_M_mark_24 : decode b_M_mark 24 = .ok (.i2l, 1) := by decide +kernel
theorem d_M_mark_25 : decode b_M_mark 25 = .ok (.ladd, 1) := by decide +kernel
theorem d_M_mark_26 : decode b_M_mark 26 = .ok (.lstore 4, 2) := by decide +kernel
theorem d_M_mark_28 : decode b_M_mark 28 = .ok (.lload 4, 2) := by decide +kernel
theorem d_M_mark_30 : decode b_M_mark 30 = .ok (.lload 4, 2) := by decide +kernel
theorem d_M_mark_32 : decode b_M_mark 32 = .ok (.bipush 29, 2) := by decide +kernel
theorem d_M_mark_34 : decode b_M_mark 34 = .ok (.lushr, 1) := by decide +kernel
theorem d_M_mark_35 : decode b_M_mark 35 = .ok (.lxor, 1) := by decide +kernel
theorem d_M_mark_36 : decode b_M_mark 36 = .ok (.lreturn, 1) := by decide +kernel
theorem d_M_isQuestion_0 : decode b_M_isQuestion 0 = .ok (.iload_n 1, 1) := by decide +kernel
theorem d_M_isQuestion_1 : decode b_M_isQuestion 1 = .ok (.ifCond .lt 15, 3) := by decide +kernel
theorem d_M_isQuestion_4 : decode b_M_isQuestion 4 = .ok (.iload_n 1, 1) := by decide +kernel
theorem d_M_isQuestion_5 : decode b_M_isQuestion 5 = .ok (.aload_n 0, 1) := by decide +kernel
theorem d_M_isQuestion_6 : decode b_M_isQuestion 6 = .ok (.getfield 159, 3) := by decide +kernel
theorem d_M_isQuestion_9 : decode b_M_isQuestion 9 = .ok (.if_icmp .ge 7, 3) := by decide +kernel
theorem d_M_isQuestion_12 : decode b_M_isQuestion 12 = .ok (.iconst 1, 1) := by decide +kernel
theorem d_M_isQuestion_13 : decode b_M_isQuestion 13 = .ok (.goto 4, 3) := by decide +kernel
theorem d_M_isQuestion_16 : decode b_M_isQuestion 16 = .ok (.iconst 0, 1) := by decide +kernel
theorem d_M_isQuestion_17 : decode b_M_isQuestion 17 = .ok (.ireturn, 1) := by decide +kernel
theorem d_M_question_0 : decode b_M_question 0 = .ok (.iload_n 1, 1) := by decide +kernel
theorem d_M_question_1 : decode b_M_question 1 = .ok (.iconst 0, 1) := by decide +kernel
theorem d_M_question_2 : decode b_M_question 2 = .ok (.iconst 3, 1) := by decide +kernel
theorem d_M_question_3 : decode b_M_question 3 = .ok (.invokestatic 139, 3) := by decide +kernel
theorem d_M_question_6 : decode b_M_question 6 = .ok (.ifCond .eq 44, 3) := by decide +kernel
theorem d_M_question_9 : decode b_M_question 9 = .ok (.iload_n 2, 1) := by decide +kernel
theorem d_M_question_10 : decode b_M_question 10 = .ok (.iconst 2, 1) := by decide +kernel
theorem d_M_question_11 : decode b_M_question 11 = .ok (.iconst 4, 1) := by decide +kernel
theorem d_M_question_12 : decode b_M_question 12 = .ok (.invokestatic 139, 3) := by decide +kernel
theorem d_M_question_15 : decode b_M_question 15 = .ok (.ifCond .eq 35, 3) := by decide +kernel
theorem d_M_question_18 : decode b_M_question 18 = .ok (.iload_n 3, 1) := by decide +kernel
theorem d_M_question_19 : decode b_M_question 19 = .ok (.iconst 1, 1) := by decide +kernel
theorem d_M_question_20 : decode b_M_question 20 = .ok (.bipush 50, 2) := by decide +kernel
theorem d_M_question_22 : decode b_M_question 22 = .ok (.invokestatic 139, 3) := by decide +kernel
theorem d_M_question_25 : decode b_M_question 25 = .ok (.ifCond .eq 25, 3) := by decide +kernel
theorem d_M_question_28 : decode b_M_question 28 = .ok (.iload 4, 2) := by decide +kernel
theorem d_M_question_30 : decode b_M_question 30 = .ok (.iconst 0, 1) := by decide +kernel
theorem d_M_question_31 : decode b_M_question 31 = .ok (.bipush 20, 2) := by decide +kernel
theorem d_M_question_33 : decode b_M_question 33 = .ok (.invokestatic 139, 3) := by decide +kernel
theorem d_M_question_36 : decode b_M_question 36 = .ok (.ifCond .eq 14, 3) := by decide +kernel
theorem d_M_question_39 : decode b_M_question 39 = .ok (.iload 5, 2) := by decide +kernel
theorem d_M_question_41 : decode b_M_question 41 = .ok (.iconst 0, 1) := by decide +kernel
theorem d_M_question_42 : decode b_M_question 42 = .ok (.bipush 100, 2) := by decide +kernel
theorem d_M_question_44 : decode b_M_question 44 = .ok (.invokestatic 139, 3) := by decide +kernel
theorem d_M_question_47 : decode b_M_question 47 = .ok (.ifCond .ne 6, 3) := by decide +kernel
theorem d_M_question_50 : decode b_M_question 50 = .ok (.bipush (-2), 2) := by decide +kernel
theorem d_M_question_52 : decode b_M_question 52 = .ok (.ireturn, 1) := by decide +kernel
theorem d_M_question_53 : decode b_M_question 53 = .ok (.aload_n 0, 1) := by decide +kernel
theorem d_M_question_54 : decode b_M_question 54 = .ok (.getfield 159, 3) := by decide +kernel
theorem d_M_question_57 : decode b_M_question 57 = .ok (.bipush 6, 2) := by decide +kernel
theorem d_M_question_59 : decode b_M_question 59 = .ok (.if_icmp .ne 6, 3) := by decide +kernel
theorem d_M_question_62 : decode b_M_question 62 = .ok (.bipush (-4), 2) := by decide +kernel
theorem d_M_question_64 : decode b_M_question 64 = .ok (.ireturn, 1) := by decide +kernel
theorem d_M_question_65 : decode b_M_question 65 = .ok (.aload_n 0, 1) := by decide +kernel
theorem d_M_question_66 : decode b_M_question 66 = .ok (.getfield 159, 3) := by decide +kernel
theorem d_M_question_69 : decode b_M_question 69 = .ok (.istore 6, 2) := by decide +kernel
theorem d_M_question_71 : decode b_M_question 71 = .ok (.aload_n 0, 1) := by decide +kernel
theorem d_M_question_72 : decode b_M_question 72 = .ok (.getfield 23, 3) := by decide +kernel
theorem d_M_question_75 : decode b_M_question 75 = .ok (.iload 6, 2) := by decide +kernel
theorem d_M_question_77 : decode b_M_question 77 = .ok (.iload_n 1, 1) := by decide +kernel
theorem d_M_question_78 : decode b_M_question 78 = .ok (.iastore, 1) := by decide +kernel
theorem d_M_question_79 : decode b_M_question 79 = .ok (.aload_n 0, 1) := by decide +kernel
theorem d_M_question_80 : decode b_M_question 80 = .ok (.getfield 26, 3) := by decide +kernel
theorem d_M_question_83 : decode b_M_question 83 = .ok (.iload 6, 2) := by decide +kernel
theorem d_M_question_85 : decode b_M_question 85 = .ok (.iload_n 2, 1) := by decide +kernel
theorem d_M_question_86 : decode b_M_question 86 = .ok (.iastore, 1) := by decide +kernel
theorem d_M_question_87 : decode b_M_question 87 = .ok (.aload_n 0, 1) := by decide +kernel
theorem d_M_question_88 : decode b_M_question 88 = .ok (.getfield 29, 3) := by decide +kernel
theorem d_M_question_91 : decode b_M_question 91 = .ok (.iload 6, 2) := by decide +kernel
theorem d_M_question_93 : decode b_M_question 93 = .ok (.aload_n 0, 1) := by decide +kernel
theorem d_M_question_94 : decode b_M_question 94 = .ok (.getfield 156, 3) := by decide +kernel
theorem d_M_question_97 : decode b_M_question 97 = .ok (.iload_n 3, 1) := by decide +kernel
theorem d_M_question_98 : decode b_M_question 98 = .ok (.iadd, 1) := by decide +kernel
theorem d_M_question_99 : decode b_M_question 99 = .ok (.iastore, 1) := by decide +kernel
theorem d_M_question_100 : decode b_M_question 100 = .ok (.aload_n 0, 1) := by decide +kernel
theorem d_M_question_101 : decode b_M_question 101 = .ok (.getfield 32, 3) := by decide +kernel
theorem d_M_question_104 : decode b_M_question 104 = .ok (.iload 6, 2) := by decide +kernel
theorem d_M_question_106 : decode b_M_question 106 = .ok (.aload_n 0, 1) := by decide +kernel
theorem d_M_question_107 : decode b_M_question 107 = .ok (.getfield 156, 3) := by decide +kernel
theorem d_M_question_110 : decode b_M_question 110 = .ok (.iload_n 3, 1) := by decide +kernel
theorem d_M_question_111 : decode b_M_question 111 = .ok (.iadd, 1) := by decide +kernel
theorem d_M_question_112 : decode b_M_question 112 = .ok (.iload 4, 2) := by decide +kernel
theorem d_M_question_114 : decode b_M_question 114 = .ok (.iadd, 1) := by decide +kernel
theorem d_M_question_115 : decode b_M_question 115 = .ok (.iastore, 1) := by decide +kernel
theorem d_M_question_116 : decode b_M_question 116 = .ok (.aload_n 0, 1) := by decide +kernel
theorem d_M_question_117 : decode b_M_question 117 = .ok (.getfield 35, 3) := by decide +kernel
theorem d_M_question_120 : decode b_M_question 120 = .ok (.iload 6, 2) := by decide +kernel
theorem d_M_question_122 : decode b_M_question 122 = .ok (.iload 5, 2) := by decide +kernel
theorem d_M_question_124 : decode b_M_question 124 = .ok (.iastore, 1) := by decide +kernel
theorem d_M_question_125 : decode b_M_question 125 = .ok (.aload_n 0, 1) := by decide +kernel
theorem d_M_question_126 : decode b_M_question 126 = .ok (.getfield 38, 3) := by decide +kernel
theorem d_M_question_129 : decode b_M_question 129 = .ok (.iload 6, 2) := by decide +kernel
theorem d_M_question_131 : decode b_M_question 131 = .ok (.iconst 0, 1) := by decide +kernel
theorem d_M_question_132 : decode b_M_question 132 = .ok (.bastore, 1) := by decide +kernel
theorem d_M_question_133 : decode b_M_question 133 = .ok (.aload_n 0, 1) := by decide +kernel
theorem d_M_question_134 : decode b_M_question 134 = .ok (.getfield 42, 3) := by decide +kernel
theorem d_M_question_137 : decode b_M_question 137 = .ok (.iload 6, 2) := by decide +kernel
theorem d_M_question_139 : decode b_M_question 139 = .ok (.iconst 0, 1) := by decide +kernel
theorem d_M_question_140 : decode b_M_question 140 = .ok (.bastore, 1) := by decide +kernel
theorem d_M_question_141 : decode b_M_question 141 = .ok (.iconst 0, 1) := by decide +kernel
theorem d_M_question_142 : decode b_M_question 142 = .ok (.istore 7, 2) := by decide +kernel
theorem d_M_question_144 : decode b_M_question 144 = .ok (.iload 7, 2) := by decide +kernel
theorem d_M_question_146 : decode b_M_question 146 = .ok (.bipush 8, 2) := by decide +kernel
theorem d_M_question_148 : decode b_M_question 148 = .ok (.if_icmp .ge 85, 3) := by decide +kernel
theorem d_M_question_151 : decode b_M_question 151 = .ok (.aload_n 0, 1) := by decide +kernel
theorem d_M_question_152 : decode b_M_question 152 = .ok (.getfield 54, 3) := by decide +kernel
theorem d_M_question_155 : decode b_M_question 155 = .ok (.bipush 8, 2) := by decide +kernel
theorem d_M_question_157 : decode b_M_question 157 = .ok (.iload 6, 2) := by decide +kernel
theorem d_M_question_159 : decode b_M_question 159 = .ok (.imul, 1) := by decide +kernel
theorem d_M_question_160 : decode b_M_question 160 = .ok (.iload 7, 2) := by decide +kernel
theorem d_M_question_162 : decode b_M_question 162 = .ok (.iadd, 1) := by decide +kernel
theorem d_M_question_163 : decode b_M_question 163 = .ok (.iload 7, 2) := by decide +kernel
theorem d_M_question_165 : decode b_M_question 165 = .ok (.aload_n 0, 1) := by decide +kernel
theorem d_M_question_166 : decode b_M_question 166 = .ok (.getfield 136, 3) := by decide +kernel
theorem d_M_question_169 : decode b_M_question 169 = .ok (.if_icmp .ge 13, 3) := by decide +kernel
theorem d_M_question_172 : decode b_M_question 172 = .ok (.aload_n 0, 1) := by decide +kernel
theorem d_M_question_173 : decode b_M_question 173 = .ok (.getfield 7, 3) := by decide +kernel
theorem d_M_question_176 : decode b_M_question 176 = .ok (.iload 7, 2) := by decide +kernel
theorem d_M_question_178 : decode b_M_question 178 = .ok (.iaload, 1) := by decide +kernel
theorem d_M_question_179 : decode b_M_question 179 = .ok (.goto 4, 3) := by decide +kernel
theorem d_M_question_182 : decode b_M_question 182 = .ok (.iconst 0, 1) := by decide +kernel
theorem d_M_question_183 : decode b_M_question 183 = .ok (.iastore, 1) := by decide +kernel
theorem d_M_question_184 : decode b_M_question 184 = .ok (.aload_n 0, 1) := by decide +kernel
theorem d_M_question_185 : decode b_M_question 185 = .ok (.getfield 57, 3) := by decide +kernel
theorem d_M_question_188 : decode b_M_question 188 = .ok (.bipush 8, 2) := by decide +kernel
theorem d_M_question_190 : decode b_M_question 190 = .ok (.iload 6, 2) := by decide +kernel
theorem d_M_question_192 : decode b_M_question 192 = .ok (.imul, 1) := by decide +kernel
theorem d_M_question_193 : decode b_M_question 193 = .ok (.iload 7, 2) := by decide +kernel
theorem d_M_question_195 : decode b_M_question 195 = .ok (.iadd, 1) := by decide +kernel
theorem d_M_question_196 : decode b_M_question 196 = .ok (.iconst 0, 1) := by decide +kernel
theorem d_M_question_197 : decode b_M_question 197 = .ok (.bastore, 1) := by decide +kernel
theorem d_M_question_198 : decode b_M_question 198 = .ok (.aload_n 0, 1) := by decide +kernel
theorem d_M_question_199 : decode b_M_question 199 = .ok (.getfield 63, 3) := by decide +kernel
theorem d_M_question_202 : decode b_M_question 202 = .ok (.bipush 8, 2) := by decide +kernel
theorem d_M_question_204 : decode b_M_question 204 = .ok (.iload 6, 2) := by decide +kernel
theorem d_M_question_206 : decode b_M_question 206 = .ok (.imul, 1) := by decide +kernel
theorem d_M_question_207 : decode b_M_question 207 = .ok (.iload 7, 2) := by decide +kernel
theorem d_M_question_209 : decode b_M_question 209 = .ok (.iadd, 1) := by decide +kernel
theorem d_M_question_210 : decode b_M_question 210 = .ok (.iconst 0, 1) := by decide +kernel
theorem d_M_question_211 : decode b_M_question 211 = .ok (.bastore, 1) := by decide +kernel
theorem d_M_question_212 : decode b_M_question 212 = .ok (.aload_n 0, 1) := by decide +kernel
theorem d_M_question_213 : decode b_M_question 213 = .ok (.getfield 69, 3) := by decide +kernel
theorem d_M_question_216 : decode b_M_question 216 = .ok (.bipush 8, 2) := by decide +kernel
theorem d_M_question_218 : decode b_M_question 218 = .ok (.iload 6, 2) := by decide +kernel
theorem d_M_question_220 : decode b_M_question 220 = .ok (.imul, 1) := by decide +kernel
theorem d_M_question_221 : decode b_M_question 221 = .ok (.iload 7, 2) := by decide +kernel
theorem d_M_question_223 : decode b_M_question 223 = .ok (.iadd, 1) := by decide +kernel
theorem d_M_question_224 : decode b_M_question 224 = .ok (.iload 7, 2) := by decide +kernel
theorem d_M_question_226 : decode b_M_question 226 = .ok (.iastore, 1) := by decide +kernel
theorem d_M_question_227 : decode b_M_question 227 = .ok (.iinc 7 1, 3) := by decide +kernel
theorem d_M_question_230 : decode b_M_question 230 = .ok (.goto (-86), 3) := by decide +kernel
theorem d_M_question_233 : decode b_M_question 233 = .ok (.aload_n 0, 1) := by decide +kernel
theorem d_M_question_234 : decode b_M_question 234 = .ok (.dup, 1) := by decide +kernel
theorem d_M_question_235 : decode b_M_question 235 = .ok (.getfield 159, 3) := by decide +kernel
theorem d_M_question_238 : decode b_M_question 238 = .ok (.iconst 1, 1) := by decide +kernel
theorem d_M_question_239 : decode b_M_question 239 = .ok (.iadd, 1) := by decide +kernel
theorem d_M_question_240 : decode b_M_question 240 = .ok (.putfield 159, 3) := by decide +kernel
theorem d_M_question_243 : decode b_M_question 243 = .ok (.iload 6, 2) := by decide +kernel
theorem d_M_question_245 : decode b_M_question 245 = .ok (.ireturn, 1) := by decide +kernel
