theorem d_M_weightOf_0 : decode b_M_weightOf 0 = .ok (.aload_n 0, 1) := by decide +kernel
theorem d_M_weightOf_1 : decode b_M_weightOf 1 = .ok (.getfield 54, 3) := by decide +kernel
theorem d_M_weightOf_4 : decode b_M_weightOf 4 = .ok (.bipush 8, 2) := by decide +kernel
theorem d_M_weightOf_6 : decode b_M_weightOf 6 = .ok (.iload_n 1, 1) := by decide +kernel
theorem d_M_weightOf_7 : decode b_M_weightOf 7 = .ok (.imul, 1) := by decide +kernel
theorem d_M_weightOf_8 : decode b_M_weightOf 8 = .ok (.iload_n 2, 1) := by decide +kernel
theorem d_M_weightOf_9 : decode b_M_weightOf 9 = .ok (.iadd, 1) := by decide +kernel
theorem d_M_weightOf_10 : decode b_M_weightOf 10 = .ok (.iaload, 1) := by decide +kernel
theorem d_M_weightOf_11 : decode b_M_weightOf 11 = .ok (.ireturn, 1) := by decide +kernel
theorem d_M_rankOf_0 : decode b_M_rankOf 0 = .ok (.iload_n 1, 1) := by decide +kernel
theorem d_M_rankOf_1 : decode b_M_rankOf 1 = .ok (.istore_n 2, 1) := by decide +kernel
theorem d_M_rankOf_2 : decode b_M_rankOf 2 = .ok (.iload_n 2, 1) := by decide +kernel
theorem d_M_rankOf_3 : decode b_M_rankOf 3 = .ok (.ifCond .le 32, 3) := by decide +kernel
theorem d_M_rankOf_6 : decode b_M_rankOf 6 = .ok (.aload_n 0, 1) := by decide +kernel
theorem d_M_rankOf_7 : decode b_M_rankOf 7 = .ok (.getfield 126, 3) := by decide +kernel
theorem d_M_rankOf_10 : decode b_M_rankOf 10 = .ok (.iload_n 2, 1) := by decide +kernel
theorem d_M_rankOf_11 : decode b_M_rankOf 11 = .ok (.bipush 8, 2) := by decide +kernel
theorem d_M_rankOf_13 : decode b_M_rankOf 13 = .ok (.irem, 1) := by decide +kernel
theorem d_M_rankOf_14 : decode b_M_rankOf 14 = .ok (.iconst 1, 1) := by decide +kernel
theorem d_M_rankOf_15 : decode b_M_rankOf 15 = .ok (.isub, 1) := by decide +kernel
theorem d_M_rankOf_16 : decode b_M_rankOf 16 = .ok (.baload, 1) := by decide +kernel
theorem d_M_rankOf_17 : decode b_M_rankOf 17 = .ok (.ifCond .eq 10, 3) := by decide +kernel
theorem d_M_rankOf_20 : decode b_M_rankOf 20 = .ok (.iload_n 2, 1) := by decide +kernel
theorem d_M_rankOf_21 : decode b_M_rankOf 21 = .ok (.bipush 8, 2) := by decide +kernel
theorem d_M_rankOf_23 : decode b_M_rankOf 23 = .ok (.irem, 1) := by decide +kernel
theorem d_M_rankOf_24 : decode b_M_rankOf 24 = .ok (.iconst 1, 1) := by decide +kernel
theorem d_M_rankOf_25 : decode b_M_rankOf 25 = .ok (.isub, 1) := by decide +kernel
theorem d_M_rankOf_26 : decode b_M_rankOf 26 = .ok (.ireturn, 1) := by decide +kernel
theorem d_M_rankOf_27 : decode b_M_rankOf 27 = .ok (.iload_n 2, 1) := by decide +kernel
theorem d_M_rankOf_28 : decode b_M_rankOf 28 = .ok (.bipush 8, 2) := by decide +kernel
theorem d_M_rankOf_30 : decode b_M_rankOf 30 = .ok (.idiv, 1) := by decide +kernel
theorem d_M_rankOf_31 : decode b_M_rankOf 31 = .ok (.istore_n 2, 1) := by decide +kernel
theorem d_M_rankOf_32 : decode b_M_rankOf 32 = .ok (.goto (-30), 3) := by decide +kernel
theorem d_M_rankOf_35 : decode b_M_rankOf 35 = .ok (.iconst (-1), 1) := by decide +kernel
theorem d_M_rankOf_36 : decode b_M_rankOf 36 = .ok (.ireturn, 1) := by decide +kernel
theorem d_M_runOff_0 : decode b_M_runOff 0 = .ok (.aload_n 0, 1) := by decide +kernel
theorem d_M_runOff_1 : decode b_M_runOff 1 = .ok (.getfield 26, 3) := by decide +kernel
theorem d_M_runOff_4 : decode b_M_runOff 4 = .ok (.iload_n 1, 1) := by decide +kernel
theorem d_M_runOff_5 : decode b_M_runOff 5 = .ok (.iaload, 1) := by decide +kernel
theorem d_M_runOff_6 : decode b_M_runOff 6 = .ok (.istore_n 2, 1) := by decide +kernel
theorem d_M_runOff_7 : decode b_M_runOff 7 = .ok (.iconst 0, 1) := by decide +kernel
theorem d_M_runOff_8 : decode b_M_runOff 8 = .ok (.istore_n 3, 1) := by decide +kernel
theorem d_M_runOff_9 : decode b_M_runOff 9 = .ok (.iload_n 3, 1) := by decide +kernel
theorem d_M_runOff_10 : decode b_M_runOff 10 = .ok (.iconst 4, 1) := by decide +kernel
theorem d_M_runOff_11 : decode b_M_runOff 11 = .ok (.if_icmp .ge 25, 3) := by decide +kernel
theorem d_M_runOff_14 : decode b_M_runOff 14 = .ok (.aload_n 0, 1) := by decide +kernel
theorem d_M_runOff_15 : decode b_M_runOff 15 = .ok (.getfield 126, 3) := by decide +kernel
theorem d_M_runOff_18 : decode b_M_runOff 18 = .ok (.iload_n 3, 1) := by decide +kernel
theorem d_M_runOff_19 : decode b_M_runOff 19 = .ok (.iload_n 3, 1) := by decide +kernel
theorem d_M_runOff_20 : decode b_M_runOff 20 = .ok (.iload_n 2, 1) := by decide +kernel
theorem d_M_runOff_21 : decode b_M_runOff 21 = .ok (.if_icmp .ge 7, 3) := by decide +kernel
theorem d_M_runOff_24 : decode b_M_runOff 24 = .ok (.iconst 1, 1) := by decide +kernel
theorem d_M_runOff_25 : decode b_M_runOff 25 = .ok (.goto 4, 3) := by decide +kernel
theorem d_M_runOff_28 : decode b_M_runOff 28 = .ok (.iconst 0, 1) := by decide +kernel
theorem d_M_runOff_29 : decode b_M_runOff 29 = .ok (.bastore, 1) := by decide +kernel
theorem d_M_runOff_30 : decode b_M_runOff 30 = .ok (.iinc 3 1, 3) := by decide +kernel
theorem d_M_runOff_33 : decode b_M_runOff 33 = .ok (.goto (-24), 3) := by decide +kernel
theorem d_M_runOff_36 : decode b_M_runOff 36 = .ok (.iconst 0, 1) := by decide +kernel
theorem d_M_runOff_37 : decode b_M_runOff 37 = .ok (.istore_n 3, 1) := by decide +kernel
theorem d_M_runOff_38 : decode b_M_runOff 38 = .ok (.iload_n 3, 1) := by decide +kernel
theorem d_M_runOff_39 : decode b_M_runOff 39 = .ok (.ifCond .ne 293, 3) := by decide +kernel
theorem d_M_runOff_42 : decode b_M_runOff 42 = .ok (.iconst 0, 1) := by decide +kernel
theorem d_M_runOff_43 : decode b_M_runOff 43 = .ok (.istore 4, 2) := by decide +kernel
theorem d_M_runOff_45 : decode b_M_runOff 45 = .ok (.iconst 0, 1) := by decide +kernel
theorem d_M_runOff_46 : decode b_M_runOff 46 = .ok (.istore 5, 2) := by decide +kernel
theorem d_M_runOff_48 : decode b_M_runOff 48 = .ok (.iload 5, 2) := by decide +kernel
theorem d_M_runOff_50 : decode b_M_runOff 50 = .ok (.iconst 4, 1) := by decide +kernel
theorem d_M_runOff_51 : decode b_M_runOff 51 = .ok (.if_icmp .ge 17, 3) := by decide +kernel
theorem d_M_runOff_54 : decode b_M_runOff 54 = .ok (.aload_n 0, 1) := by decide +kernel
theorem d_M_runOff_55 : decode b_M_runOff 55 = .ok (.getfield 123, 3) := by decide +kernel
theorem d_M_runOff_58 : decode b_M_runOff 58 = .ok (.iload 5, 2) := by decide +kernel
theorem d_M_runOff_60 : decode b_M_runOff 60 = .ok (.iconst 0, 1) := by decide +kernel
theorem d_M_runOff_61 : decode b_M_runOff 61 = .ok (.iastore, 1) := by decide +kernel
theorem d_M_runOff_62 : decode b_M_runOff 62 = .ok (.iinc 5 1, 3) := by decide +kernel
theorem d_M_runOff_65 : decode b_M_runOff 65 = .ok (.goto (-17), 3) := by decide +kernel
theorem d_M_runOff_68 : decode b_M_runOff 68 = .ok (.iconst 0, 1) := by decide +kernel
theorem d_M_runOff_69 : decode b_M_runOff 69 = .ok (.istore 5, 2) := by decide +kernel
theorem d_M_runOff_71 : decode b_M_runOff 71 = .ok (.iload 5, 2) := by decide +kernel
theorem d_M_runOff_73 : decode b_M_runOff 73 = .ok (.aload_n 0, 1) := by decide +kernel
theorem d_M_runOff_74 : decode b_M_runOff 74 = .ok (.getfield 136, 3) := by decide +kernel
theorem d_M_runOff_77 : decode b_M_runOff 77 = .ok (.if_icmp .ge 80, 3) := by decide +kernel
theorem d_M_runOff_80 : decode b_M_runOff 80 = .ok (.aload_n 0, 1) := by decide +kernel
theorem d_M_runOff_81 : decode b_M_runOff 81 = .ok (.getfield 117, 3) := by decide +kernel
theorem d_M_runOff_84 : decode b_M_runOff 84 = .ok (.iload 5, 2) := by decide +kernel
theorem d_M_runOff_86 : decode b_M_runOff 86 = .ok (.iaload, 1) := by decide +kernel
theorem d_M_runOff_87 : decode b_M_runOff 87 = .ok (.ifCond .ge 7, 3) := by decide +kernel
theorem d_M_runOff_90 : decode b_M_runOff 90 = .ok (.iconst (-1), 1) := by decide +kernel
theorem d_M_runOff_91 : decode b_M_runOff 91 = .ok (.goto 24, 3) := by decide +kernel
theorem d_M_runOff_94 : decode b_M_runOff 94 = .ok (.aload_n 0, 1) := by decide +kernel
theorem d_M_runOff_95 : decode b_M_runOff 95 = .ok (.aload_n 0, 1) := by decide +kernel
theorem d_M_runOff_96 : decode b_M_runOff 96 = .ok (.getfield 60, 3) := by decide +kernel
theorem d_M_runOff_99 : decode b_M_runOff 99 = .ok (.bipush 8, 2) := by decide +kernel
theorem d_M_runOff_101 : decode b_M_runOff 101 = .ok (.iload_n 1, 1) := by decide +kernel
theorem d_M_runOff_102 : decode b_M_runOff 102 = .ok (.imul, 1) := by decide +kernel
theorem d_M_runOff_103 : decode b_M_runOff 103 = .ok (.aload_n 0, 1) := by decide +kernel
theorem d_M_runOff_104 : decode b_M_runOff 104 = .ok (.getfield 117, 3) := by decide +kernel
theorem d_M_runOff_107 : decode b_M_runOff 107 = .ok (.iload 5, 2) := by decide +kernel
theorem d_M_runOff_109 : decode b_M_runOff 109 = .ok (.iaload, 1) := by decide +kernel
theorem d_M_runOff_110 : decode b_M_runOff 110 = .ok (.iadd, 1) := by decide +kernel
theorem d_M_runOff_111 : decode b_M_runOff 111 = .ok (.iaload, 1) := by decide +kernel
theorem d_M_runOff_112 : decode b_M_runOff 112 = .ok (.invokevirtual 213, 3) := by decide +kernel
theorem d_M_runOff_115 : decode b_M_runOff 115 = .ok (.istore 6, 2) := by decide +kernel
theorem d_M_runOff_117 : decode b_M_runOff 117 = .ok (.iload 6, 2) := by decide +kernel
theorem d_M_runOff_119 : decode b_M_runOff 119 = .ok (.ifCond .lt 32, 3) := by decide +kernel
theorem d_M_runOff_122 : decode b_M_runOff 122 = .ok (.aload_n 0, 1) := by decide +kernel
theorem d_M_runOff_123 : decode b_M_runOff 123 = .ok (.getfield 123, 3) := by decide +kernel
theorem d_M_runOff_126 : decode b_M_runOff 126 = .ok (.iload 6, 2) := by decide +kernel
theorem d_M_runOff_128 : decode b_M_runOff 128 = .ok (.dup2, 1) := by decide +kernel
theorem d_M_runOff_129 : decode b_M_runOff 129 = .ok (.iaload, 1) := by decide +kernel
theorem d_M_runOff_130 : decode b_M_runOff 130 = .ok (.aload_n 0, 1) := by decide +kernel
theorem d_M_runOff_131 : decode b_M_runOff 131 = .ok (.iload_n 1, 1) := by decide +kernel
theorem d_M_runOff_132 : decode b_M_runOff 132 = .ok (.iload 5, 2) := by decide +kernel
theorem d_M_runOff_134 : decode b_M_runOff 134 = .ok (.invokevirtual 203, 3) := by decide +kernel
theorem d_M_runOff_137 : decode b_M_runOff 137 = .ok (.iadd, 1) := by decide +kernel
theorem d_M_runOff_138 : decode b_M_runOff 138 = .ok (.iastore, 1) := by decide +kernel
theorem d_M_runOff_139 : decode b_M_runOff 139 = .ok (.iload 4, 2) := by decide +kernel
theorem d_M_runOff_141 : decode b_M_runOff 141 = .ok (.aload_n 0, 1) := by decide +kernel
theorem d_M_runOff_142 : decode b_M_runOff 142 = .ok (.iload_n 1, 1) := by decide +kernel
theorem d_M_runOff_143 : decode b_M_runOff 143 = .ok (.iload 5, 2) := by decide +kernel
theorem d_M_runOff_145 : decode b_M_runOff 145 = .ok (.invokevirtual 203, 3) := by decide +kernel
theorem d_M_runOff_148 : decode b_M_runOff 148 = .ok (.iadd, 1) := by decide +kernel
theorem d_M_runOff_149 : decode b_M_runOff 149 = .ok (.istore 4, 2) := by decide +kernel
theorem d_M_runOff_151 : decode b_M_runOff 151 = .ok (.iinc 5 1, 3) := by decide +kernel
theorem d_M_runOff_154 : decode b_M_runOff 154 = .ok (.goto (-83), 3) := by decide +kernel
theorem d_M_runOff_157 : decode b_M_runOff 157 = .ok (.aload_n 0, 1) := by decide +kernel
theorem d_M_runOff_158 : decode b_M_runOff 158 = .ok (.aload_n 0, 1) := by decide +kernel
theorem d_M_runOff_159 : decode b_M_runOff 159 = .ok (.getfield 200, 3) := by decide +kernel
theorem d_M_runOff_162 : decode b_M_runOff 162 = .ok (.ifCond .ne 16, 3) := by decide +kernel
theorem d_M_runOff_165 : decode b_M_runOff 165 = .ok (.iload 4, 2) := by decide +kernel
theorem d_M_runOff_167 : decode b_M_runOff 167 = .ok (.ifCond .le 7, 3) := by decide +kernel
theorem d_M_runOff_170 : decode b_M_runOff 170 = .ok (.iconst 1, 1) := by decide +kernel
theorem d_M_runOff_171 : decode b_M_runOff 171 = .ok (.goto 11, 3) := by decide +kernel
theorem d_M_runOff_174 : decode b_M_runOff 174 = .ok (.iconst 0, 1) := by decide +kernel
theorem d_M_runOff_175 : decode b_M_runOff 175 = .ok (.goto 7, 3) := by decide +kernel
theorem d_M_runOff_178 : decode b_M_runOff 178 = .ok (.aload_n 0, 1) := by decide +kernel
theorem d_M_runOff_179 : decode b_M_runOff 179 = .ok (.getfield 209, 3) := by decide +kernel
theorem d_M_runOff_182 : decode b_M_runOff 182 = .ok (.putfield 209, 3) := by decide +kernel
theorem d_M_runOff_185 : decode b_M_runOff 185 = .ok (.iconst (-1), 1) := by decide +kernel
theorem d_M_runOff_186 : decode b_M_runOff 186 = .ok (.istore 5, 2) := by decide +kernel
theorem d_M_runOff_188 : decode b_M_runOff 188 = .ok (.iconst 0, 1) := by decide +kernel
theorem d_M_runOff_189 : decode b_M_runOff 189 = .ok (.istore 6, 2) := by decide +kernel
theorem d_M_runOff_191 : decode b_M_runOff 191 = .ok (.iload 6, 2) := by decide +kernel
theorem d_M_runOff_193 : decode b_M_runOff 193 = .ok (.iconst 4, 1) := by decide +kernel
theorem d_M_runOff_194 : decode b_M_runOff 194 = .ok (.if_icmp .ge 84, 3) := by decide +kernel
theorem d_M_runOff_197 : decode b_M_runOff 197 = .ok (.iload_n 3, 1) := by decide +kernel
theorem d_M_runOff_198 : decode b_M_runOff 198 = .ok (.ifCond .ne 27, 3) := by decide +kernel
theorem d_M_runOff_201 : decode b_M_runOff 201 = .ok (.aload_n 0, 1) := by decide +kernel
theorem d_M_runOff_202 : decode b_M_runOff 202 = .ok (.getfield 126, 3) := by decide +kernel
theorem d_M_runOff_205 : decode b_M_runOff 205 = .ok (.iload 6, 2) := by decide +kernel
theorem d_M_runOff_207 : decode b_M_runOff 207 = .ok (.baload, 1) := by decide +kernel
theorem d_M_runOff_208 : decode b_M_runOff 208 = .ok (.ifCond .eq 21, 3) := by decide +kernel
theorem d_M_runOff_211 : decode b_M_runOff 211 = .ok (.iconst 2, 1) := by decide +kernel
theorem d_M_runOff_212 : decode b_M_runOff 212 = .ok (.aload_n 0, 1) := by decide +kernel
theorem d_M_runOff_213 : decode b_M_runOff 213 = .ok (.getfield 123, 3) := by decide +kernel
theorem d_M_runOff_216 : decode b_M_runOff 216 = .ok (.iload 6, 2) := by decide +kernel
theorem d_M_runOff_218 : decode b_M_runOff 218 = .ok (.iaload, 1) := by decide +kernel
theorem d_M_runOff_219 : decode b_M_runOff 219 = .ok (.imul, 1) := by decide +kernel
theorem d_M_runOff_220 : decode b_M_runOff 220 = .ok (.iload 4, 2) := by decide +kernel
theorem d_M_runOff_222 : decode b_M_runOff 222 = .ok (.if_icmp .le 7, 3) := by decide +kernel
theorem d_M_runOff_225 : decode b_M_runOff 225 = .ok (.iconst 1, 1) := by decide +kernel
theorem d_M_runOff_226 : decode b_M_runOff 226 = .ok (.goto 4, 3) := by decide +kernel
theorem d_M_runOff_229 : decode b_M_runOff 229 = .ok (.iconst 0, 1) := by decide +kernel
theorem d_M_runOff_230 : decode b_M_runOff 230 = .ok (.istore_n 3, 1) := by decide +kernel
theorem d_M_runOff_231 : decode b_M_runOff 231 = .ok (.aload_n 0, 1) := by decide +kernel
theorem d_M_runOff_232 : decode b_M_runOff 232 = .ok (.getfield 126, 3) := by decide +kernel
theorem d_M_runOff_235 : decode b_M_runOff 235 = .ok (.iload 6, 2) := by decide +kernel
theorem d_M_runOff_237 : decode b_M_runOff 237 = .ok (.baload, 1) := by decide +kernel
theorem d_M_runOff_238 : decode b_M_runOff 238 = .ok (.ifCond .eq 30, 3) := by decide +kernel
theorem d_M_runOff_241 : decode b_M_runOff 241 = .ok (.iload 5, 2) := by decide +kernel
theorem d_M_runOff_243 : decode b_M_runOff 243 = .ok (.ifCond .lt 20, 3) := by decide +kernel
theorem d_M_runOff_246 : decode b_M_runOff 246 = .ok (.aload_n 0, 1) := by decide +kernel
theorem d_M_runOff_247 : decode b_M_runOff 247 = .ok (.getfield 123, 3) := by decide +kernel
theorem d_M_runOff_250 : decode b_M_runOff 250 = .ok (.iload 6, 2) := by decide +kernel
theorem d_M_runOff_252 : decode b_M_runOff 252 = .ok (.iaload, 1) := by decide +kernel
theorem d_M_runOff_253 : decode b_M_runOff 253 = .ok (.aload_n 0, 1) := by decide +kernel
theorem d_M_runOff_254 : decode b_M_runOff 254 = .ok (.getfield 123, 3) := by decide +kernel
theorem d_M_runOff_257 : decode b_M_runOff 257 = .ok (.iload 5, 2) := by decide +kernel
theorem d_M_runOff_259 : decode b_M_runOff 259 = .ok (.iaload, 1) := by decide +kernel
theorem d_M_runOff_260 : decode b_M_runOff 260 = .ok (.if_icmp .gt 8, 3) := by decide +kernel
theorem d_M_runOff_263 : decode b_M_runOff 263 = .ok (.iload 6, 2) := by decide +kernel
theorem d_M_runOff_265 : decode b_M_runOff 265 = .ok (.goto 5, 3) := by decide +kernel
theorem d_M_runOff_268 : decode b_M_runOff 268 = .ok (.iload 5, 2) := by decide +kernel
theorem d_M_runOff_270 : decode b_M_runOff 270 = .ok (.istore 5, 2) := by decide +kernel
theorem d_M_runOff_272 : decode b_M_runOff 272 = .ok (.iinc 6 1, 3) := by decide +kernel
theorem d_M_runOff_275 : decode b_M_runOff 275 = .ok (.goto (-84), 3) := by decide +kernel
theorem d_M_runOff_278 : decode b_M_runOff 278 = .ok (.iload_n 3, 1) := by decide +kernel
theorem d_M_runOff_279 : decode b_M_runOff 279 = .ok (.ifCond .ne 8, 3) := by decide +kernel
theorem d_M_runOff_282 : decode b_M_runOff 282 = .ok (.iload_n 2, 1) := by decide +kernel
theorem d_M_runOff_283 : decode b_M_runOff 283 = .ok (.iconst 1, 1) := by decide +kernel
theorem d_M_runOff_284 : decode b_M_runOff 284 = .ok (.if_icmp .ne 7, 3) := by decide +kernel
theorem d_M_runOff_287 : decode b_M_runOff 287 = .ok (.iconst 1, 1) := by decide +kernel
theorem d_M_runOff_288 : decode b_M_runOff 288 = .ok (.goto 4, 3) := by decide +kernel
theorem d_M_runOff_291 : decode b_M_runOff 291 = .ok (.iconst 0, 1) := by decide +kernel
theorem d_M_runOff_292 : decode b_M_runOff 292 = .ok (.istore_n 3, 1) := by decide +kernel
theorem d_M_runOff_293 : decode b_M_runOff 293 = .ok (.iload_n 3, 1) := by decide +kernel
theorem d_M_runOff_294 : decode b_M_runOff 294 = .ok (.ifCond .ne 35, 3) := by decide +kernel
theorem d_M_runOff_297 : decode b_M_runOff 297 = .ok (.aload_n 0, 1) := by decide +kernel
theorem d_M_runOff_298 : decode b_M_runOff 298 = .ok (.getfield 126, 3) := by decide +kernel
theorem d_M_runOff_301 : decode b_M_runOff 301 = .ok (.iload 5, 2) := by decide +kernel
theorem d_M_runOff_303 : decode b_M_runOff 303 = .ok (.iconst 0, 1) := by decide +kernel
theorem d_M_runOff_304 : decode b_M_runOff 304 = .ok (.bastore, 1) := by decide +kernel
theorem d_M_runOff_305 : decode b_M_runOff 305 = .ok (.aload_n 0, 1) := by decide +kernel
theorem d_M_runOff_306 : decode b_M_runOff 306 = .ok (.getfield 129, 3) := by decide +kernel
theorem d_M_runOff_309 : decode b_M_runOff 309 = .ok (.aload_n 0, 1) := by decide +kernel
theorem d_M_runOff_310 : decode b_M_runOff 310 = .ok (.getfield 200, 3) := by decide +kernel
theorem d_M_runOff_313 : decode b_M_runOff 313 = .ok (.iload 5, 2) := by decide +kernel
theorem d_M_runOff_315 : decode b_M_runOff 315 = .ok (.iastore, 1) := by decide +kernel
theorem d_M_runOff_316 : decode b_M_runOff 316 = .ok (.aload_n 0, 1) := by decide +kernel
theorem d_M_runOff_317 : decode b_M_runOff 317 = .ok (.dup, 1) := by decide +kernel
theorem d_M_runOff_318 : decode b_M_runOff 318 = .ok (.getfield 200, 3) := by decide +kernel
theorem d_M_runOff_321 : decode b_M_runOff 321 = .ok (.iconst 1, 1) := by decide +kernel
theorem d_M_runOff_322 : decode b_M_runOff 322 = .ok (.iadd, 1) := by decide +kernel
theorem d_M_runOff_323 : decode b_M_runOff 323 = .ok (.putfield 200, 3) := by decide +kernel
theorem d_M_runOff_326 : decode b_M_runOff 326 = .ok (.iinc 2 (-1), 3) := by decide +kernel
theorem d_M_runOff_329 : decode b_M_runOff 329 = .ok (.goto (-291), 3) := by decide +kernel
theorem d_M_runOff_332 : decode b_M_runOff 332 = .ok (.return_, 1) := by decide +kernel
theorem d_M_findCounts_0 : decode b_M_findCounts 0 = .ok (.aload_n 0, 1) := by decide +kernel
theorem d_M_findCounts_1 : decode b_M_findCounts 1 = .ok (.iload_n 1, 1) := by decide +kernel
theorem d_M_findCounts_2 : decode b_M_findCounts 2 = .ok (.invokevirtual 194, 3) := by decide +kernel
theorem d_M_findCounts_5 : decode b_M_findCounts 5 = .ok (.aload_n 0, 1) := by decide +kernel
theorem d_M_findCounts_6 : decode b_M_findCounts 6 = .ok (.iconst 0, 1) := by decide +kernel
theorem d_M_findCounts_7 : decode b_M_findCounts 7 = .ok (.putfield 197, 3) := by decide +kernel
theorem d_M_findCounts_10 : decode b_M_findCounts 10 = .ok (.aload_n 0, 1) := by decide +kernel
theorem d_M_findCounts_11 : decode b_M_findCounts 11 = .ok (.iconst 0, 1) := by decide +kernel
theorem d_M_findCounts_12 : decode b_M_findCounts 12 = .ok (.putfield 200, 3) := by decide +kernel
theorem d_M_findCounts_15 : decode b_M_findCounts 15 = .ok (.iconst 0, 1) := by decide +kernel
theorem d_M_findCounts_16 : decode b_M_findCounts 16 = .ok (.istore_n 2, 1) := by decide +kernel
theorem d_M_findCounts_17 : decode b_M_findCounts 17 = .ok (.iload_n 2, 1) := by decide +kernel
theorem d_M_findCounts_18 : decode b_M_findCounts 18 = .ok (.iconst 4, 1) := by decide +kernel
theorem d_M_findCounts_19 : decode b_M_findCounts 19 = .ok (.if_icmp .ge 16, 3) := by decide +kernel
theorem d_M_findCounts_22 : decode b_M_findCounts 22 = .ok (.aload_n 0, 1) := by decide +kernel
theorem d_M_findCounts_23 : decode b_M_findCounts 23 = .ok (.getfield 123, 3) := by decide +kernel
theorem d_M_findCounts_26 : decode b_M_findCounts 26 = .ok (.iload_n 2, 1) := by decide +kernel
theorem d_M_findCounts_27 : decode b_M_findCounts 27 = .ok (.iconst 0, 1) := by decide +kernel
theorem d_M_findCounts_28 : decode b_M_findCounts 28 = .ok (.iastore, 1) := by decide +kernel
theorem d_M_findCounts_29 : decode b_M_findCounts 29 = .ok (.iinc 2 1, 3) := by decide +kernel
theorem d_M_findCounts_32 : decode b_M_findCounts 32 = .ok (.goto (-15), 3) := by decide +kernel
theorem d_M_findCounts_35 : decode b_M_findCounts 35 = .ok (.iconst 0, 1) := by decide +kernel
theorem d_M_findCounts_36 : decode b_M_findCounts 36 = .ok (.istore_n 2, 1) := by decide +kernel
theorem d_M_findCounts_37 : decode b_M_findCounts 37 = .ok (.iload_n 2, 1) := by decide +kernel
theorem d_M_findCounts_38 : decode b_M_findCounts 38 = .ok (.aload_n 0, 1) := by decide +kernel
theorem d_M_findCounts_39 : decode b_M_findCounts 39 = .ok (.getfield 136, 3) := by decide +kernel
theorem d_M_findCounts_42 : decode b_M_findCounts 42 = .ok (.if_icmp .ge 37, 3) := by decide +kernel
theorem d_M_findCounts_45 : decode b_M_findCounts 45 = .ok (.aload_n 0, 1) := by decide +kernel
theorem d_M_findCounts_46 : decode b_M_findCounts 46 = .ok (.dup, 1) := by decide +kernel
theorem d_M_findCounts_47 : decode b_M_findCounts 47 = .ok (.getfield 197, 3) := by decide +kernel
theorem d_M_findCounts_50 : decode b_M_findCounts 50 = .ok (.aload_n 0, 1) := by decide +kernel
theorem d_M_findCounts_51 : decode b_M_findCounts 51 = .ok (.getfield 117, 3) := by decide +kernel
theorem d_M_findCounts_54 : decode b_M_findCounts 54 = .ok (.iload_n 2, 1) := by decide +kernel
theorem d_M_findCounts_55 : decode b_M_findCounts 55 = .ok (.iaload, 1) := by decide +kernel
theorem d_M_findCounts_56 : decode b_M_findCounts 56 = .ok (.ifCond .lt 12, 3) := by decide +kernel
theorem d_M_findCounts_59 : decode b_M_findCounts 59 = .ok (.aload_n 0, 1) := by decide +kernel
theorem d_M_findCounts_60 : decode b_M_findCounts 60 = .ok (.iload_n 1, 1) := by decide +kernel
theorem d_M_findCounts_61 : decode b_M_findCounts 61 = .ok (.iload_n 2, 1) := by decide +kernel
theorem d_M_findCounts_62 : decode b_M_findCounts 62 = .ok (.invokevirtual 203, 3) := by decide +kernel
theorem d_M_findCounts_65 : decode b_M_findCounts 65 = .ok (.goto 4, 3) := by decide +kernel
theorem d_M_findCounts_68 : decode b_M_findCounts 68 = .ok (.iconst 0, 1) := by decide +kernel
theorem d_M_findCounts_69 : decode b_M_findCounts 69 = .ok (.iadd, 1) := by decide +kernel
theorem d_M_findCounts_70 : decode b_M_findCounts 70 = .ok (.putfield 197, 3) := by decide +kernel
theorem d_M_findCounts_73 : decode b_M_findCounts 73 = .ok (.iinc 2 1, 3) := by decide +kernel
theorem d_M_findCounts_76 : decode b_M_findCounts 76 = .ok (.goto (-39), 3) := by decide +kernel
theorem d_M_findCounts_79 : decode b_M_findCounts 79 = .ok (.aload_n 0, 1) := by decide +kernel
theorem d_M_findCounts_80 : decode b_M_findCounts 80 = .ok (.getfield 23, 3) := by decide +kernel
theorem d_M_findCounts_83 : decode b_M_findCounts 83 = .ok (.iload_n 1, 1) := by decide +kernel
theorem d_M_findCounts_84 : decode b_M_findCounts 84 = .ok (.iaload, 1) := by decide +kernel
theorem d_M_findCounts_85 : decode b_M_findCounts 85 = .ok (.iconst 2, 1) := by decide +kernel
theorem d_M_findCounts_86 : decode b_M_findCounts 86 = .ok (.if_icmp .ne 9, 3) := by decide +kernel
theorem d_M_findCounts_89 : decode b_M_findCounts 89 = .ok (.aload_n 0, 1) := by decide +kernel
theorem d_M_findCounts_90 : decode b_M_findCounts 90 = .ok (.iload_n 1, 1) := by decide +kernel
theorem d_M_findCounts_91 : decode b_M_findCounts 91 = .ok (.invokevirtual 206, 3) := by decide +kernel
theorem d_M_findCounts_94 : decode b_M_findCounts 94 = .ok (.return_, 1) := by decide +kernel
theorem d_M_findCounts_95 : decode b_M_findCounts 95 = .ok (.aload_n 0, 1) := by decide +kernel
theorem d_M_findCounts_96 : decode b_M_findCounts 96 = .ok (.iconst 0, 1) := by decide +kernel
theorem d_M_findCounts_97 : decode b_M_findCounts 97 = .ok (.putfield 209, 3) := by decide +kernel
theorem d_M_findCounts_100 : decode b_M_findCounts 100 = .ok (.iconst 0, 1) := by decide +kernel
theorem d_M_findCounts_101 : decode b_M_findCounts 101 = .ok (.istore_n 2, 1) := by decide +kernel
theorem d_M_findCounts_102 : decode b_M_findCounts 102 = .ok (.iload_n 2, 1) := by decide +kernel
theorem d_M_findCounts_103 : decode b_M_findCounts 103 = .ok (.aload_n 0, 1) := by decide +kernel
theorem d_M_findCounts_104 : decode b_M_findCounts 104 = .ok (.getfield 26, 3) := by decide +kernel
theorem d_M_findCounts_107 : decode b_M_findCounts 107 = .ok (.iload_n 1, 1) := by decide +kernel
theorem d_M_findCounts_108 : decode b_M_findCounts 108 = .ok (.iaload, 1) := by decide +kernel
theorem d_M_findCounts_109 : decode b_M_findCounts 109 = .ok (.if_icmp .ge 149, 3) := by decide +kernel
theorem d_M_findCounts_112 : decode b_M_findCounts 112 = .ok (.iconst 0, 1) := by decide +kernel
theorem d_M_findCounts_113 : decode b_M_findCounts 113 = .ok (.istore_n 3, 1) := by decide +kernel
theorem d_M_findCounts_114 : decode b_M_findCounts 114 = .ok (.iload_n 3, 1) := by decide +kernel
theorem d_M_findCounts_115 : decode b_M_findCounts 115 = .ok (.aload_n 0, 1) := by decide +kernel
theorem d_M_findCounts_116 : decode b_M_findCounts 116 = .ok (.getfield 136, 3) := by decide +kernel
theorem d_M_findCounts_119 : decode b_M_findCounts 119 = .ok (.if_icmp .ge 108, 3) := by decide +kernel
theorem d_M_findCounts_122 : decode b_M_findCounts 122 = .ok (.aload_n 0, 1) := by decide +kernel
theorem d_M_findCounts_123 : decode b_M_findCounts 123 = .ok (.getfield 117, 3) := by decide +kernel
theorem d_M_findCounts_126 : decode b_M_findCounts 126 = .ok (.iload_n 3, 1) := by decide +kernel
theorem d_M_findCounts_127 : decode b_M_findCounts 127 = .ok (.iaload, 1) := by decide +kernel
theorem d_M_findCounts_128 : decode b_M_findCounts 128 = .ok (.ifCond .lt 93, 3) := by decide +kernel
theorem d_M_findCounts_131 : decode b_M_findCounts 131 = .ok (.aload_n 0, 1) := by decide +kernel
theorem d_M_findCounts_132 : decode b_M_findCounts 132 = .ok (.getfield 60, 3) := by decide +kernel
theorem d_M_findCounts_135 : decode b_M_findCounts 135 = .ok (.bipush 8, 2) := by decide +kernel
theorem d_M_findCounts_137 : decode b_M_findCounts 137 = .ok (.iload_n 1, 1) := by decide +kernel
theorem d_M_findCounts_138 : decode b_M_findCounts 138 = .ok (.imul, 1) := by decide +kernel
theorem d_M_findCounts_139 : decode b_M_findCounts 139 = .ok (.aload_n 0, 1) := by decide +kernel
theorem d_M_findCounts_140 : decode b_M_findCounts 140 = .ok (.getfield 117, 3) := by decide +kernel
theorem d_M_findCounts_143 : decode b_M_findCounts 143 = .ok (.iload_n 3, 1) := by decide +kernel
theorem d_M_findCounts_144 : decode b_M_findCounts 144 = .ok (.iaload, 1) := by decide +kernel
theorem d_M_findCounts_145 : decode b_M_findCounts 145 = .ok (.iadd, 1) := by decide +kernel
theorem d_M_findCounts_146 : decode b_M_findCounts 146 = .ok (.iaload, 1) := by decide +kernel
theorem d_M_findCounts_147 : decode b_M_findCounts 147 = .ok (.istore 4, 2) := by decide +kernel
theorem d_M_findCounts_149 : decode b_M_findCounts 149 = .ok (.aload_n 0, 1) := by decide +kernel
theorem d_M_findCounts_150 : decode b_M_findCounts 150 = .ok (.getfield 123, 3) := by decide +kernel
theorem d_M_findCounts_153 : decode b_M_findCounts 153 = .ok (.iload_n 2, 1) := by decide +kernel
theorem d_M_findCounts_154 : decode b_M_findCounts 154 = .ok (.dup2, 1) := by decide +kernel
theorem d_M_findCounts_155 : decode b_M_findCounts 155 = .ok (.iaload, 1) := by decide +kernel
theorem d_M_findCounts_156 : decode b_M_findCounts 156 = .ok (.aload_n 0, 1) := by decide +kernel
theorem d_M_findCounts_157 : decode b_M_findCounts 157 = .ok (.getfield 23, 3) := by decide +kernel
theorem d_M_findCounts_160 : decode b_M_findCounts 160 = .ok (.iload_n 1, 1) := by decide +kernel
theorem d_M_findCounts_161 : decode b_M_findCounts 161 = .ok (.iaload, 1) := by decide +kernel
theorem d_M_findCounts_162 : decode b_M_findCounts 162 = .ok (.ifCond .ne 22, 3) := by decide +kernel
theorem d_M_findCounts_165 : decode b_M_findCounts 165 = .ok (.iload 4, 2) := by decide +kernel
theorem d_M_findCounts_167 : decode b_M_findCounts 167 = .ok (.iload_n 2, 1) := by decide +kernel
theorem d_M_findCounts_168 : decode b_M_findCounts 168 = .ok (.if_icmp .ne 12, 3) := by decide +kernel
theorem d_M_findCounts_171 : decode b_M_findCounts 171 = .ok (.aload_n 0, 1) := by decide +kernel
theorem d_M_findCounts_172 : decode b_M_findCounts 172 = .ok (.iload_n 1, 1) := by decide +kernel
theorem d_M_findCounts_173 : decode b_M_findCounts 173 = .ok (.iload_n 3, 1) := by decide +kernel
theorem d_M_findCounts_174 : decode b_M_findCounts 174 = .ok (.invokevirtual 203, 3) := by decide +kernel
theorem d_M_findCounts_177 : decode b_M_findCounts 177 = .ok (.goto 42, 3) := by decide +kernel
theorem d_M_findCounts_180 : decode b_M_findCounts 180 = .ok (.iconst 0, 1) := by decide +kernel
theorem d_M_findCounts_181 : decode b_M_findCounts 181 = .ok (.goto 38, 3) := by decide +kernel
theorem d_M_findCounts_184 : decode b_M_findCounts 184 = .ok (.aload_n 0, 1) := by decide +kernel
theorem d_M_findCounts_185 : decode b_M_findCounts 185 = .ok (.getfield 23, 3) := by decide +kernel
theorem d_M_findCounts_188 : decode b_M_findCounts 188 = .ok (.iload_n 1, 1) := by decide +kernel
theorem d_M_findCounts_189 : decode b_M_findCounts 189 = .ok (.iaload, 1) := by decide +kernel
theorem d_M_findCounts_190 : decode b_M_findCounts 190 = .ok (.iconst 1, 1) := by decide +kernel
theorem d_M_findCounts_191 : decode b_M_findCounts 191 = .ok (.if_icmp .ne 19, 3) := by decide +kernel
theorem d_M_findCounts_194 : decode b_M_findCounts 194 = .ok (.iload 4, 2) := by decide +kernel
theorem d_M_findCounts_196 : decode b_M_findCounts 196 = .ok (.iload_n 2, 1) := by decide +kernel
theorem d_M_findCounts_197 : decode b_M_findCounts 197 = .ok (.ishr, 1) := by decide +kernel
theorem d_M_findCounts_198 : decode b_M_findCounts 198 = .ok (.iconst 1, 1) := by decide +kernel
theorem d_M_findCounts_199 : decode b_M_findCounts 199 = .ok (.iand, 1) := by decide +kernel
theorem d_M_findCounts_200 : decode b_M_findCounts 200 = .ok (.aload_n 0, 1) := by decide +kernel
theorem d_M_findCounts_201 : decode b_M_findCounts 201 = .ok (.iload_n 1, 1) := by decide +kernel
theorem d_M_findCounts_202 : decode b_M_findCounts 202 = .ok (.iload_n 3, 1) := by decide +kernel
theorem d_M_findCounts_203 : decode b_M_findCounts 203 = .ok (.invokevirtual 203, 3) := by decide +kernel
theorem d_M_findCounts_206 : decode b_M_findCounts 206 = .ok (.imul, 1) := by decide +kernel
theorem d_M_findCounts_207 : decode b_M_findCounts 207 = .ok (.goto 12, 3) := by decide +kernel
theorem d_M_findCounts_210 : decode b_M_findCounts 210 = .ok (.iload 4, 2) := by decide +kernel
theorem d_M_findCounts_212 : decode b_M_findCounts 212 = .ok (.iconst 5, 1) := by decide +kernel
theorem d_M_findCounts_213 : decode b_M_findCounts 213 = .ok (.iload_n 2, 1) := by decide +kernel
theorem d_M_findCounts_214 : decode b_M_findCounts 214 = .ok (.imul, 1) := by decide +kernel
theorem d_M_findCounts_215 : decode b_M_findCounts 215 = .ok (.ishr, 1) := by decide +kernel
theorem d_M_findCounts_216 : decode b_M_findCounts 216 = .ok (.bipush 31, 2) := by decide +kernel
theorem d_M_findCounts_218 : decode b_M_findCounts 218 = .ok (.iand, 1) := by decide +kernel
theorem d_M_findCounts_219 : decode b_M_findCounts 219 = .ok (.iadd, 1) := by decide +kernel
theorem d_M_findCounts_220 : decode b_M_findCounts 220 = .ok (.iastore, 1) := by decide +kernel
theorem d_M_findCounts_221 : decode b_M_findCounts 221 = .ok (.iinc 3 1, 3) := by decide +kernel
theorem d_M_findCounts_224 : decode b_M_findCounts 224 = .ok (.goto (-110), 3) := by decide +kernel
theorem d_M_findCounts_227 : decode b_M_findCounts 227 = .ok (.aload_n 0, 1) := by decide +kernel
theorem d_M_findCounts_228 : decode b_M_findCounts 228 = .ok (.aload_n 0, 1) := by decide +kernel
theorem d_M_findCounts_229 : decode b_M_findCounts 229 = .ok (.getfield 209, 3) := by decide +kernel
theorem d_M_findCounts_232 : decode b_M_findCounts 232 = .ok (.ifCond .ne 12, 3) := by decide +kernel
theorem d_M_findCounts_235 : decode b_M_findCounts 235 = .ok (.aload_n 0, 1) := by decide +kernel
theorem d_M_findCounts_236 : decode b_M_findCounts 236 = .ok (.getfield 123, 3) := by decide +kernel
theorem d_M_findCounts_239 : decode b_M_findCounts 239 = .ok (.iload_n 2, 1) := by decide +kernel
theorem d_M_findCounts_240 : decode b_M_findCounts 240 = .ok (.iaload, 1) := by decide +kernel
theorem d_M_findCounts_241 : decode b_M_findCounts 241 = .ok (.ifCond .le 7, 3) := by decide +kernel
theorem d_M_findCounts_244 : decode b_M_findCounts 244 = .ok (.iconst 1, 1) := by decide +kernel
theorem d_M_findCounts_245 : decode b_M_findCounts 245 = .ok (.goto 4, 3) := by decide +kernel
theorem d_M_findCounts_248 : decode b_M_findCounts 248 = .ok (.iconst 0, 1) := by decide +kernel
theorem d_M_findCounts_249 : decode b_M_findCounts 249 = .ok (.putfield 209, 3) := by decide +kernel
theorem d_M_findCounts_252 : decode b_M_findCounts 252 = .ok (.iinc 2 1, 3) := by decide +kernel
theorem d_M_findCounts_255 : decode b_M_findCounts 255 = .ok (.goto (-153), 3) := by decide +kernel
theorem d_M_findCounts_258 : decode b_M_findCounts 258 = .ok (.return_, 1) := by decide +kernel
theorem d_M_count_0 : decode b_M_count 0 = .ok (.aload_n 0, 1) := by decide +kernel
theorem d_M_count_1 : decode b_M_count 1 = .ok (.iload_n 1, 1) := by decide +kernel
theorem d_M_count_2 : decode b_M_count 2 = .ok (.invokevirtual 173, 3) := by decide +kernel
theorem d_M_count_5 : decode b_M_count 5 = .ok (.ifCond .eq 19, 3) := by decide +kernel
theorem d_M_count_8 : decode b_M_count 8 = .ok (.iload_n 2, 1) := by decide +kernel
theorem d_M_count_9 : decode b_M_count 9 = .ok (.iconst 0, 1) := by decide +kernel
theorem d_M_count_10 : decode b_M_count 10 = .ok (.aload_n 0, 1) := by decide +kernel
theorem d_M_count_11 : decode b_M_count 11 = .ok (.getfield 26, 3) := by decide +kernel
theorem d_M_count_14 : decode b_M_count 14 = .ok (.iload_n 1, 1) := by decide +kernel
theorem d_M_count_15 : decode b_M_count 15 = .ok (.iaload, 1) := by decide +kernel
theorem d_M_count_16 : decode b_M_count 16 = .ok (.iconst 1, 1) := by decide +kernel
theorem d_M_count_17 : decode b_M_count 17 = .ok (.isub, 1) := by decide +kernel
theorem d_M_count_18 : decode b_M_count 18 = .ok (.invokestatic 139, 3) := by decide +kernel
theorem d_M_count_21 : decode b_M_count 21 = .ok (.ifCond .ne 5, 3) := by decide +kernel
theorem d_M_count_24 : decode b_M_count 24 = .ok (.iconst (-1), 1) := by decide +kernel
theorem d_M_count_25 : decode b_M_count 25 = .ok (.ireturn, 1) := by decide +kernel
theorem d_M_count_26 : decode b_M_count 26 = .ok (.aload_n 0, 1) := by decide +kernel
theorem d_M_count_27 : decode b_M_count 27 = .ok (.iload_n 1, 1) := by decide +kernel
theorem d_M_count_28 : decode b_M_count 28 = .ok (.invokevirtual 217, 3) := by decide +kernel
theorem d_M_count_31 : decode b_M_count 31 = .ok (.aload_n 0, 1) := by decide +kernel
theorem d_M_count_32 : decode b_M_count 32 = .ok (.getfield 123, 3) := by decide +kernel
theorem d_M_count_35 : decode b_M_count 35 = .ok (.iload_n 2, 1) := by decide +kernel
theorem d_M_count_36 : decode b_M_count 36 = .ok (.iaload, 1) := by decide +kernel
theorem d_M_count_37 : decode b_M_count 37 = .ok (.ireturn, 1) := by decide +kernel
theorem d_M_fallen_0 : decode b_M_fallen 0 = .ok (.aload_n 0, 1) := by decide +kernel
theorem d_M_fallen_1 : decode b_M_fallen 1 = .ok (.iload_n 1, 1) := by decide +kernel
theorem d_M_fallen_2 : decode b_M_fallen 2 = .ok (.invokevirtual 173, 3) := by decide +kernel
theorem d_M_fallen_5 : decode b_M_fallen 5 = .ok (.ifCond .ne 5, 3) := by decide +kernel
theorem d_M_fallen_8 : decode b_M_fallen 8 = .ok (.iconst (-1), 1) := by decide +kernel
theorem d_M_fallen_9 : decode b_M_fallen 9 = .ok (.ireturn, 1) := by decide +kernel
theorem d_M_fallen_10 : decode b_M_fallen 10 = .ok (.aload_n 0, 1) := by decide +kernel
theorem d_M_fallen_11 : decode b_M_fallen 11 = .ok (.getfield 23, 3) := by decide +kernel
theorem d_M_fallen_14 : decode b_M_fallen 14 = .ok (.iload_n 1, 1) := by decide +kernel
theorem d_M_fallen_15 : decode b_M_fallen 15 = .ok (.iaload, 1) := by decide +kernel
theorem d_M_fallen_16 : decode b_M_fallen 16 = .ok (.iconst 2, 1) := by decide +kernel
theorem d_M_fallen_17 : decode b_M_fallen 17 = .ok (.if_icmp .eq 6, 3) := by decide +kernel
theorem d_M_fallen_20 : decode b_M_fallen 20 = .ok (.bipush (-3), 2) := by decide +kernel
theorem d_M_fallen_22 : decode b_M_fallen 22 = .ok (.ireturn, 1) := by decide +kernel
theorem d_M_fallen_23 : decode b_M_fallen 23 = .ok (.aload_n 0, 1) := by decide +kernel
theorem d_M_fallen_24 : decode b_M_fallen 24 = .ok (.iload_n 1, 1) := by decide +kernel
theorem d_M_fallen_25 : decode b_M_fallen 25 = .ok (.invokevirtual 217, 3) := by decide +kernel
theorem d_M_fallen_28 : decode b_M_fallen 28 = .ok (.iload_n 2, 1) := by decide +kernel
theorem d_M_fallen_29 : decode b_M_fallen 29 = .ok (.iconst 0, 1) := by decide +kernel
theorem d_M_fallen_30 : decode b_M_fallen 30 = .ok (.aload_n 0, 1) := by decide +kernel
theorem d_M_fallen_31 : decode b_M_fallen 31 = .ok (.getfield 200, 3) := by decide +kernel
theorem d_M_fallen_34 : decode b_M_fallen 34 = .ok (.iconst 1, 1) := by decide +kernel
theorem d_M_fallen_35 : decode b_M_fallen 35 = .ok (.isub, 1) := by decide +kernel
theorem d_M_fallen_36 : decode b_M_fallen 36 = .ok (.invokestatic 139, 3) := by decide +kernel
theorem d_M_fallen_39 : decode b_M_fallen 39 = .ok (.ifCond .eq 12, 3) := by decide +kernel
theorem d_M_fallen_42 : decode b_M_fallen 42 = .ok (.aload_n 0, 1) := by decide +kernel
theorem d_M_fallen_43 : decode b_M_fallen 43 = .ok (.getfield 129, 3) := by decide +kernel
theorem d_M_fallen_46 : decode b_M_fallen 46 = .ok (.iload_n 2, 1) := by decide +kernel
theorem d_M_fallen_47 : decode b_M_fallen 47 = .ok (.iaload, 1) := by decide +kernel
theorem d_M_fallen_48 : decode b_M_fallen 48 = .ok (.goto 4, 3) := by decide +kernel
theorem d_M_fallen_51 : decode b_M_fallen 51 = .ok (.iconst (-1), 1) := by decide +kernel
theorem d_M_fallen_52 : decode b_M_fallen 52 = .ok (.ireturn, 1) := by decide +kernel
theorem d_M_first_0 : decode b_M_first 0 = .ok (.aload_n 0, 1) := by decide +kernel
theorem d_M_first_1 : decode b_M_first 1 = .ok (.iload_n 1, 1) := by decide +kernel
theorem d_M_first_2 : decode b_M_first 2 = .ok (.invokevirtual 217, 3) := by decide +kernel
theorem d_M_first_5 : decode b_M_first 5 = .ok (.iconst 0, 1) := by decide +kernel
theorem d_M_first_6 : decode b_M_first 6 = .ok (.istore_n 2, 1) := by decide +kernel
theorem d_M_first_7 : decode b_M_first 7 = .ok (.iconst 1, 1) := by decide +kernel
theorem d_M_first_8 : decode b_M_first 8 = .ok (.istore_n 3, 1) := by decide +kernel
theorem d_M_first_9 : decode b_M_first 9 = .ok (.iload_n 3, 1) := by decide +kernel
theorem d_M_first_10 : decode b_M_first 10 = .ok (.aload_n 0, 1) := by decide +kernel
theorem d_M_first_11 : decode b_M_first 11 = .ok (.getfield 26, 3) := by decide +kernel
theorem d_M_first_14 : decode b_M_first 14 = .ok (.iload_n 1, 1) := by decide +kernel
theorem d_M_first_15 : decode b_M_first 15 = .ok (.iaload, 1) := by decide +kernel
theorem d_M_first_16 : decode b_M_first 16 = .ok (.if_icmp .ge 30, 3) := by decide +kernel
theorem d_M_first_19 : decode b_M_first 19 = .ok (.aload_n 0, 1) := by decide +kernel
theorem d_M_first_20 : decode b_M_first 20 = .ok (.getfield 123, 3) := by decide +kernel
theorem d_M_first_23 : decode b_M_first 23 = .ok (.iload_n 3, 1) := by decide +kernel
theorem d_M_first_24 : decode b_M_first 24 = .ok (.iaload, 1) := by decide +kernel
theorem d_M_first_25 : decode b_M_first 25 = .ok (.aload_n 0, 1) := by decide +kernel
theorem d_M_first_26 : decode b_M_first 26 = .ok (.getfield 123, 3) := by decide +kernel
theorem d_M_first_29 : decode b_M_first 29 = .ok (.iload_n 2, 1) := by decide +kernel
theorem d_M_first_30 : decode b_M_first 30 = .ok (.iaload, 1) := by decide +kernel
theorem d_M_first_31 : decode b_M_first 31 = .ok (.if_icmp .le 7, 3) := by decide +kernel
theorem d_M_first_34 : decode b_M_first 34 = .ok (.iload_n 3, 1) := by decide +kernel
theorem d_M_first_35 : decode b_M_first 35 = .ok (.goto 4, 3) := by decide +kernel
theorem d_M_first_38 : decode b_M_first 38 = .ok (.iload_n 2, 1) := by decide +kernel
theorem d_M_first_39 : decode b_M_first 39 = .ok (.istore_n 2, 1) := by decide +kernel
theorem d_M_first_40 : decode b_M_first 40 = .ok (.iinc 3 1, 3) := by decide +kernel
theorem d_M_first_43 : decode b_M_first 43 = .ok (.goto (-34), 3) := by decide +kernel
theorem d_M_first_46 : decode b_M_first 46 = .ok (.aload_n 0, 1) := by decide +kernel
theorem d_M_first_47 : decode b_M_first 47 = .ok (.getfield 209, 3) := by decide +kernel
theorem d_M_first_50 : decode b_M_first 50 = .ok (.ifCond .eq 7, 3) := by decide +kernel
theorem d_M_first_53 : decode b_M_first 53 = .ok (.iload_n 2, 1) := by decide +kernel
theorem d_M_first_54 : decode b_M_first 54 = .ok (.goto 5, 3) := by decide +kernel
theorem d_M_first_57 : decode b_M_first 57 = .ok (.bipush (-3), 2) := by decide +kernel
theorem d_M_first_59 : decode b_M_first 59 = .ok (.ireturn, 1) := by decide +kernel
