theorem d_M_init_0 : decode b_M_init 0 = .ok (.aload_n 0, 1) := by decide +kernel
theorem d_M_init_1 : decode b_M_init 1 = .ok (.invokespecial 1, 3) := by decide +kernel
theorem d_M_init_4 : decode b_M_init 4 = .ok (.aload_n 0, 1) := by decide +kernel
theorem d_M_init_5 : decode b_M_init 5 = .ok (.bipush 8, 2) := by decide +kernel
theorem d_M_init_7 : decode b_M_init 7 = .ok (.newarray .int, 2) := by decide +kernel
theorem d_M_init_9 : decode b_M_init 9 = .ok (.putfield 7, 3) := by decide +kernel
theorem d_M_init_12 : decode b_M_init 12 = .ok (.aload_n 0, 1) := by decide +kernel
theorem d_M_init_13 : decode b_M_init 13 = .ok (.bipush 8, 2) := by decide +kernel
theorem d_M_init_15 : decode b_M_init 15 = .ok (.newarray .long, 2) := by decide +kernel
theorem d_M_init_17 : decode b_M_init 17 = .ok (.putfield 13, 3) := by decide +kernel
theorem d_M_init_20 : decode b_M_init 20 = .ok (.aload_n 0, 1) := by decide +kernel
theorem d_M_init_21 : decode b_M_init 21 = .ok (.bipush 8, 2) := by decide +kernel
theorem d_M_init_23 : decode b_M_init 23 = .ok (.newarray .long, 2) := by decide +kernel
theorem d_M_init_25 : decode b_M_init 25 = .ok (.putfield 17, 3) := by decide +kernel
theorem d_M_init_28 : decode b_M_init 28 = .ok (.aload_n 0, 1) := by decide +kernel
theorem d_M_init_29 : decode b_M_init 29 = .ok (.bipush 8, 2) := by decide +kernel
theorem d_M_init_31 : decode b_M_init 31 = .ok (.newarray .int, 2) := by decide +kernel
theorem d_M_init_33 : decode b_M_init 33 = .ok (.putfield 20, 3) := by decide +kernel
theorem d_M_init_36 : decode b_M_init 36 = .ok (.aload_n 0, 1) := by decide +kernel
theorem d_M_init_37 : decode b_M_init 37 = .ok (.bipush 6, 2) := by decide +kernel
theorem d_M_init_39 : decode b_M_init 39 = .ok (.newarray .int, 2) := by decide +kernel
theorem d_M_init_41 : decode b_M_init 41 = .ok (.putfield 23, 3) := by decide +kernel
theorem d_M_init_44 : decode b_M_init 44 = .ok (.aload_n 0, 1) := by decide +kernel
theorem d_M_init_45 : decode b_M_init 45 = .ok (.bipush 6, 2) := by decide +kernel
theorem d_M_init_47 : decode b_M_init 47 = .ok (.newarray .int, 2) := by decide +kernel
theorem d_M_init_49 : decode b_M_init 49 = .ok (.putfield 26, 3) := by decide +kernel
theorem d_M_init_52 : decode b_M_init 52 = .ok (.aload_n 0, 1) := by decide +kernel
theorem d_M_init_53 : decode b_M_init 53 = .ok (.bipush 6, 2) := by decide +kernel
theorem d_M_init_55 : decode b_M_init 55 = .ok (.newarray .int, 2) := by decide +kernel
theorem d_M_init_57 : decode b_M_init 57 = .ok (.putfield 29, 3) := by decide +kernel
theorem d_M_init_60 : decode b_M_init 60 = .ok (.aload_n 0, 1) := by decide +kernel
theorem d_M_init_61 : decode b_M_init 61 = .ok (.bipush 6, 2) := by decide +kernel
theorem d_M_init_63 : decode b_M_init 63 = .ok (.newarray .int, 2) := by decide +kernel
theorem d_M_init_65 : decode b_M_init 65 = .ok (.putfield 32, 3) := by decide +kernel
theorem d_M_init_68 : decode b_M_init 68 = .ok (.aload_n 0, 1) := by decide +kernel
theorem d_M_init_69 : decode b_M_init 69 = .ok (.bipush 6, 2) := by decide +kernel
theorem d_M_init_71 : decode b_M_init 71 = .ok (.newarray .int, 2) := by decide +kernel
theorem d_M_init_73 : decode b_M_init 73 = .ok (.putfield 35, 3) := by decide +kernel
theorem d_M_init_76 : decode b_M_init 76 = .ok (.aload_n 0, 1) := by decide +kernel
theorem d_M_init_77 : decode b_M_init 77 = .ok (.bipush 6, 2) := by decide +kernel
theorem d_M_init_79 : decode b_M_init 79 = .ok (.newarray .boolean, 2) := by decide +kernel
theorem d_M_init_81 : decode b_M_init 81 = .ok (.putfield 38, 3) := by decide +kernel
theorem d_M_init_84 : decode b_M_init 84 = .ok (.aload_n 0, 1) := by decide +kernel
theorem d_M_init_85 : decode b_M_init 85 = .ok (.bipush 6, 2) := by decide +kernel
theorem d_M_init_87 : decode b_M_init 87 = .ok (.newarray .boolean, 2) := by decide +kernel
theorem d_M_init_89 : decode b_M_init 89 = .ok (.putfield 42, 3) := by decide +kernel
theorem d_M_init_92 : decode b_M_init 92 = .ok (.aload_n 0, 1) := by decide +kernel
theorem d_M_init_93 : decode b_M_init 93 = .ok (.bipush 6, 2) := by decide +kernel
theorem d_M_init_95 : decode b_M_init 95 = .ok (.newarray .int, 2) := by decide +kernel
theorem d_M_init_97 : decode b_M_init 97 = .ok (.putfield 45, 3) := by decide +kernel
theorem d_M_init_100 : decode b_M_init 100 = .ok (.aload_n 0, 1) := by decide +kernel
theorem d_M_init_101 : decode b_M_init 101 = .ok (.bipush 6, 2) := by decide +kernel
theorem d_M_init_103 : decode b_M_init 103 = .ok (.newarray .int, 2) := by decide +kernel
theorem d_M_init_105 : decode b_M_init 105 = .ok (.putfield 48, 3) := by decide +kernel
theorem d_M_init_108 : decode b_M_init 108 = .ok (.aload_n 0, 1) := by decide +kernel
theorem d_M_init_109 : decode b_M_init 109 = .ok (.bipush 6, 2) := by decide +kernel
theorem d_M_init_111 : decode b_M_init 111 = .ok (.newarray .int, 2) := by decide +kernel
theorem d_M_init_113 : decode b_M_init 113 = .ok (.putfield 51, 3) := by decide +kernel
theorem d_M_init_116 : decode b_M_init 116 = .ok (.aload_n 0, 1) := by decide +kernel
theorem d_M_init_117 : decode b_M_init 117 = .ok (.bipush 48, 2) := by decide +kernel
theorem d_M_init_119 : decode b_M_init 119 = .ok (.newarray .int, 2) := by decide +kernel
theorem d_M_init_121 : decode b_M_init 121 = .ok (.putfield 54, 3) := by decide +kernel
theorem d_M_init_124 : decode b_M_init 124 = .ok (.aload_n 0, 1) := by decide +kernel
theorem d_M_init_125 : decode b_M_init 125 = .ok (.bipush 48, 2) := by decide +kernel
theorem d_M_init_127 : decode b_M_init 127 = .ok (.newarray .boolean, 2) := by decide +kernel
theorem d_M_init_129 : decode b_M_init 129 = .ok (.putfield 57, 3) := by decide +kernel
theorem d_M_init_132 : decode b_M_init 132 = .ok (.aload_n 0, 1) := by decide +kernel
theorem d_M_init_133 : decode b_M_init 133 = .ok (.bipush 48, 2) := by decide +kernel
theorem d_M_init_135 : decode b_M_init 135 = .ok (.newarray .int, 2) := by decide +kernel
theorem d_M_init_137 : decode b_M_init 137 = .ok (.putfield 60, 3) := by decide +kernel
theorem d_M_init_140 : decode b_M_init 140 = .ok (.aload_n 0, 1) := by decide +kernel
theorem d_M_init_141 : decode b_M_init 141 = .ok (.bipush 48, 2) := by decide +kernel
theorem d_M_init_143 : decode b_M_init 143 = .ok (.newarray .boolean, 2) := by decide +kernel
theorem d_M_init_145 : decode b_M_init 145 = .ok (.putfield 63, 3) := by decide +kernel
theorem d_M_init_148 : decode b_M_init 148 = .ok (.aload_n 0, 1) := by decide +kernel
theorem d_M_init_149 : decode b_M_init 149 = .ok (.bipush 48, 2) := by decide +kernel
theorem d_M_init_151 : decode b_M_init 151 = .ok (.newarray .long, 2) := by decide +kernel
theorem d_M_init_153 : decode b_M_init 153 = .ok (.putfield 66, 3) := by decide +kernel
theorem d_M_init_156 : decode b_M_init 156 = .ok (.aload_n 0, 1) := by decide +kernel
theorem d_M_init_157 : decode b_M_init 157 = .ok (.bipush 48, 2) := by decide +kernel
theorem d_M_init_159 : decode b_M_init 159 = .ok (.newarray .int, 2) := by decide +kernel
theorem d_M_init_161 : decode b_M_init 161 = .ok (.putfield 69, 3) := by decide +kernel
theorem d_M_init_164 : decode b_M_init 164 = .ok (.aload_n 0, 1) := by decide +kernel
theorem d_M_init_165 : decode b_M_init 165 = .ok (.bipush 6, 2) := by decide +kernel
theorem d_M_init_167 : decode b_M_init 167 = .ok (.newarray .int, 2) := by decide +kernel
theorem d_M_init_169 : decode b_M_init 169 = .ok (.putfield 72, 3) := by decide +kernel
theorem d_M_init_172 : decode b_M_init 172 = .ok (.aload_n 0, 1) := by decide +kernel
theorem d_M_init_173 : decode b_M_init 173 = .ok (.bipush 6, 2) := by decide +kernel
theorem d_M_init_175 : decode b_M_init 175 = .ok (.newarray .int, 2) := by decide +kernel
theorem d_M_init_177 : decode b_M_init 177 = .ok (.putfield 75, 3) := by decide +kernel
theorem d_M_init_180 : decode b_M_init 180 = .ok (.aload_n 0, 1) := by decide +kernel
theorem d_M_init_181 : decode b_M_init 181 = .ok (.bipush 6, 2) := by decide +kernel
theorem d_M_init_183 : decode b_M_init 183 = .ok (.newarray .int, 2) := by decide +kernel
theorem d_M_init_185 : decode b_M_init 185 = .ok (.putfield 78, 3) := by decide +kernel
theorem d_M_init_188 : decode b_M_init 188 = .ok (.aload_n 0, 1) := by decide +kernel
theorem d_M_init_189 : decode b_M_init 189 = .ok (.bipush 6, 2) := by decide +kernel
theorem d_M_init_191 : decode b_M_init 191 = .ok (.newarray .int, 2) := by decide +kernel
theorem d_M_init_193 : decode b_M_init 193 = .ok (.putfield 81, 3) := by decide +kernel
theorem d_M_init_196 : decode b_M_init 196 = .ok (.aload_n 0, 1) := by decide +kernel
theorem d_M_init_197 : decode b_M_init 197 = .ok (.bipush 6, 2) := by decide +kernel
theorem d_M_init_199 : decode b_M_init 199 = .ok (.newarray .int, 2) := by decide +kernel
theorem d_M_init_201 : decode b_M_init 201 = .ok (.putfield 84, 3) := by decide +kernel
theorem d_M_init_204 : decode b_M_init 204 = .ok (.aload_n 0, 1) := by decide +kernel
theorem d_M_init_205 : decode b_M_init 205 = .ok (.bipush 6, 2) := by decide +kernel
theorem d_M_init_207 : decode b_M_init 207 = .ok (.newarray .int, 2) := by decide +kernel
theorem d_M_init_209 : decode b_M_init 209 = .ok (.putfield 87, 3) := by decide +kernel
theorem d_M_init_212 : decode b_M_init 212 = .ok (.aload_n 0, 1) := by decide +kernel
theorem d_M_init_213 : decode b_M_init 213 = .ok (.bipush 6, 2) := by decide +kernel
theorem d_M_init_215 : decode b_M_init 215 = .ok (.newarray .long, 2) := by decide +kernel
theorem d_M_init_217 : decode b_M_init 217 = .ok (.putfield 90, 3) := by decide +kernel
theorem d_M_init_220 : decode b_M_init 220 = .ok (.aload_n 0, 1) := by decide +kernel
theorem d_M_init_221 : decode b_M_init 221 = .ok (.bipush 6, 2) := by decide +kernel
theorem d_M_init_223 : decode b_M_init 223 = .ok (.newarray .int, 2) := by decide +kernel
theorem d_M_init_225 : decode b_M_init 225 = .ok (.putfield 93, 3) := by decide +kernel
theorem d_M_init_228 : decode b_M_init 228 = .ok (.aload_n 0, 1) := by decide +kernel
theorem d_M_init_229 : decode b_M_init 229 = .ok (.bipush 48, 2) := by decide +kernel
theorem d_M_init_231 : decode b_M_init 231 = .ok (.newarray .boolean, 2) := by decide +kernel
theorem d_M_init_233 : decode b_M_init 233 = .ok (.putfield 96, 3) := by decide +kernel
theorem d_M_init_236 : decode b_M_init 236 = .ok (.aload_n 0, 1) := by decide +kernel
theorem d_M_init_237 : decode b_M_init 237 = .ok (.bipush 48, 2) := by decide +kernel
theorem d_M_init_239 : decode b_M_init 239 = .ok (.newarray .int, 2) := by decide +kernel
theorem d_M_init_241 : decode b_M_init 241 = .ok (.putfield 99, 3) := by decide +kernel
theorem d_M_init_244 : decode b_M_init 244 = .ok (.aload_n 0, 1) := by decide +kernel
theorem d_M_init_245 : decode b_M_init 245 = .ok (.bipush 48, 2) := by decide +kernel
theorem d_M_init_247 : decode b_M_init 247 = .ok (.newarray .int, 2) := by decide +kernel
theorem d_M_init_249 : decode b_M_init 249 = .ok (.putfield 102, 3) := by decide +kernel
theorem d_M_init_252 : decode b_M_init 252 = .ok (.aload_n 0, 1) := by decide +kernel
theorem d_M_init_253 : decode b_M_init 253 = .ok (.bipush 48, 2) := by decide +kernel
theorem d_M_init_255 : decode b_M_init 255 = .ok (.newarray .int, 2) := by decide +kernel
theorem d_M_init_257 : decode b_M_init 257 = .ok (.putfield 105, 3) := by decide +kernel
theorem d_M_init_260 : decode b_M_init 260 = .ok (.aload_n 0, 1) := by decide +kernel
theorem d_M_init_261 : decode b_M_init 261 = .ok (.bipush 48, 2) := by decide +kernel
theorem d_M_init_263 : decode b_M_init 263 = .ok (.newarray .long, 2) := by decide +kernel
theorem d_M_init_265 : decode b_M_init 265 = .ok (.putfield 108, 3) := by decide +kernel
theorem d_M_init_268 : decode b_M_init 268 = .ok (.aload_n 0, 1) := by decide +kernel
theorem d_M_init_269 : decode b_M_init 269 = .ok (.bipush 48, 2) := by decide +kernel
theorem d_M_init_271 : decode b_M_init 271 = .ok (.newarray .boolean, 2) := by decide +kernel
theorem d_M_init_273 : decode b_M_init 273 = .ok (.putfield 111, 3) := by decide +kernel
theorem d_M_init_276 : decode b_M_init 276 = .ok (.aload_n 0, 1) := by decide +kernel
theorem d_M_init_277 : decode b_M_init 277 = .ok (.bipush 48, 2) := by decide +kernel
theorem d_M_init_279 : decode b_M_init 279 = .ok (.newarray .int, 2) := by decide +kernel
theorem d_M_init_281 : decode b_M_init 281 = .ok (.putfield 114, 3) := by decide +kernel
theorem d_M_init_284 : decode b_M_init 284 = .ok (.aload_n 0, 1) := by decide +kernel
theorem d_M_init_285 : decode b_M_init 285 = .ok (.bipush 8, 2) := by decide +kernel
theorem d_M_init_287 : decode b_M_init 287 = .ok (.newarray .int, 2) := by decide +kernel
theorem d_M_init_289 : decode b_M_init 289 = .ok (.putfield 117, 3) := by decide +kernel
theorem d_M_init_292 : decode b_M_init 292 = .ok (.aload_n 0, 1) := by decide +kernel
theorem d_M_init_293 : decode b_M_init 293 = .ok (.bipush 8, 2) := by decide +kernel
theorem d_M_init_295 : decode b_M_init 295 = .ok (.newarray .int, 2) := by decide +kernel
theorem d_M_init_297 : decode b_M_init 297 = .ok (.putfield 120, 3) := by decide +kernel
theorem d_M_init_300 : decode b_M_init 300 = .ok (.aload_n 0, 1) := by decide +kernel
theorem d_M_init_301 : decode b_M_init 301 = .ok (.iconst 4, 1) := by decide +kernel
theorem d_M_init_302 : decode b_M_init 302 = .ok (.newarray .int, 2) := by decide +kernel
theorem d_M_init_304 : decode b_M_init 304 = .ok (.putfield 123, 3) := by decide +kernel
theorem d_M_init_307 : decode b_M_init 307 = .ok (.aload_n 0, 1) := by decide +kernel
theorem d_M_init_308 : decode b_M_init 308 = .ok (.iconst 4, 1) := by decide +kernel
theorem d_M_init_309 : decode b_M_init 309 = .ok (.newarray .boolean, 2) := by decide +kernel
theorem d_M_init_311 : decode b_M_init 311 = .ok (.putfield 126, 3) := by decide +kernel
theorem d_M_init_314 : decode b_M_init 314 = .ok (.aload_n 0, 1) := by decide +kernel
theorem d_M_init_315 : decode b_M_init 315 = .ok (.iconst 4, 1) := by decide +kernel
theorem d_M_init_316 : decode b_M_init 316 = .ok (.newarray .int, 2) := by decide +kernel
theorem d_M_init_318 : decode b_M_init 318 = .ok (.putfield 129, 3) := by decide +kernel
theorem d_M_init_321 : decode b_M_init 321 = .ok (.return_, 1) := by decide +kernel
theorem d_M_isIn_0 : decode b_M_isIn 0 = .ok (.iload_n 0, 1) := by decide +kernel
theorem d_M_isIn_1 : decode b_M_isIn 1 = .ok (.iload_n 1, 1) := by decide +kernel
theorem d_M_isIn_2 : decode b_M_isIn 2 = .ok (.if_icmp .lt 12, 3) := by decide +kernel
theorem d_M_isIn_5 : decode b_M_isIn 5 = .ok (.iload_n 0, 1) := by decide +kernel
theorem d_M_isIn_6 : decode b_M_isIn 6 = .ok (.iload_n 2, 1) := by decide +kernel
theorem d_M_isIn_7 : decode b_M_isIn 7 = .ok (.if_icmp .gt 7, 3) := by decide +kernel
theorem d_M_isIn_10 : decode b_M_isIn 10 = .ok (.iconst 1, 1) := by decide +kernel
theorem d_M_isIn_11 : decode b_M_isIn 11 = .ok (.goto 4, 3) := by decide +kernel
theorem d_M_isIn_14 : decode b_M_isIn 14 = .ok (.iconst 0, 1) := by decide +kernel
theorem d_M_isIn_15 : decode b_M_isIn 15 = .ok (.ireturn, 1) := by decide +kernel
theorem d_M_isAccount_0 : decode b_M_isAccount 0 = .ok (.iload_n 1, 1) := by decide +kernel
theorem d_M_isAccount_1 : decode b_M_isAccount 1 = .ok (.ifCond .lt 15, 3) := by decide +kernel
theorem d_M_isAccount_4 : decode b_M_isAccount 4 = .ok (.iload_n 1, 1) := by decide +kernel
theorem d_M_isAccount_5 : decode b_M_isAccount 5 = .ok (.aload_n 0, 1) := by decide +kernel
theorem d_M_isAccount_6 : decode b_M_isAccount 6 = .ok (.getfield 136, 3) := by decide +kernel
theorem d_M_isAccount_9 : decode b_M_isAccount 9 = .ok (.if_icmp .ge 7, 3) := by decide +kernel
theorem d_M_isAccount_12 : decode b_M_isAccount 12 = .ok (.iconst 1, 1) := by decide +kernel
theorem d_M_isAccount_13 : decode b_M_isAccount 13 = .ok (.goto 4, 3) := by decide +kernel
theorem d_M_isAccount_16 : decode b_M_isAccount 16 = .ok (.iconst 0, 1) := by decide +kernel
theorem d_M_isAccount_17 : decode b_M_isAccount 17 = .ok (.ireturn, 1) := by decide +kernel
theorem d_M_account_0 : decode b_M_account 0 = .ok (.iload_n 1, 1) := by decide +kernel
theorem d_M_account_1 : decode b_M_account 1 = .ok (.iconst 0, 1) := by decide +kernel
theorem d_M_account_2 : decode b_M_account 2 = .ok (.sipush 1000, 3) := by decide +kernel
theorem d_M_account_5 : decode b_M_account 5 = .ok (.invokestatic 139, 3) := by decide +kernel
theorem d_M_account_8 : decode b_M_account 8 = .ok (.ifCond .eq 13, 3) := by decide +kernel
theorem d_M_account_11 : decode b_M_account 11 = .ok (.iload_n 2, 1) := by decide +kernel
theorem d_M_account_12 : decode b_M_account 12 = .ok (.iconst 0, 1) := by decide +kernel
theorem d_M_account_13 : decode b_M_account 13 = .ok (.ldc 142, 2) := by decide +kernel
theorem d_M_account_15 : decode b_M_account 15 = .ok (.invokestatic 139, 3) := by decide +kernel
theorem d_M_account_18 : decode b_M_account 18 = .ok (.ifCond .ne 6, 3) := by decide +kernel
theorem d_M_account_21 : decode b_M_account 21 = .ok (.bipush (-2), 2) := by decide +kernel
theorem d_M_account_23 : decode b_M_account 23 = .ok (.ireturn, 1) := by decide +kernel
theorem d_M_account_24 : decode b_M_account 24 = .ok (.aload_n 0, 1) := by decide +kernel
theorem d_M_account_25 : decode b_M_account 25 = .ok (.getfield 136, 3) := by decide +kernel
theorem d_M_account_28 : decode b_M_account 28 = .ok (.bipush 8, 2) := by decide +kernel
theorem d_M_account_30 : decode b_M_account 30 = .ok (.if_icmp .ne 6, 3) := by decide +kernel
theorem d_M_account_33 : decode b_M_account 33 = .ok (.bipush (-4), 2) := by decide +kernel
theorem d_M_account_35 : decode b_M_account 35 = .ok (.ireturn, 1) := by decide +kernel
theorem d_M_account_36 : decode b_M_account 36 = .ok (.aload_n 0, 1) := by decide +kernel
theorem d_M_account_37 : decode b_M_account 37 = .ok (.getfield 7, 3) := by decide +kernel
theorem d_M_account_40 : decode b_M_account 40 = .ok (.aload_n 0, 1) := by decide +kernel
theorem d_M_account_41 : decode b_M_account 41 = .ok (.getfield 136, 3) := by decide +kernel
theorem d_M_account_44 : decode b_M_account 44 = .ok (.iload_n 1, 1) := by decide +kernel
theorem d_M_account_45 : decode b_M_account 45 = .ok (.iastore, 1) := by decide +kernel
theorem d_M_account_46 : decode b_M_account 46 = .ok (.aload_n 0, 1) := by decide +kernel
theorem d_M_account_47 : decode b_M_account 47 = .ok (.getfield 13, 3) := by decide +kernel
theorem d_M_account_50 : decode b_M_account 50 = .ok (.aload_n 0, 1) := by decide +kernel
theorem d_M_account_51 : decode b_M_account 51 = .ok (.getfield 136, 3) := by decide +kernel
theorem d_M_account_54 : decode b_M_account 54 = .ok (.iload_n 2, 1) := by decide +kernel
theorem d_M_account_55 : decode b_M_account 55 = .ok (.i2l, 1) := by decide +kernel
theorem d_M_account_56 : decode b_M_account 56 = .ok (.lastore, 1) := by decide +kernel
theorem d_M_account_57 : decode b_M_account 57 = .ok (.aload_n 0, 1) := by decide +kernel
theorem d_M_account_58 : decode b_M_account 58 = .ok (.getfield 17, 3) := by decide +kernel
theorem d_M_account_61 : decode b_M_account 61 = .ok (.aload_n 0, 1) := by decide +kernel
theorem d_M_account_62 : decode b_M_account 62 = .ok (.getfield 136, 3) := by decide +kernel
theorem d_M_account_65 : decode b_M_account 65 = .ok (.lconst 0, 1) := by decide +kernel
theorem d_M_account_66 : decode b_M_account 66 = .ok (.lastore, 1) := by decide +kernel
theorem d_M_account_67 : decode b_M_account 67 = .ok (.aload_n 0, 1) := by decide +kernel
theorem d_M_account_68 : decode b_M_account 68 = .ok (.getfield 20, 3) := by decide +kernel
theorem d_M_account_71 : decode b_M_account 71 = .ok (.aload_n 0, 1) := by decide +kernel
theorem d_M_account_72 : decode b_M_account 72 = .ok (.getfield 136, 3) := by decide +kernel
theorem d_M_account_75 : decode b_M_account 75 = .ok (.aload_n 0, 1) := by decide +kernel
theorem d_M_account_76 : decode b_M_account 76 = .ok (.getfield 136, 3) := by decide +kernel
theorem d_M_account_79 : decode b_M_account 79 = .ok (.iastore, 1) := by decide +kernel
theorem d_M_account_80 : decode b_M_account 80 = .ok (.aload_n 0, 1) := by decide +kernel
theorem d_M_account_81 : decode b_M_account 81 = .ok (.dup, 1) := by decide +kernel
theorem d_M_account_82 : decode b_M_account 82 = .ok (.getfield 136, 3) := by decide +kernel
theorem d_M_account_85 : decode b_M_account 85 = .ok (.iconst 1, 1) := by decide +kernel
theorem d_M_account_86 : decode b_M_account 86 = .ok (.iadd, 1) := by decide +kernel
theorem d_M_account_87 : decode b_M_account 87 = .ok (.putfield 136, 3) := by decide +kernel
theorem d_M_account_90 : decode b_M_account 90 = .ok (.aload_n 0, 1) := by decide +kernel
theorem d_M_account_91 : decode b_M_account 91 = .ok (.getfield 136, 3) := by decide +kernel
theorem d_M_account_94 : decode b_M_account 94 = .ok (.iconst 1, 1) := by decide +kernel
theorem d_M_account_95 : decode b_M_account 95 = .ok (.isub, 1) := by decide +kernel
theorem d_M_account_96 : decode b_M_account 96 = .ok (.ireturn, 1) := by decide +kernel
theorem d_M_weigh_0 : decode b_M_weigh 0 = .ok (.aload_n 0, 1) := by decide +kernel
theorem d_M_weigh_1 : decode b_M_weigh 1 = .ok (.iload_n 1, 1) := by decide +kernel
theorem d_M_weigh_2 : decode b_M_weigh 2 = .ok (.invokevirtual 143, 3) := by decide +kernel
theorem d_M_weigh_5 : decode b_M_weigh 5 = .ok (.ifCond .ne 5, 3) := by decide +kernel
theorem d_M_weigh_8 : decode b_M_weigh 8 = .ok (.iconst (-1), 1) := by decide +kernel
theorem d_M_weigh_9 : decode b_M_weigh 9 = .ok (.ireturn, 1) := by decide +kernel
theorem d_M_weigh_10 : decode b_M_weigh 10 = .ok (.iload_n 2, 1) := by decide +kernel
theorem d_M_weigh_11 : decode b_M_weigh 11 = .ok (.iconst 0, 1) := by decide +kernel
theorem d_M_weigh_12 : decode b_M_weigh 12 = .ok (.sipush 1000, 3) := by decide +kernel
theorem d_M_weigh_15 : decode b_M_weigh 15 = .ok (.invokestatic 139, 3) := by decide +kernel
theorem d_M_weigh_18 : decode b_M_weigh 18 = .ok (.ifCond .ne 6, 3) := by decide +kernel
theorem d_M_weigh_21 : decode b_M_weigh 21 = .ok (.bipush (-2), 2) := by decide +kernel
theorem d_M_weigh_23 : decode b_M_weigh 23 = .ok (.ireturn, 1) := by decide +kernel
theorem d_M_weigh_24 : decode b_M_weigh 24 = .ok (.aload_n 0, 1) := by decide +kernel
theorem d_M_weigh_25 : decode b_M_weigh 25 = .ok (.getfield 7, 3) := by decide +kernel
theorem d_M_weigh_28 : decode b_M_weigh 28 = .ok (.iload_n 1, 1) := by decide +kernel
theorem d_M_weigh_29 : decode b_M_weigh 29 = .ok (.iaload, 1) := by decide +kernel
theorem d_M_weigh_30 : decode b_M_weigh 30 = .ok (.istore_n 3, 1) := by decide +kernel
theorem d_M_weigh_31 : decode b_M_weigh 31 = .ok (.aload_n 0, 1) := by decide +kernel
theorem d_M_weigh_32 : decode b_M_weigh 32 = .ok (.getfield 7, 3) := by decide +kernel
theorem d_M_weigh_35 : decode b_M_weigh 35 = .ok (.iload_n 1, 1) := by decide +kernel
theorem d_M_weigh_36 : decode b_M_weigh 36 = .ok (.iload_n 2, 1) := by decide +kernel
theorem d_M_weigh_37 : decode b_M_weigh 37 = .ok (.iastore, 1) := by decide +kernel
theorem d_M_weigh_38 : decode b_M_weigh 38 = .ok (.iload_n 3, 1) := by decide +kernel
theorem d_M_weigh_39 : decode b_M_weigh 39 = .ok (.ireturn, 1) := by decide +kernel
theorem d_M_fund_0 : decode b_M_fund 0 = .ok (.aload_n 0, 1) := by decide +kernel
theorem d_M_fund_1 : decode b_M_fund 1 = .ok (.iload_n 1, 1) := by decide +kernel
theorem d_M_fund_2 : decode b_M_fund 2 = .ok (.invokevirtual 143, 3) := by decide +kernel
theorem d_M_fund_5 : decode b_M_fund 5 = .ok (.ifCond .ne 5, 3) := by decide +kernel
theorem d_M_fund_8 : decode b_M_fund 8 = .ok (.iconst (-1), 1) := by decide +kernel
theorem d_M_fund_9 : decode b_M_fund 9 = .ok (.ireturn, 1) := by decide +kernel
theorem d_M_fund_10 : decode b_M_fund 10 = .ok (.iload_n 2, 1) := by decide +kernel
theorem d_M_fund_11 : decode b_M_fund 11 = .ok (.iconst 0, 1) := by decide +kernel
theorem d_M_fund_12 : decode b_M_fund 12 = .ok (.ldc 147, 2) := by decide +kernel
theorem d_M_fund_14 : decode b_M_fund 14 = .ok (.invokestatic 139, 3) := by decide +kernel
theorem d_M_fund_17 : decode b_M_fund 17 = .ok (.ifCond .ne 6, 3) := by decide +kernel
theorem d_M_fund_20 : decode b_M_fund 20 = .ok (.bipush (-2), 2) := by decide +kernel
theorem d_M_fund_22 : decode b_M_fund 22 = .ok (.ireturn, 1) := by decide +kernel
theorem d_M_fund_23 : decode b_M_fund 23 = .ok (.aload_n 0, 1) := by decide +kernel
theorem d_M_fund_24 : decode b_M_fund 24 = .ok (.getfield 13, 3) := by decide +kernel
theorem d_M_fund_27 : decode b_M_fund 27 = .ok (.iload_n 1, 1) := by decide +kernel
theorem d_M_fund_28 : decode b_M_fund 28 = .ok (.dup2, 1) := by decide +kernel
theorem d_M_fund_29 : decode b_M_fund 29 = .ok (.laload, 1) := by decide +kernel
theorem d_M_fund_30 : decode b_M_fund 30 = .ok (.iload_n 2, 1) := by decide +kernel
theorem d_M_fund_31 : decode b_M_fund 31 = .ok (.i2l, 1) := by decide +kernel
theorem d_M_fund_32 : decode b_M_fund 32 = .ok (.ladd, 1) := by decide +kernel
theorem d_M_fund_33 : decode b_M_fund 33 = .ok (.lastore, 1) := by decide +kernel
theorem d_M_fund_34 : decode b_M_fund 34 = .ok (.iconst 1, 1) := by decide +kernel
theorem d_M_fund_35 : decode b_M_fund 35 = .ok (.ireturn, 1) := by decide +kernel
theorem d_M_speak_0 : decode b_M_speak 0 = .ok (.aload_n 0, 1) := by decide +kernel
theorem d_M_speak_1 : decode b_M_speak 1 = .ok (.iload_n 1, 1) := by decide +kernel
theorem d_M_speak_2 : decode b_M_speak 2 = .ok (.invokevirtual 143, 3) := by decide +kernel
theorem d_M_speak_5 : decode b_M_speak 5 = .ok (.ifCond .eq 11, 3) := by decide +kernel
theorem d_M_speak_8 : decode b_M_speak 8 = .ok (.aload_n 0, 1) := by decide +kernel
theorem d_M_speak_9 : decode b_M_speak 9 = .ok (.iload_n 2, 1) := by decide +kernel
theorem d_M_speak_10 : decode b_M_speak 10 = .ok (.invokevirtual 143, 3) := by decide +kernel
theorem d_M_speak_13 : decode b_M_speak 13 = .ok (.ifCond .ne 5, 3) := by decide +kernel
theorem d_M_speak_16 : decode b_M_speak 16 = .ok (.iconst (-1), 1) := by decide +kernel
theorem d_M_speak_17 : decode b_M_speak 17 = .ok (.ireturn, 1) := by decide +kernel
theorem d_M_speak_18 : decode b_M_speak 18 = .ok (.aload_n 0, 1) := by decide +kernel
theorem d_M_speak_19 : decode b_M_speak 19 = .ok (.getfield 20, 3) := by decide +kernel
theorem d_M_speak_22 : decode b_M_speak 22 = .ok (.iload_n 1, 1) := by decide +kernel
theorem d_M_speak_23 : decode b_M_speak 23 = .ok (.iaload, 1) := by decide +kernel
theorem d_M_speak_24 : decode b_M_speak 24 = .ok (.istore_n 3, 1) := by decide +kernel
theorem d_M_speak_25 : decode b_M_speak 25 = .ok (.aload_n 0, 1) := by decide +kernel
theorem d_M_speak_26 : decode b_M_speak 26 = .ok (.getfield 20, 3) := by decide +kernel
theorem d_M_speak_29 : decode b_M_speak 29 = .ok (.iload_n 1, 1) := by decide +kernel
theorem d_M_speak_30 : decode b_M_speak 30 = .ok (.iload_n 2, 1) := by decide +kernel
theorem d_M_speak_31 : decode b_M_speak 31 = .ok (.iastore, 1) := by decide +kernel
theorem d_M_speak_32 : decode b_M_speak 32 = .ok (.iload_n 3, 1) := by decide +kernel
theorem d_M_speak_33 : decode b_M_speak 33 = .ok (.ireturn, 1) := by decide +kernel
theorem d_M_holds_0 : decode b_M_holds 0 = .ok (.aload_n 0, 1) := by decide +kernel
theorem d_M_holds_1 : decode b_M_holds 1 = .ok (.iload_n 1, 1) := by decide +kernel
theorem d_M_holds_2 : decode b_M_holds 2 = .ok (.invokevirtual 143, 3) := by decide +kernel
theorem d_M_holds_5 : decode b_M_holds 5 = .ok (.ifCond .ne 7, 3) := by decide +kernel
theorem d_M_holds_8 : decode b_M_holds 8 = .ok (.ldc2_w 148, 3) := by decide +kernel
theorem d_M_holds_11 : decode b_M_holds 11 = .ok (.lreturn, 1) := by decide +kernel
theorem d_M_holds_12 : decode b_M_holds 12 = .ok (.iload_n 2, 1) := by decide +kernel
theorem d_M_holds_13 : decode b_M_holds 13 = .ok (.ifCond .ne 13, 3) := by decide +kernel
theorem d_M_holds_16 : decode b_M_holds 16 = .ok (.aload_n 0, 1) := by decide +kernel
theorem d_M_holds_17 : decode b_M_holds 17 = .ok (.getfield 7, 3) := by decide +kernel
theorem d_M_holds_20 : decode b_M_holds 20 = .ok (.iload_n 1, 1) := by decide +kernel
theorem d_M_holds_21 : decode b_M_holds 21 = .ok (.iaload, 1) := by decide +kernel
theorem d_M_holds_22 : decode b_M_holds 22 = .ok (.i2l, 1) := by decide +kernel
theorem d_M_holds_23 : decode b_M_holds 23 = .ok (.goto 34, 3) := by decide +kernel
theorem d_M_holds_26 : decode b_M_holds 26 = .ok (.iload_n 2, 1) := by decide +kernel
theorem d_M_holds_27 : decode b_M_holds 27 = .ok (.iconst 1, 1) := by decide +kernel
theorem d_M_holds_28 : decode b_M_holds 28 = .ok (.if_icmp .ne 12, 3) := by decide +kernel
theorem d_M_holds_31 : decode b_M_holds 31 = .ok (.aload_n 0, 1) := by decide +kernel
theorem d_M_holds_32 : decode b_M_holds 32 = .ok (.getfield 13, 3) := by decide +kernel
theorem d_M_holds_35 : decode b_M_holds 35 = .ok (.iload_n 1, 1) := by decide +kernel
theorem d_M_holds_36 : decode b_M_holds 36 = .ok (.laload, 1) := by decide +kernel
theorem d_M_holds_37 : decode b_M_holds 37 = .ok (.goto 20, 3) := by decide +kernel
theorem d_M_holds_40 : decode b_M_holds 40 = .ok (.iload_n 2, 1) := by decide +kernel
theorem d_M_holds_41 : decode b_M_holds 41 = .ok (.iconst 2, 1) := by decide +kernel
theorem d_M_holds_42 : decode b_M_holds 42 = .ok (.if_icmp .ne 12, 3) := by decide +kernel
theorem d_M_holds_45 : decode b_M_holds 45 = .ok (.aload_n 0, 1) := by decide +kernel
theorem d_M_holds_46 : decode b_M_holds 46 = .ok (.getfield 17, 3) := by decide +kernel
theorem d_M_holds_49 : decode b_M_holds 49 = .ok (.iload_n 1, 1) := by decide +kernel
theorem d_M_holds_50 : decode b_M_holds 50 = .ok (.laload, 1) := by decide +kernel
theorem d_M_holds_51 : decode b_M_holds 51 = .ok (.goto 6, 3) := by decide +kernel
theorem d_M_holds_54 : decode b_M_holds 54 = .ok (.ldc2_w 150, 3) := by decide +kernel
theorem d_M_holds_57 : decode b_M_holds 57 = .ok (.lreturn, 1) := by decide +kernel
theorem d_M_pot_0 : decode b_M_pot 0 = .ok (.aload_n 0, 1) := by decide +kernel
theorem d_M_pot_1 : decode b_M_pot 1 = .ok (.getfield 152, 3) := by decide +kernel
theorem d_M_pot_4 : decode b_M_pot 4 = .ok (.lreturn, 1) := by decide +kernel
theorem d_M_greatest_0 : decode b_M_greatest 0 = .ok (.iconst (-1), 1) := by decide +kernel
theorem d_M_greatest_1 : decode b_M_greatest 1 = .ok (.istore_n 3, 1) := by decide +kernel
theorem d_M_greatest_2 : decode b_M_greatest 2 = .ok (.iconst 0, 1) := by decide +kernel
theorem d_M_greatest_3 : decode b_M_greatest 3 = .ok (.istore 4, 2) := by decide +kernel
theorem d_M_greatest_5 : decode b_M_greatest 5 = .ok (.iload 4, 2) := by decide +kernel
theorem d_M_greatest_7 : decode b_M_greatest 7 = .ok (.aload_n 0, 1) := by decide +kernel
theorem d_M_greatest_8 : decode b_M_greatest 8 = .ok (.getfield 136, 3) := by decide +kernel
theorem d_M_greatest_11 : decode b_M_greatest 11 = .ok (.if_icmp .ge 174, 3) := by decide +kernel
theorem d_M_greatest_14 : decode b_M_greatest 14 = .ok (.bipush 8, 2) := by decide +kernel
theorem d_M_greatest_16 : decode b_M_greatest 16 = .ok (.iload_n 1, 1) := by decide +kernel
theorem d_M_greatest_17 : decode b_M_greatest 17 = .ok (.imul, 1) := by decide +kernel
theorem d_M_greatest_18 : decode b_M_greatest 18 = .ok (.iload 4, 2) := by decide +kernel
theorem d_M_greatest_20 : decode b_M_greatest 20 = .ok (.iadd, 1) := by decide +kernel
theorem d_M_greatest_21 : decode b_M_greatest 21 = .ok (.istore 5, 2) := by decide +kernel
theorem d_M_greatest_23 : decode b_M_greatest 23 = .ok (.aload_n 0, 1) := by decide +kernel
theorem d_M_greatest_24 : decode b_M_greatest 24 = .ok (.getfield 96, 3) := by decide +kernel
theorem d_M_greatest_27 : decode b_M_greatest 27 = .ok (.iload 5, 2) := by decide +kernel
theorem d_M_greatest_29 : decode b_M_greatest 29 = .ok (.baload, 1) := by decide +kernel
theorem d_M_greatest_30 : decode b_M_greatest 30 = .ok (.ifCond .eq 55, 3) := by decide +kernel
theorem d_M_greatest_33 : decode b_M_greatest 33 = .ok (.iload 4, 2) := by decide +kernel
theorem d_M_greatest_35 : decode b_M_greatest 35 = .ok (.iload_n 2, 1) := by decide +kernel
theorem d_M_greatest_36 : decode b_M_greatest 36 = .ok (.if_icmp .eq 49, 3) := by decide +kernel
theorem d_M_greatest_39 : decode b_M_greatest 39 = .ok (.aload_n 0, 1) := by decide +kernel
theorem d_M_greatest_40 : decode b_M_greatest 40 = .ok (.getfield 72, 3) := by decide +kernel
theorem d_M_greatest_43 : decode b_M_greatest 43 = .ok (.iload_n 1, 1) := by decide +kernel
theorem d_M_greatest_44 : decode b_M_greatest 44 = .ok (.iaload, 1) := by decide +kernel
theorem d_M_greatest_45 : decode b_M_greatest 45 = .ok (.ifCond .eq 13, 3) := by decide +kernel
theorem d_M_greatest_48 : decode b_M_greatest 48 = .ok (.aload_n 0, 1) := by decide +kernel
theorem d_M_greatest_49 : decode b_M_greatest 49 = .ok (.getfield 72, 3) := by decide +kernel
theorem d_M_greatest_52 : decode b_M_greatest 52 = .ok (.iload_n 1, 1) := by decide +kernel
theorem d_M_greatest_53 : decode b_M_greatest 53 = .ok (.iaload, 1) := by decide +kernel
theorem d_M_greatest_54 : decode b_M_greatest 54 = .ok (.iconst 4, 1) := by decide +kernel
theorem d_M_greatest_55 : decode b_M_greatest 55 = .ok (.if_icmp .ne 16, 3) := by decide +kernel
theorem d_M_greatest_58 : decode b_M_greatest 58 = .ok (.aload_n 0, 1) := by decide +kernel
theorem d_M_greatest_59 : decode b_M_greatest 59 = .ok (.getfield 114, 3) := by decide +kernel
theorem d_M_greatest_62 : decode b_M_greatest 62 = .ok (.iload 5, 2) := by decide +kernel
theorem d_M_greatest_64 : decode b_M_greatest 64 = .ok (.iaload, 1) := by decide +kernel
theorem d_M_greatest_65 : decode b_M_greatest 65 = .ok (.ifCond .ne 20, 3) := by decide +kernel
theorem d_M_greatest_68 : decode b_M_greatest 68 = .ok (.goto 13, 3) := by decide +kernel
theorem d_M_greatest_71 : decode b_M_greatest 71 = .ok (.aload_n 0, 1) := by decide +kernel
theorem d_M_greatest_72 : decode b_M_greatest 72 = .ok (.getfield 111, 3) := by decide +kernel
theorem d_M_greatest_75 : decode b_M_greatest 75 = .ok (.iload 5, 2) := by decide +kernel
theorem d_M_greatest_77 : decode b_M_greatest 77 = .ok (.baload, 1) := by decide +kernel
theorem d_M_greatest_78 : decode b_M_greatest 78 = .ok (.ifCond .eq 7, 3) := by decide +kernel
theorem d_M_greatest_81 : decode b_M_greatest 81 = .ok (.iconst 1, 1) := by decide +kernel
theorem d_M_greatest_82 : decode b_M_greatest 82 = .ok (.goto 4, 3) := by decide +kernel
theorem d_M_greatest_85 : decode b_M_greatest 85 = .ok (.iconst 0, 1) := by decide +kernel
theorem d_M_greatest_86 : decode b_M_greatest 86 = .ok (.istore 6, 2) := by decide +kernel
theorem d_M_greatest_88 : decode b_M_greatest 88 = .ok (.iload 6, 2) := by decide +kernel
theorem d_M_greatest_90 : decode b_M_greatest 90 = .ok (.ifCond .eq 74, 3) := by decide +kernel
theorem d_M_greatest_93 : decode b_M_greatest 93 = .ok (.iload_n 3, 1) := by decide +kernel
theorem d_M_greatest_94 : decode b_M_greatest 94 = .ok (.ifCond .lt 66, 3) := by decide +kernel
theorem d_M_greatest_97 : decode b_M_greatest 97 = .ok (.aload_n 0, 1) := by decide +kernel
theorem d_M_greatest_98 : decode b_M_greatest 98 = .ok (.getfield 102, 3) := by decide +kernel
theorem d_M_greatest_101 : decode b_M_greatest 101 = .ok (.iload 5, 2) := by decide +kernel
theorem d_M_greatest_103 : decode b_M_greatest 103 = .ok (.iaload, 1) := by decide +kernel
theorem d_M_greatest_104 : decode b_M_greatest 104 = .ok (.aload_n 0, 1) := by decide +kernel
theorem d_M_greatest_105 : decode b_M_greatest 105 = .ok (.getfield 102, 3) := by decide +kernel
theorem d_M_greatest_108 : decode b_M_greatest 108 = .ok (.bipush 8, 2) := by decide +kernel
theorem d_M_greatest_110 : decode b_M_greatest 110 = .ok (.iload_n 1, 1) := by decide +kernel
theorem d_M_greatest_111 : decode b_M_greatest 111 = .ok (.imul, 1) := by decide +kernel
theorem d_M_greatest_112 : decode b_M_greatest 112 = .ok (.iload_n 3, 1) := by decide +kernel
theorem d_M_greatest_113 : decode b_M_greatest 113 = .ok (.iadd, 1) := by decide +kernel
theorem d_M_greatest_114 : decode b_M_greatest 114 = .ok (.iaload, 1) := by decide +kernel
theorem d_M_greatest_115 : decode b_M_greatest 115 = .ok (.if_icmp .gt 45, 3) := by decide +kernel
theorem d_M_greatest_118 : decode b_M_greatest 118 = .ok (.aload_n 0, 1) := by decide +kernel
theorem d_M_greatest_119 : decode b_M_greatest 119 = .ok (.getfield 102, 3) := by decide +kernel
theorem d_M_greatest_122 : decode b_M_greatest 122 = .ok (.iload 5, 2) := by decide +kernel
theorem d_M_greatest_124 : decode b_M_greatest 124 = .ok (.iaload, 1) := by decide +kernel
theorem d_M_greatest_125 : decode b_M_greatest 125 = .ok (.aload_n 0, 1) := by decide +kernel
theorem d_M_greatest_126 : decode b_M_greatest 126 = .ok (.getfield 102, 3) := by decide +kernel
theorem d_M_greatest_129 : decode b_M_greatest 129 = .ok (.bipush 8, 2) := by decide +kernel
theorem d_M_greatest_131 : decode b_M_greatest 131 = .ok (.iload_n 1, 1) := by decide +kernel
theorem d_M_greatest_132 : decode b_M_greatest 132 = .ok (.imul, 1) := by decide +kernel
theorem d_M_greatest_133 : decode b_M_greatest 133 = .ok (.iload_n 3, 1) := by decide +kernel
theorem d_M_greatest_134 : decode b_M_greatest 134 = .ok (.iadd, 1) := by decide +kernel
theorem d_M_greatest_135 : decode b_M_greatest 135 = .ok (.iaload, 1) := by decide +kernel
theorem d_M_greatest_136 : decode b_M_greatest 136 = .ok (.if_icmp .ne 28, 3) := by decide +kernel
theorem d_M_greatest_139 : decode b_M_greatest 139 = .ok (.aload_n 0, 1) := by decide +kernel
theorem d_M_greatest_140 : decode b_M_greatest 140 = .ok (.getfield 105, 3) := by decide +kernel
theorem d_M_greatest_143 : decode b_M_greatest 143 = .ok (.iload 5, 2) := by decide +kernel
theorem d_M_greatest_145 : decode b_M_greatest 145 = .ok (.iaload, 1) := by decide +kernel
theorem d_M_greatest_146 : decode b_M_greatest 146 = .ok (.aload_n 0, 1) := by decide +kernel
theorem d_M_greatest_147 : decode b_M_greatest 147 = .ok (.getfield 105, 3) := by decide +kernel
theorem d_M_greatest_150 : decode b_M_greatest 150 = .ok (.bipush 8, 2) := by decide +kernel
theorem d_M_greatest_152 : decode b_M_greatest 152 = .ok (.iload_n 1, 1) := by decide +kernel
theorem d_M_greatest_153 : decode b_M_greatest 153 = .ok (.imul, 1) := by decide +kernel
theorem d_M_greatest_154 : decode b_M_greatest 154 = .ok (.iload_n 3, 1) := by decide +kernel
theorem d_M_greatest_155 : decode b_M_greatest 155 = .ok (.iadd, 1) := by decide +kernel
theorem d_M_greatest_156 : decode b_M_greatest 156 = .ok (.iaload, 1) := by decide +kernel
theorem d_M_greatest_157 : decode b_M_greatest 157 = .ok (.if_icmp .ge 7, 3) := by decide +kernel
theorem d_M_greatest_160 : decode b_M_greatest 160 = .ok (.iconst 1, 1) := by decide +kernel
theorem d_M_greatest_161 : decode b_M_greatest 161 = .ok (.goto 4, 3) := by decide +kernel
theorem d_M_greatest_164 : decode b_M_greatest 164 = .ok (.iconst 0, 1) := by decide +kernel
theorem d_M_greatest_165 : decode b_M_greatest 165 = .ok (.istore 7, 2) := by decide +kernel
theorem d_M_greatest_167 : decode b_M_greatest 167 = .ok (.iload 7, 2) := by decide +kernel
theorem d_M_greatest_169 : decode b_M_greatest 169 = .ok (.ifCond .eq 8, 3) := by decide +kernel
theorem d_M_greatest_172 : decode b_M_greatest 172 = .ok (.iload 4, 2) := by decide +kernel
theorem d_M_greatest_174 : decode b_M_greatest 174 = .ok (.goto 4, 3) := by decide +kernel
theorem d_M_greatest_177 : decode b_M_greatest 177 = .ok (.iload_n 3, 1) := by decide +kernel
theorem d_M_greatest_178 : decode b_M_greatest 178 = .ok (.istore_n 3, 1) := by decide +kernel
theorem d_M_greatest_179 : decode b_M_greatest 179 = .ok (.iinc 4 1, 3) := by decide +kernel
theorem d_M_greatest_182 : decode b_M_greatest 182 = .ok (.goto (-177), 3) := by decide +kernel
theorem d_M_greatest_185 : decode b_M_greatest 185 = .ok (.iload_n 3, 1) := by decide +kernel
theorem d_M_greatest_186 : decode b_M_greatest 186 = .ok (.ireturn, 1) := by decide +kernel
theorem d_M_costOf_0 : decode b_M_costOf 0 = .ok (.aload_n 0, 1) := by decide +kernel
theorem d_M_costOf_1 : decode b_M_costOf 1 = .ok (.getfield 96, 3) := by decide +kernel
theorem d_M_costOf_4 : decode b_M_costOf 4 = .ok (.iload_n 1, 1) := by decide +kernel
theorem d_M_costOf_5 : decode b_M_costOf 5 = .ok (.baload, 1) := by decide +kernel
theorem d_M_costOf_6 : decode b_M_costOf 6 = .ok (.ifCond .eq 21, 3) := by decide +kernel
theorem d_M_costOf_9 : decode b_M_costOf 9 = .ok (.aload_n 0, 1) := by decide +kernel
theorem d_M_costOf_10 : decode b_M_costOf 10 = .ok (.getfield 99, 3) := by decide +kernel
theorem d_M_costOf_13 : decode b_M_costOf 13 = .ok (.iload_n 1, 1) := by decide +kernel
theorem d_M_costOf_14 : decode b_M_costOf 14 = .ok (.iaload, 1) := by decide +kernel
theorem d_M_costOf_15 : decode b_M_costOf 15 = .ok (.i2l, 1) := by decide +kernel
theorem d_M_costOf_16 : decode b_M_costOf 16 = .ok (.aload_n 0, 1) := by decide +kernel
theorem d_M_costOf_17 : decode b_M_costOf 17 = .ok (.getfield 102, 3) := by decide +kernel
theorem d_M_costOf_20 : decode b_M_costOf 20 = .ok (.iload_n 1, 1) := by decide +kernel
theorem d_M_costOf_21 : decode b_M_costOf 21 = .ok (.iaload, 1) := by decide +kernel
theorem d_M_costOf_22 : decode b_M_costOf 22 = .ok (.i2l, 1) := by decide +kernel
theorem d_M_costOf_23 : decode b_M_costOf 23 = .ok (.lmul, 1) := by decide +kernel
theorem d_M_costOf_24 : decode b_M_costOf 24 = .ok (.goto 4, 3) := by decide +kernel
theorem d_M_costOf_27 : decode b_M_costOf 27 = .ok (.lconst 0, 1) := by decide +kernel
theorem d_M_costOf_28 : decode b_M_costOf 28 = .ok (.lreturn, 1) := by decide +kernel
