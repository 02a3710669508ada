theorem d_L_law_0 : decode code 0 = .ok (.new 7, 3) := by decide +kernel
theorem d_L_law_3 : decode code 3 = .ok (.dup, 1) := by decide +kernel
theorem d_L_law_4 : decode code 4 = .ok (.invokespecial 9, 3) := by decide +kernel
theorem d_L_law_7 : decode code 7 = .ok (.astore_n 1, 1) := by decide +kernel
theorem d_L_law_8 : decode code 8 = .ok (.new 10, 3) := by decide +kernel
theorem d_L_law_11 : decode code 11 = .ok (.dup, 1) := by decide +kernel
theorem d_L_law_12 : decode code 12 = .ok (.invokespecial 12, 3) := by decide +kernel
theorem d_L_law_15 : decode code 15 = .ok (.astore_n 2, 1) := by decide +kernel
theorem d_L_law_16 : decode code 16 = .ok (.iconst 0, 1) := by decide +kernel
theorem d_L_law_17 : decode code 17 = .ok (.istore_n 3, 1) := by decide +kernel
theorem d_L_law_18 : decode code 18 = .ok (.iload_n 3, 1) := by decide +kernel
theorem d_L_law_19 : decode code 19 = .ok (.aload_n 0, 1) := by decide +kernel
theorem d_L_law_20 : decode code 20 = .ok (.arraylength, 1) := by decide +kernel
theorem d_L_law_21 : decode code 21 = .ok (.bipush 6, 2) := by decide +kernel
theorem d_L_law_23 : decode code 23 = .ok (.isub, 1) := by decide +kernel
theorem d_L_law_24 : decode code 24 = .ok (.if_icmp .gt 1128, 3) := by decide +kernel
theorem d_L_law_27 : decode code 27 = .ok (.aload_n 0, 1) := by decide +kernel
theorem d_L_law_28 : decode code 28 = .ok (.iload_n 3, 1) := by decide +kernel
theorem d_L_law_29 : decode code 29 = .ok (.iaload, 1) := by decide +kernel
theorem d_L_law_30 : decode code 30 = .ok (.bipush 31, 2) := by decide +kernel
theorem d_L_law_32 : decode code 32 = .ok (.iand, 1) := by decide +kernel
theorem d_L_law_33 : decode code 33 = .ok (.tableswitch 1113 0 24 #[115, 148, 181, 214, 247, 281, 295, 318, 362, 425, 478, 521, 594, 647, 680, 713, 736, 759, 782, 845, 898, 971, 1024, 1057, 1080], 115) := by decide +kernel
theorem d_L_law_148 : decode code 148 = .ok (.aload_n 1, 1) := by decide +kernel
theorem d_L_law_149 : decode code 149 = .ok (.aload_n 0, 1) := by decide +kernel
theorem d_L_law_150 : decode code 150 = .ok (.iload_n 3, 1) := by decide +kernel
theorem d_L_law_151 : decode code 151 = .ok (.iconst 1, 1) := by decide +kernel
theorem d_L_law_152 : decode code 152 = .ok (.iadd, 1) := by decide +kernel
theorem d_L_law_153 : decode code 153 = .ok (.iaload, 1) := by decide +kernel
theorem d_L_law_154 : decode code 154 = .ok (.aload_n 0, 1) := by decide +kernel
theorem d_L_law_155 : decode code 155 = .ok (.iload_n 3, 1) := by decide +kernel
theorem d_L_law_156 : decode code 156 = .ok (.iconst 2, 1) := by decide +kernel
theorem d_L_law_157 : decode code 157 = .ok (.iadd, 1) := by decide +kernel
theorem d_L_law_158 : decode code 158 = .ok (.iaload, 1) := by decide +kernel
theorem d_L_law_159 : decode code 159 = .ok (.invokevirtual 13, 3) := by decide +kernel
theorem d_L_law_162 : decode code 162 = .ok (.aload_n 2, 1) := by decide +kernel
theorem d_L_law_163 : decode code 163 = .ok (.aload_n 0, 1) := by decide +kernel
theorem d_L_law_164 : decode code 164 = .ok (.iload_n 3, 1) := by decide +kernel
theorem d_L_law_165 : decode code 165 = .ok (.iconst 1, 1) := by decide +kernel
theorem d_L_law_166 : decode code 166 = .ok (.iadd, 1) := by decide +kernel
theorem d_L_law_167 : decode code 167 = .ok (.iaload, 1) := by decide +kernel
theorem d_L_law_168 : decode code 168 = .ok (.aload_n 0, 1) := by decide +kernel
theorem d_L_law_169 : decode code 169 = .ok (.iload_n 3, 1) := by decide +kernel
theorem d_L_law_170 : decode code 170 = .ok (.iconst 2, 1) := by decide +kernel
theorem d_L_law_171 : decode code 171 = .ok (.iadd, 1) := by decide +kernel
theorem d_L_law_172 : decode code 172 = .ok (.iaload, 1) := by decide +kernel
theorem d_L_law_173 : decode code 173 = .ok (.invokevirtual 17, 3) := by decide +kernel
theorem d_L_law_176 : decode code 176 = .ok (.if_icmp .eq 970, 3) := by decide +kernel
theorem d_L_law_179 : decode code 179 = .ok (.iconst 0, 1) := by decide +kernel
theorem d_L_law_180 : decode code 180 = .ok (.ireturn, 1) := by decide +kernel
theorem d_L_law_181 : decode code 181 = .ok (.aload_n 1, 1) := by decide +kernel
theorem d_L_law_182 : decode code 182 = .ok (.aload_n 0, 1) := by decide +kernel
theorem d_L_law_183 : decode code 183 = .ok (.iload_n 3, 1) := by decide +kernel
theorem d_L_law_184 : decode code 184 = .ok (.iconst 1, 1) := by decide +kernel
theorem d_L_law_185 : decode code 185 = .ok (.iadd, 1) := by decide +kernel
theorem d_L_law_186 : decode code 186 = .ok (.iaload, 1) := by decide +kernel
theorem d_L_law_187 : decode code 187 = .ok (.aload_n 0, 1) := by decide +kernel
theorem d_L_law_188 : decode code 188 = .ok (.iload_n 3, 1) := by decide +kernel
theorem d_L_law_189 : decode code 189 = .ok (.iconst 2, 1) := by decide +kernel
theorem d_L_law_190 : decode code 190 = .ok (.iadd, 1) := by decide +kernel
theorem d_L_law_191 : decode code 191 = .ok (.iaload, 1) := by decide +kernel
theorem d_L_law_192 : decode code 192 = .ok (.invokevirtual 18, 3) := by decide +kernel
theorem d_L_law_195 : decode code 195 = .ok (.aload_n 2, 1) := by decide +kernel
theorem d_L_law_196 : decode code 196 = .ok (.aload_n 0, 1) := by decide +kernel
theorem d_L_law_197 : decode code 197 = .ok (.iload_n 3, 1) := by decide +kernel
theorem d_L_law_198 : decode code 198 = .ok (.iconst 1, 1) := by decide +kernel
theorem d_L_law_199 : decode code 199 = .ok (.iadd, 1) := by decide +kernel
theorem d_L_law_200 : decode code 200 = .ok (.iaload, 1) := by decide +kernel
theorem d_L_law_201 : decode code 201 = .ok (.aload_n 0, 1) := by decide +kernel
theorem d_L_law_202 : decode code 202 = .ok (.iload_n 3, 1) := by decide +kernel
theorem d_L_law_203 : decode code 203 = .ok (.iconst 2, 1) := by decide +kernel
theorem d_L_law_204 : decode code 204 = .ok (.iadd, 1) := by decide +kernel
theorem d_L_law_205 : decode code 205 = .ok (.iaload, 1) := by decide +kernel
theorem d_L_law_206 : decode code 206 = .ok (.invokevirtual 21, 3) := by decide +kernel
theorem d_L_law_209 : decode code 209 = .ok (.if_icmp .eq 937, 3) := by decide +kernel
theorem d_L_law_212 : decode code 212 = .ok (.iconst 0, 1) := by decide +kernel
theorem d_L_law_213 : decode code 213 = .ok (.ireturn, 1) := by decide +kernel
theorem d_L_law_214 : decode code 214 = .ok (.aload_n 1, 1) := by decide +kernel
theorem d_L_law_215 : decode code 215 = .ok (.aload_n 0, 1) := by decide +kernel
theorem d_L_law_216 : decode code 216 = .ok (.iload_n 3, 1) := by decide +kernel
theorem d_L_law_217 : decode code 217 = .ok (.iconst 1, 1) := by decide +kernel
theorem d_L_law_218 : decode code 218 = .ok (.iadd, 1) := by decide +kernel
theorem d_L_law_219 : decode code 219 = .ok (.iaload, 1) := by decide +kernel
theorem d_L_law_220 : decode code 220 = .ok (.aload_n 0, 1) := by decide +kernel
theorem d_L_law_221 : decode code 221 = .ok (.iload_n 3, 1) := by decide +kernel
theorem d_L_law_222 : decode code 222 = .ok (.iconst 2, 1) := by decide +kernel
theorem d_L_law_223 : decode code 223 = .ok (.iadd, 1) := by decide +kernel
theorem d_L_law_224 : decode code 224 = .ok (.iaload, 1) := by decide +kernel
theorem d_L_law_225 : decode code 225 = .ok (.invokevirtual 22, 3) := by decide +kernel
theorem d_L_law_228 : decode code 228 = .ok (.aload_n 2, 1) := by decide +kernel
theorem d_L_law_229 : decode code 229 = .ok (.aload_n 0, 1) := by decide +kernel
theorem d_L_law_230 : decode code 230 = .ok (.iload_n 3, 1) := by decide +kernel
theorem d_L_law_231 : decode code 231 = .ok (.iconst 1, 1) := by decide +kernel
theorem d_L_law_232 : decode code 232 = .ok (.iadd, 1) := by decide +kernel
theorem d_L_law_233 : decode code 233 = .ok (.iaload, 1) := by decide +kernel
theorem d_L_law_234 : decode code 234 = .ok (.aload_n 0, 1) := by decide +kernel
theorem d_L_law_235 : decode code 235 = .ok (.iload_n 3, 1) := by decide +kernel
theorem d_L_law_236 : decode code 236 = .ok (.iconst 2, 1) := by decide +kernel
theorem d_L_law_237 : decode code 237 = .ok (.iadd, 1) := by decide +kernel
theorem d_L_law_238 : decode code 238 = .ok (.iaload, 1) := by decide +kernel
theorem d_L_law_239 : decode code 239 = .ok (.invokevirtual 25, 3) := by decide +kernel
theorem d_L_law_242 : decode code 242 = .ok (.if_icmp .eq 904, 3) := by decide +kernel
theorem d_L_law_245 : decode code 245 = .ok (.iconst 0, 1) := by decide +kernel
theorem d_L_law_246 : decode code 246 = .ok (.ireturn, 1) := by decide +kernel
theorem d_L_law_247 : decode code 247 = .ok (.aload_n 1, 1) := by decide +kernel
theorem d_L_law_248 : decode code 248 = .ok (.aload_n 0, 1) := by decide +kernel
theorem d_L_law_249 : decode code 249 = .ok (.iload_n 3, 1) := by decide +kernel
theorem d_L_law_250 : decode code 250 = .ok (.iconst 1, 1) := by decide +kernel
theorem d_L_law_251 : decode code 251 = .ok (.iadd, 1) := by decide +kernel
theorem d_L_law_252 : decode code 252 = .ok (.iaload, 1) := by decide +kernel
theorem d_L_law_253 : decode code 253 = .ok (.aload_n 0, 1) := by decide +kernel
theorem d_L_law_254 : decode code 254 = .ok (.iload_n 3, 1) := by decide +kernel
theorem d_L_law_255 : decode code 255 = .ok (.iconst 2, 1) := by decide +kernel
theorem d_L_law_256 : decode code 256 = .ok (.iadd, 1) := by decide +kernel
theorem d_L_law_257 : decode code 257 = .ok (.iaload, 1) := by decide +kernel
theorem d_L_law_258 : decode code 258 = .ok (.invokevirtual 26, 3) := by decide +kernel
theorem d_L_law_261 : decode code 261 = .ok (.aload_n 2, 1) := by decide +kernel
theorem d_L_law_262 : decode code 262 = .ok (.aload_n 0, 1) := by decide +kernel
theorem d_L_law_263 : decode code 263 = .ok (.iload_n 3, 1) := by decide +kernel
theorem d_L_law_264 : decode code 264 = .ok (.iconst 1, 1) := by decide +kernel
theorem d_L_law_265 : decode code 265 = .ok (.iadd, 1) := by decide +kernel
theorem d_L_law_266 : decode code 266 = .ok (.iaload, 1) := by decide +kernel
theorem d_L_law_267 : decode code 267 = .ok (.aload_n 0, 1) := by decide +kernel
theorem d_L_law_268 : decode code 268 = .ok (.iload_n 3, 1) := by decide +kernel
theorem d_L_law_269 : decode code 269 = .ok (.iconst 2, 1) := by decide +kernel
theorem d_L_law_270 : decode code 270 = .ok (.iadd, 1) := by decide +kernel
theorem d_L_law_271 : decode code 271 = .ok (.iaload, 1) := by decide +kernel
theorem d_L_law_272 : decode code 272 = .ok (.invokevirtual 29, 3) := by decide +kernel
theorem d_L_law_275 : decode code 275 = .ok (.if_icmp .eq 871, 3) := by decide +kernel
theorem d_L_law_278 : decode code 278 = .ok (.iconst 0, 1) := by decide +kernel
theorem d_L_law_279 : decode code 279 = .ok (.ireturn, 1) := by decide +kernel
theorem d_L_law_280 : decode code 280 = .ok (.aload_n 1, 1) := by decide +kernel
theorem d_L_law_281 : decode code 281 = .ok (.aload_n 0, 1) := by decide +kernel
theorem d_L_law_282 : decode code 282 = .ok (.iload_n 3, 1) := by decide +kernel
theorem d_L_law_283 : decode code 283 = .ok (.iconst 1, 1) := by decide +kernel
theorem d_L_law_284 : decode code 284 = .ok (.iadd, 1) := by decide +kernel
theorem d_L_law_285 : decode code 285 = .ok (.iaload, 1) := by decide +kernel
theorem d_L_law_286 : decode code 286 = .ok (.aload_n 0, 1) := by decide +kernel
theorem d_L_law_287 : decode code 287 = .ok (.iload_n 3, 1) := by decide +kernel
theorem d_L_law_288 : decode code 288 = .ok (.iconst 2, 1) := by decide +kernel
theorem d_L_law_289 : decode code 289 = .ok (.iadd, 1) := by decide +kernel
theorem d_L_law_290 : decode code 290 = .ok (.iaload, 1) := by decide +kernel
theorem d_L_law_291 : decode code 291 = .ok (.invokevirtual 30, 3) := by decide +kernel
theorem d_L_law_294 : decode code 294 = .ok (.aload_n 2, 1) := by decide +kernel
theorem d_L_law_295 : decode code 295 = .ok (.aload_n 0, 1) := by decide +kernel
theorem d_L_law_296 : decode code 296 = .ok (.iload_n 3, 1) := by decide +kernel
theorem d_L_law_297 : decode code 297 = .ok (.iconst 1, 1) := by decide +kernel
theorem d_L_law_298 : decode code 298 = .ok (.iadd, 1) := by decide +kernel
theorem d_L_law_299 : decode code 299 = .ok (.iaload, 1) := by decide +kernel
theorem d_L_law_300 : decode code 300 = .ok (.aload_n 0, 1) := by decide +kernel
theorem d_L_law_301 : decode code 301 = .ok (.iload_n 3, 1) := by decide +kernel
theorem d_L_law_302 : decode code 302 = .ok (.iconst 2, 1) := by decide +kernel
theorem d_L_law_303 : decode code 303 = .ok (.iadd, 1) := by decide +kernel
theorem d_L_law_304 : decode code 304 = .ok (.iaload, 1) := by decide +kernel
theorem d_L_law_305 : decode code 305 = .ok (.invokevirtual 34, 3) := by decide +kernel
theorem d_L_law_308 : decode code 308 = .ok (.lcmp, 1) := by decide +kernel
theorem d_L_law_309 : decode code 309 = .ok (.ifCond .eq 837, 3) := by decide +kernel
theorem d_L_law_312 : decode code 312 = .ok (.iconst 0, 1) := by decide +kernel
theorem d_L_law_313 : decode code 313 = .ok (.ireturn, 1) := by decide +kernel
theorem d_L_law_314 : decode code 314 = .ok (.aload_n 1, 1) := by decide +kernel
theorem d_L_law_315 : decode code 315 = .ok (.invokevirtual 35, 3) := by decide +kernel
theorem d_L_law_318 : decode code 318 = .ok (.aload_n 2, 1) := by decide +kernel
theorem d_L_law_319 : decode code 319 = .ok (.invokevirtual 39, 3) := by decide +kernel
theorem d_L_law_322 : decode code 322 = .ok (.lcmp, 1) := by decide +kernel
theorem d_L_law_323 : decode code 323 = .ok (.ifCond .eq 823, 3) := by decide +kernel
theorem d_L_law_326 : decode code 326 = .ok (.iconst 0, 1) := by decide +kernel
theorem d_L_law_327 : decode code 327 = .ok (.ireturn, 1) := by decide +kernel
theorem d_L_law_328 : decode code 328 = .ok (.aload_n 1, 1) := by decide +kernel
theorem d_L_law_329 : decode code 329 = .ok (.aload_n 0, 1) := by decide +kernel
theorem d_L_law_330 : decode code 330 = .ok (.iload_n 3, 1) := by decide +kernel
theorem d_L_law_331 : decode code 331 = .ok (.iconst 1, 1) := by decide +kernel
theorem d_L_law_332 : decode code 332 = .ok (.iadd, 1) := by decide +kernel
theorem d_L_law_333 : decode code 333 = .ok (.iaload, 1) := by decide +kernel
theorem d_L_law_334 : decode code 334 = .ok (.invokevirtual 40, 3) := by decide +kernel
theorem d_L_law_337 : decode code 337 = .ok (.aload_n 2, 1) := by decide +kernel
theorem d_L_law_338 : decode code 338 = .ok (.aload_n 0, 1) := by decide +kernel
theorem d_L_law_339 : decode code 339 = .ok (.iload_n 3, 1) := by decide +kernel
theorem d_L_law_340 : decode code 340 = .ok (.iconst 1, 1) := by decide +kernel
theorem d_L_law_341 : decode code 341 = .ok (.iadd, 1) := by decide +kernel
theorem d_L_law_342 : decode code 342 = .ok (.iaload, 1) := by decide +kernel
theorem d_L_law_343 : decode code 343 = .ok (.invokevirtual 44, 3) := by decide +kernel
theorem d_L_law_346 : decode code 346 = .ok (.if_icmp .eq 800, 3) := by decide +kernel
theorem d_L_law_349 : decode code 349 = .ok (.iconst 0, 1) := by decide +kernel
theorem d_L_law_350 : decode code 350 = .ok (.ireturn, 1) := by decide +kernel
theorem d_L_law_351 : decode code 351 = .ok (.aload_n 1, 1) := by decide +kernel
theorem d_L_law_352 : decode code 352 = .ok (.aload_n 0, 1) := by decide +kernel
theorem d_L_law_353 : decode code 353 = .ok (.iload_n 3, 1) := by decide +kernel
theorem d_L_law_354 : decode code 354 = .ok (.iconst 1, 1) := by decide +kernel
theorem d_L_law_355 : decode code 355 = .ok (.iadd, 1) := by decide +kernel
theorem d_L_law_356 : decode code 356 = .ok (.iaload, 1) := by decide +kernel
theorem d_L_law_357 : decode code 357 = .ok (.aload_n 0, 1) := by decide +kernel
theorem d_L_law_358 : decode code 358 = .ok (.iload_n 3, 1) := by decide +kernel
theorem d_L_law_359 : decode code 359 = .ok (.iconst 2, 1) := by decide +kernel
theorem d_L_law_360 : decode code 360 = .ok (.iadd, 1) := by decide +kernel
theorem d_L_law_361 : decode code 361 = .ok (.iaload, 1) := by decide +kernel
theorem d_L_law_362 : decode code 362 = .ok (.aload_n 0, 1) := by decide +kernel
theorem d_L_law_363 : decode code 363 = .ok (.iload_n 3, 1) := by decide +kernel
theorem d_L_law_364 : decode code 364 = .ok (.iconst 3, 1) := by decide +kernel
theorem d_L_law_365 : decode code 365 = .ok (.iadd, 1) := by decide +kernel
theorem d_L_law_366 : decode code 366 = .ok (.iaload, 1) := by decide +kernel
theorem d_L_law_367 : decode code 367 = .ok (.invokevirtual 45, 3) := by decide +kernel
theorem d_L_law_370 : decode code 370 = .ok (.aload_n 2, 1) := by decide +kernel
theorem d_L_law_371 : decode code 371 = .ok (.aload_n 0, 1) := by decide +kernel
theorem d_L_law_372 : decode code 372 = .ok (.iload_n 3, 1) := by decide +kernel
theorem d_L_law_373 : decode code 373 = .ok (.iconst 1, 1) := by decide +kernel
theorem d_L_law_374 : decode code 374 = .ok (.iadd, 1) := by decide +kernel
theorem d_L_law_375 : decode code 375 = .ok (.iaload, 1) := by decide +kernel
theorem d_L_law_376 : decode code 376 = .ok (.aload_n 0, 1) := by decide +kernel
theorem d_L_law_377 : decode code 377 = .ok (.iload_n 3, 1) := by decide +kernel
theorem d_L_law_378 : decode code 378 = .ok (.iconst 2, 1) := by decide +kernel
theorem d_L_law_379 : decode code 379 = .ok (.iadd, 1) := by decide +kernel
theorem d_L_law_380 : decode code 380 = .ok (.iaload, 1) := by decide +kernel
theorem d_L_law_381 : decode code 381 = .ok (.aload_n 0, 1) := by decide +kernel
theorem d_L_law_382 : decode code 382 = .ok (.iload_n 3, 1) := by decide +kernel
theorem d_L_law_383 : decode code 383 = .ok (.iconst 3, 1) := by decide +kernel
theorem d_L_law_384 : decode code 384 = .ok (.iadd, 1) := by decide +kernel
theorem d_L_law_385 : decode code 385 = .ok (.iaload, 1) := by decide +kernel
theorem d_L_law_386 : decode code 386 = .ok (.invokevirtual 49, 3) := by decide +kernel
theorem d_L_law_389 : decode code 389 = .ok (.lcmp, 1) := by decide +kernel
theorem d_L_law_390 : decode code 390 = .ok (.ifCond .eq 756, 3) := by decide +kernel
theorem d_L_law_393 : decode code 393 = .ok (.iconst 0, 1) := by decide +kernel
theorem d_L_law_394 : decode code 394 = .ok (.ireturn, 1) := by decide +kernel
theorem d_L_law_395 : decode code 395 = .ok (.aload_n 1, 1) := by decide +kernel
theorem d_L_law_396 : decode code 396 = .ok (.aload_n 0, 1) := by decide +kernel
theorem d_L_law_397 : decode code 397 = .ok (.iload_n 3, 1) := by decide +kernel
theorem d_L_law_398 : decode code 398 = .ok (.iconst 1, 1) := by decide +kernel
theorem d_L_law_399 : decode code 399 = .ok (.iadd, 1) := by decide +kernel
theorem d_L_law_400 : decode code 400 = .ok (.iaload, 1) := by decide +kernel
theorem d_L_law_401 : decode code 401 = .ok (.aload_n 0, 1) := by decide +kernel
theorem d_L_law_402 : decode code 402 = .ok (.iload_n 3, 1) := by decide +kernel
theorem d_L_law_403 : decode code 403 = .ok (.iconst 2, 1) := by decide +kernel
theorem d_L_law_404 : decode code 404 = .ok (.iadd, 1) := by decide +kernel
theorem d_L_law_405 : decode code 405 = .ok (.iaload, 1) := by decide +kernel
theorem d_L_law_406 : decode code 406 = .ok (.aload_n 0, 1) := by decide +kernel
theorem d_L_law_407 : decode code 407 = .ok (.iload_n 3, 1) := by decide +kernel
theorem d_L_law_408 : decode code 408 = .ok (.iconst 3, 1) := by decide +kernel
theorem d_L_law_409 : decode code 409 = .ok (.iadd, 1) := by decide +kernel
theorem d_L_law_410 : decode code 410 = .ok (.iaload, 1) := by decide +kernel
theorem d_L_law_411 : decode code 411 = .ok (.aload_n 0, 1) := by decide +kernel
theorem d_L_law_412 : decode code 412 = .ok (.iload_n 3, 1) := by decide +kernel
theorem d_L_law_413 : decode code 413 = .ok (.iconst 4, 1) := by decide +kernel
theorem d_L_law_414 : decode code 414 = .ok (.iadd, 1) := by decide +kernel
theorem d_L_law_415 : decode code 415 = .ok (.iaload, 1) := by decide +kernel
theorem d_L_law_416 : decode code 416 = .ok (.aload_n 0, 1) := by decide +kernel
theorem d_L_law_417 : decode code 417 = .ok (.iload_n 3, 1) := by decide +kernel
theorem d_L_law_418 : decode code 418 = .ok (.iconst 5, 1) := by decide +kernel
theorem d_L_law_419 : decode code 419 = .ok (.iadd, 1) := by decide +kernel
theorem d_L_law_420 : decode code 420 = .ok (.iaload, 1) := by decide +kernel
theorem d_L_law_421 : decode code 421 = .ok (.invokevirtual 50, 3) := by decide +kernel
theorem d_L_law_424 : decode code 424 = .ok (.aload_n 2, 1) := by decide +kernel
theorem d_L_law_425 : decode code 425 = .ok (.aload_n 0, 1) := by decide +kernel
theorem d_L_law_426 : decode code 426 = .ok (.iload_n 3, 1) := by decide +kernel
theorem d_L_law_427 : decode code 427 = .ok (.iconst 1, 1) := by decide +kernel
theorem d_L_law_428 : decode code 428 = .ok (.iadd, 1) := by decide +kernel
theorem d_L_law_429 : decode code 429 = .ok (.iaload, 1) := by decide +kernel
theorem d_L_law_430 : decode code 430 = .ok (.aload_n 0, 1) := by decide +kernel
theorem d_L_law_431 : decode code 431 = .ok (.iload_n 3, 1) := by decide +kernel
theorem d_L_law_432 : decode code 432 = .ok (.iconst 2, 1) := by decide +kernel
theorem d_L_law_433 : decode code 433 = .ok (.iadd, 1) := by decide +kernel
theorem d_L_law_434 : decode code 434 = .ok (.iaload, 1) := by decide +kernel
theorem d_L_law_435 : decode code 435 = .ok (.aload_n 0, 1) := by decide +kernel
theorem d_L_law_436 : decode code 436 = .ok (.iload_n 3, 1) := by decide +kernel
theorem d_L_law_437 : decode code 437 = .ok (.iconst 3, 1) := by decide +kernel
theorem d_L_law_438 : decode code 438 = .ok (.iadd, 1) := by decide +kernel
theorem d_L_law_439 : decode code 439 = .ok (.iaload, 1) := by decide +kernel
theorem d_L_law_440 : decode code 440 = .ok (.aload_n 0, 1) := by decide +kernel
theorem d_L_law_441 : decode code 441 = .ok (.iload_n 3, 1) := by decide +kernel
theorem d_L_law_442 : decode code 442 = .ok (.iconst 4, 1) := by decide +kernel
theorem d_L_law_443 : decode code 443 = .ok (.iadd, 1) := by decide +kernel
theorem d_L_law_444 : decode code 444 = .ok (.iaload, 1) := by decide +kernel
theorem d_L_law_445 : decode code 445 = .ok (.aload_n 0, 1) := by decide +kernel
theorem d_L_law_446 : decode code 446 = .ok (.iload_n 3, 1) := by decide +kernel
theorem d_L_law_447 : decode code 447 = .ok (.iconst 5, 1) := by decide +kernel
theorem d_L_law_448 : decode code 448 = .ok (.iadd, 1) := by decide +kernel
theorem d_L_law_449 : decode code 449 = .ok (.iaload, 1) := by decide +kernel
theorem d_L_law_450 : decode code 450 = .ok (.invokevirtual 54, 3) := by decide +kernel
theorem d_L_law_453 : decode code 453 = .ok (.if_icmp .eq 693, 3) := by decide +kernel
theorem d_L_law_456 : decode code 456 = .ok (.iconst 0, 1) := by decide +kernel
theorem d_L_law_457 : decode code 457 = .ok (.ireturn, 1) := by decide +kernel
theorem d_L_law_458 : decode code 458 = .ok (.aload_n 1, 1) := by decide +kernel
theorem d_L_law_459 : decode code 459 = .ok (.aload_n 0, 1) := by decide +kernel
theorem d_L_law_460 : decode code 460 = .ok (.iload_n 3, 1) := by decide +kernel
theorem d_L_law_461 : decode code 461 = .ok (.iconst 1, 1) := by decide +kernel
theorem d_L_law_462 : decode code 462 = .ok (.iadd, 1) := by decide +kernel
theorem d_L_law_463 : decode code 463 = .ok (.iaload, 1) := by decide +kernel
theorem d_L_law_464 : decode code 464 = .ok (.aload_n 0, 1) := by decide +kernel
theorem d_L_law_465 : decode code 465 = .ok (.iload_n 3, 1) := by decide +kernel
theorem d_L_law_466 : decode code 466 = .ok (.iconst 2, 1) := by decide +kernel
theorem d_L_law_467 : decode code 467 = .ok (.iadd, 1) := by decide +kernel
theorem d_L_law_468 : decode code 468 = .ok (.iaload, 1) := by decide +kernel
theorem d_L_law_469 : decode code 469 = .ok (.aload_n 0, 1) := by decide +kernel
theorem d_L_law_470 : decode code 470 = .ok (.iload_n 3, 1) := by decide +kernel
theorem d_L_law_471 : decode code 471 = .ok (.iconst 3, 1) := by decide +kernel
theorem d_L_law_472 : decode code 472 = .ok (.iadd, 1) := by decide +kernel
theorem d_L_law_473 : decode code 473 = .ok (.iaload, 1) := by decide +kernel
theorem d_L_law_474 : decode code 474 = .ok (.aload_n 0, 1) := by decide +kernel
theorem d_L_law_475 : decode code 475 = .ok (.iload_n 3, 1) := by decide +kernel
theorem d_L_law_476 : decode code 476 = .ok (.iconst 4, 1) := by decide +kernel
theorem d_L_law_477 : decode code 477 = .ok (.iadd, 1) := by decide +kernel
theorem d_L_law_478 : decode code 478 = .ok (.iaload, 1) := by decide +kernel
theorem d_L_law_479 : decode code 479 = .ok (.invokevirtual 55, 3) := by decide +kernel
theorem d_L_law_482 : decode code 482 = .ok (.aload_n 2, 1) := by decide +kernel
theorem d_L_law_483 : decode code 483 = .ok (.aload_n 0, 1) := by decide +kernel
theorem d_L_law_484 : decode code 484 = .ok (.iload_n 3, 1) := by decide +kernel
theorem d_L_law_485 : decode code 485 = .ok (.iconst 1, 1) := by decide +kernel
theorem d_L_law_486 : decode code 486 = .ok (.iadd, 1) := by decide +kernel
theorem d_L_law_487 : decode code 487 = .ok (.iaload, 1) := by decide +kernel
theorem d_L_law_488 : decode code 488 = .ok (.aload_n 0, 1) := by decide +kernel
theorem d_L_law_489 : decode code 489 = .ok (.iload_n 3, 1) := by decide +kernel
theorem d_L_law_490 : decode code 490 = .ok (.iconst 2, 1) := by decide +kernel
theorem d_L_law_491 : decode code 491 = .ok (.iadd, 1) := by decide +kernel
theorem d_L_law_492 : decode code 492 = .ok (.iaload, 1) := by decide +kernel
theorem d_L_law_493 : decode code 493 = .ok (.aload_n 0, 1) := by decide +kernel
theorem d_L_law_494 : decode code 494 = .ok (.iload_n 3, 1) := by decide +kernel
theorem d_L_law_495 : decode code 495 = .ok (.iconst 3, 1) := by decide +kernel
theorem d_L_law_496 : decode code 496 = .ok (.iadd, 1) := by decide +kernel
theorem d_L_law_497 : decode code 497 = .ok (.iaload, 1) := by decide +kernel
theorem d_L_law_498 : decode code 498 = .ok (.aload_n 0, 1) := by decide +kernel
theorem d_L_law_499 : decode code 499 = .ok (.iload_n 3, 1) := by decide +kernel
theorem d_L_law_500 : decode code 500 = .ok (.iconst 4, 1) := by decide +kernel
theorem d_L_law_501 : decode code 501 = .ok (.iadd, 1) := by decide +kernel
theorem d_L_law_502 : decode code 502 = .ok (.iaload, 1) := by decide +kernel
theorem d_L_law_503 : decode code 503 = .ok (.invokevirtual 59, 3) := by decide +kernel
theorem d_L_law_506 : decode code 506 = .ok (.if_icmp .eq 640, 3) := by decide +kernel
theorem d_L_law_509 : decode code 509 = .ok (.iconst 0, 1) := by decide +kernel
theorem d_L_law_510 : decode code 510 = .ok (.ireturn, 1) := by decide +kernel
theorem d_L_law_511 : decode code 511 = .ok (.aload_n 1, 1) := by decide +kernel
theorem d_L_law_512 : decode code 512 = .ok (.aload_n 0, 1) := by decide +kernel
theorem d_L_law_513 : decode code 513 = .ok (.iload_n 3, 1) := by decide +kernel
theorem d_L_law_514 : decode code 514 = .ok (.iconst 1, 1) := by decide +kernel
theorem d_L_law_515 : decode code 515 = .ok (.iadd, 1) := by decide +kernel
theorem d_L_law_516 : decode code 516 = .ok (.iaload, 1) := by decide +kernel
theorem d_L_law_517 : decode code 517 = .ok (.aload_n 0, 1) := by decide +kernel
theorem d_L_law_518 : decode code 518 = .ok (.iload_n 3, 1) := by decide +kernel
theorem d_L_law_519 : decode code 519 = .ok (.iconst 2, 1) := by decide +kernel
theorem d_L_law_520 : decode code 520 = .ok (.iadd, 1) := by decide +kernel
theorem d_L_law_521 : decode code 521 = .ok (.iaload, 1) := by decide +kernel
theorem d_L_law_522 : decode code 522 = .ok (.aload_n 0, 1) := by decide +kernel
theorem d_L_law_523 : decode code 523 = .ok (.iload_n 3, 1) := by decide +kernel
theorem d_L_law_524 : decode code 524 = .ok (.iconst 3, 1) := by decide +kernel
theorem d_L_law_525 : decode code 525 = .ok (.iadd, 1) := by decide +kernel
theorem d_L_law_526 : decode code 526 = .ok (.iaload, 1) := by decide +kernel
theorem d_L_law_527 : decode code 527 = .ok (.invokevirtual 60, 3) := by decide +kernel
theorem d_L_law_530 : decode code 530 = .ok (.aload_n 2, 1) := by decide +kernel
theorem d_L_law_531 : decode code 531 = .ok (.aload_n 0, 1) := by decide +kernel
theorem d_L_law_532 : decode code 532 = .ok (.iload_n 3, 1) := by decide +kernel
theorem d_L_law_533 : decode code 533 = .ok (.iconst 1, 1) := by decide +kernel
theorem d_L_law_534 : decode code 534 = .ok (.iadd, 1) := by decide +kernel
theorem d_L_law_535 : decode code 535 = .ok (.iaload, 1) := by decide +kernel
theorem d_L_law_536 : decode code 536 = .ok (.aload_n 0, 1) := by decide +kernel
theorem d_L_law_537 : decode code 537 = .ok (.iload_n 3, 1) := by decide +kernel
theorem d_L_law_538 : decode code 538 = .ok (.iconst 2, 1) := by decide +kernel
theorem d_L_law_539 : decode code 539 = .ok (.iadd, 1) := by decide +kernel
theorem d_L_law_540 : decode code 540 = .ok (.iaload, 1) := by decide +kernel
theorem d_L_law_541 : decode code 541 = .ok (.aload_n 0, 1) := by decide +kernel
theorem d_L_law_542 : decode code 542 = .ok (.iload_n 3, 1) := by decide +kernel
theorem d_L_law_543 : decode code 543 = .ok (.iconst 3, 1) := by decide +kernel
theorem d_L_law_544 : decode code 544 = .ok (.iadd, 1) := by decide +kernel
theorem d_L_law_545 : decode code 545 = .ok (.iaload, 1) := by decide +kernel
theorem d_L_law_546 : decode code 546 = .ok (.invokevirtual 64, 3) := by decide +kernel
theorem d_L_law_549 : decode code 549 = .ok (.if_icmp .eq 597, 3) := by decide +kernel
theorem d_L_law_552 : decode code 552 = .ok (.iconst 0, 1) := by decide +kernel
theorem d_L_law_553 : decode code 553 = .ok (.ireturn, 1) := by decide +kernel
theorem d_L_law_554 : decode code 554 = .ok (.aload_n 1, 1) := by decide +kernel
theorem d_L_law_555 : decode code 555 = .ok (.aload_n 0, 1) := by decide +kernel
theorem d_L_law_556 : decode code 556 = .ok (.iload_n 3, 1) := by decide +kernel
theorem d_L_law_557 : decode code 557 = .ok (.iconst 1, 1) := by decide +kernel
theorem d_L_law_558 : decode code 558 = .ok (.iadd, 1) := by decide +kernel
theorem d_L_law_559 : decode code 559 = .ok (.iaload, 1) := by decide +kernel
theorem d_L_law_560 : decode code 560 = .ok (.aload_n 0, 1) := by decide +kernel
theorem d_L_law_561 : decode code 561 = .ok (.iload_n 3, 1) := by decide +kernel
theorem d_L_law_562 : decode code 562 = .ok (.iconst 2, 1) := by decide +kernel
theorem d_L_law_563 : decode code 563 = .ok (.iadd, 1) := by decide +kernel
theorem d_L_law_564 : decode code 564 = .ok (.iaload, 1) := by decide +kernel
theorem d_L_law_565 : decode code 565 = .ok (.aload_n 0, 1) := by decide +kernel
theorem d_L_law_566 : decode code 566 = .ok (.iload_n 3, 1) := by decide +kernel
theorem d_L_law_567 : decode code 567 = .ok (.iconst 3, 1) := by decide +kernel
theorem d_L_law_568 : decode code 568 = .ok (.iadd, 1) := by decide +kernel
theorem d_L_law_569 : decode code 569 = .ok (.iaload, 1) := by decide +kernel
theorem d_L_law_570 : decode code 570 = .ok (.i2l, 1) := by decide +kernel
theorem d_L_law_571 : decode code 571 = .ok (.bipush 32, 2) := by decide +kernel
theorem d_L_law_573 : decode code 573 = .ok (.lshl, 1) := by decide +kernel
theorem d_L_law_574 : decode code 574 = .ok (.aload_n 0, 1) := by decide +kernel
theorem d_L_law_575 : decode code 575 = .ok (.iload_n 3, 1) := by decide +kernel
theorem d_L_law_576 : decode code 576 = .ok (.iconst 4, 1) := by decide +kernel
theorem d_L_law_577 : decode code 577 = .ok (.iadd, 1) := by decide +kernel
theorem d_L_law_578 : decode code 578 = .ok (.iaload, 1) := by decide +kernel
theorem d_L_law_579 : decode code 579 = .ok (.i2l, 1) := by decide +kernel
theorem d_L_law_580 : decode code 580 = .ok (.ldc2_w 65, 3) := by decide +kernel
theorem d_L_law_583 : decode code 583 = .ok (.land, 1) := by decide +kernel
theorem d_L_law_584 : decode code 584 = .ok (.lor, 1) := by decide +kernel
theorem d_L_law_585 : decode code 585 = .ok (.invokevirtual 67, 3) := by decide +kernel
theorem d_L_law_588 : decode code 588 = .ok (.aload_n 2, 1) := by decide +kernel
theorem d_L_law_589 : decode code 589 = .ok (.aload_n 0, 1) := by decide +kernel
theorem d_L_law_590 : decode code 590 = .ok (.iload_n 3, 1) := by decide +kernel
theorem d_L_law_591 : decode code 591 = .ok (.iconst 1, 1) := by decide +kernel
theorem d_L_law_592 : decode code 592 = .ok (.iadd, 1) := by decide +kernel
theorem d_L_law_593 : decode code 593 = .ok (.iaload, 1) := by decide +kernel
theorem d_L_law_594 : decode code 594 = .ok (.aload_n 0, 1) := by decide +kernel
theorem d_L_law_595 : decode code 595 = .ok (.iload_n 3, 1) := by decide +kernel
theorem d_L_law_596 : decode code 596 = .ok (.iconst 2, 1) := by decide +kernel
theorem d_L_law_597 : decode code 597 = .ok (.iadd, 1) := by decide +kernel
theorem d_L_law_598 : decode code 598 = .ok (.iaload, 1) := by decide +kernel
theorem d_L_law_599 : decode code 599 = .ok (.aload_n 0, 1) := by decide +kernel
theorem d_L_law_600 : decode code 600 = .ok (.iload_n 3, 1) := by decide +kernel
theorem d_L_law_601 : decode code 601 = .ok (.iconst 3, 1) := by decide +kernel
theorem d_L_law_602 : decode code 602 = .ok (.iadd, 1) := by decide +kernel
theorem d_L_law_603 : decode code 603 = .ok (.iaload, 1) := by decide +kernel
theorem d_L_law_604 : decode code 604 = .ok (.i2l, 1) := by decide +kernel
theorem d_L_law_605 : decode code 605 = .ok (.bipush 32, 2) := by decide +kernel
theorem d_L_law_607 : decode code 607 = .ok (.lshl, 1) := by decide +kernel
theorem d_L_law_608 : decode code 608 = .ok (.aload_n 0, 1) := by decide +kernel
theorem d_L_law_609 : decode code 609 = .ok (.iload_n 3, 1) := by decide +kernel
theorem d_L_law_610 : decode code 610 = .ok (.iconst 4, 1) := by decide +kernel
theorem d_L_law_611 : decode code 611 = .ok (.iadd, 1) := by decide +kernel
theorem d_L_law_612 : decode code 612 = .ok (.iaload, 1) := by decide +kernel
theorem d_L_law_613 : decode code 613 = .ok (.i2l, 1) := by decide +kernel
theorem d_L_law_614 : decode code 614 = .ok (.ldc2_w 65, 3) := by decide +kernel
theorem d_L_law_617 : decode code 617 = .ok (.land, 1) := by decide +kernel
theorem d_L_law_618 : decode code 618 = .ok (.lor, 1) := by decide +kernel
theorem d_L_law_619 : decode code 619 = .ok (.invokevirtual 71, 3) := by decide +kernel
theorem d_L_law_622 : decode code 622 = .ok (.if_icmp .eq 524, 3) := by decide +kernel
theorem d_L_law_625 : decode code 625 = .ok (.iconst 0, 1) := by decide +kernel
theorem d_L_law_626 : decode code 626 = .ok (.ireturn, 1) := by decide +kernel
theorem d_L_law_627 : decode code 627 = .ok (.aload_n 1, 1) := by decide +kernel
theorem d_L_law_628 : decode code 628 = .ok (.aload_n 0, 1) := by decide +kernel
theorem d_L_law_629 : decode code 629 = .ok (.iload_n 3, 1) := by decide +kernel
theorem d_L_law_630 : decode code 630 = .ok (.iconst 1, 1) := by decide +kernel
theorem d_L_law_631 : decode code 631 = .ok (.iadd, 1) := by decide +kernel
theorem d_L_law_632 : decode code 632 = .ok (.iaload, 1) := by decide +kernel
theorem d_L_law_633 : decode code 633 = .ok (.aload_n 0, 1) := by decide +kernel
theorem d_L_law_634 : decode code 634 = .ok (.iload_n 3, 1) := by decide +kernel
theorem d_L_law_635 : decode code 635 = .ok (.iconst 2, 1) := by decide +kernel
theorem d_L_law_636 : decode code 636 = .ok (.iadd, 1) := by decide +kernel
theorem d_L_law_637 : decode code 637 = .ok (.iaload, 1) := by decide +kernel
theorem d_L_law_638 : decode code 638 = .ok (.aload_n 0, 1) := by decide +kernel
theorem d_L_law_639 : decode code 639 = .ok (.iload_n 3, 1) := by decide +kernel
theorem d_L_law_640 : decode code 640 = .ok (.iconst 3, 1) := by decide +kernel
theorem d_L_law_641 : decode code 641 = .ok (.iadd, 1) := by decide +kernel
theorem d_L_law_642 : decode code 642 = .ok (.iaload, 1) := by decide +kernel
theorem d_L_law_643 : decode code 643 = .ok (.aload_n 0, 1) := by decide +kernel
theorem d_L_law_644 : decode code 644 = .ok (.iload_n 3, 1) := by decide +kernel
theorem d_L_law_645 : decode code 645 = .ok (.iconst 4, 1) := by decide +kernel
theorem d_L_law_646 : decode code 646 = .ok (.iadd, 1) := by decide +kernel
theorem d_L_law_647 : decode code 647 = .ok (.iaload, 1) := by decide +kernel
theorem d_L_law_648 : decode code 648 = .ok (.invokevirtual 72, 3) := by decide +kernel
theorem d_L_law_651 : decode code 651 = .ok (.aload_n 2, 1) := by decide +kernel
theorem d_L_law_652 : decode code 652 = .ok (.aload_n 0, 1) := by decide +kernel
theorem d_L_law_653 : decode code 653 = .ok (.iload_n 3, 1) := by decide +kernel
theorem d_L_law_654 : decode code 654 = .ok (.iconst 1, 1) := by decide +kernel
theorem d_L_law_655 : decode code 655 = .ok (.iadd, 1) := by decide +kernel
theorem d_L_law_656 : decode code 656 = .ok (.iaload, 1) := by decide +kernel
theorem d_L_law_657 : decode code 657 = .ok (.aload_n 0, 1) := by decide +kernel
theorem d_L_law_658 : decode code 658 = .ok (.iload_n 3, 1) := by decide +kernel
theorem d_L_law_659 : decode code 659 = .ok (.iconst 2, 1) := by decide +kernel
theorem d_L_law_660 : decode code 660 = .ok (.iadd, 1) := by decide +kernel
theorem d_L_law_661 : decode code 661 = .ok (.iaload, 1) := by decide +kernel
theorem d_L_law_662 : decode code 662 = .ok (.aload_n 0, 1) := by decide +kernel
theorem d_L_law_663 : decode code 663 = .ok (.iload_n 3, 1) := by decide +kernel
theorem d_L_law_664 : decode code 664 = .ok (.iconst 3, 1) := by decide +kernel
theorem d_L_law_665 : decode code 665 = .ok (.iadd, 1) := by decide +kernel
theorem d_L_law_666 : decode code 666 = .ok (.iaload, 1) := by decide +kernel
theorem d_L_law_667 : decode code 667 = .ok (.aload_n 0, 1) := by decide +kernel
theorem d_L_law_668 : decode code 668 = .ok (.iload_n 3, 1) := by decide +kernel
theorem d_L_law_669 : decode code 669 = .ok (.iconst 4, 1) := by decide +kernel
theorem d_L_law_670 : decode code 670 = .ok (.iadd, 1) := by decide +kernel
theorem d_L_law_671 : decode code 671 = .ok (.iaload, 1) := by decide +kernel
theorem d_L_law_672 : decode code 672 = .ok (.invokevirtual 75, 3) := by decide +kernel
theorem d_L_law_675 : decode code 675 = .ok (.if_icmp .eq 471, 3) := by decide +kernel
theorem d_L_law_678 : decode code 678 = .ok (.iconst 0, 1) := by decide +kernel
theorem d_L_law_679 : decode code 679 = .ok (.ireturn, 1) := by decide +kernel
theorem d_L_law_680 : decode code 680 = .ok (.aload_n 1, 1) := by decide +kernel
theorem d_L_law_681 : decode code 681 = .ok (.aload_n 0, 1) := by decide +kernel
theorem d_L_law_682 : decode code 682 = .ok (.iload_n 3, 1) := by decide +kernel
theorem d_L_law_683 : decode code 683 = .ok (.iconst 1, 1) := by decide +kernel
theorem d_L_law_684 : decode code 684 = .ok (.iadd, 1) := by decide +kernel
theorem d_L_law_685 : decode code 685 = .ok (.iaload, 1) := by decide +kernel
theorem d_L_law_686 : decode code 686 = .ok (.aload_n 0, 1) := by decide +kernel
theorem d_L_law_687 : decode code 687 = .ok (.iload_n 3, 1) := by decide +kernel
theorem d_L_law_688 : decode code 688 = .ok (.iconst 2, 1) := by decide +kernel
theorem d_L_law_689 : decode code 689 = .ok (.iadd, 1) := by decide +kernel
theorem d_L_law_690 : decode code 690 = .ok (.iaload, 1) := by decide +kernel
theorem d_L_law_691 : decode code 691 = .ok (.invokevirtual 76, 3) := by decide +kernel
theorem d_L_law_694 : decode code 694 = .ok (.aload_n 2, 1) := by decide +kernel
theorem d_L_law_695 : decode code 695 = .ok (.aload_n 0, 1) := by decide +kernel
theorem d_L_law_696 : decode code 696 = .ok (.iload_n 3, 1) := by decide +kernel
theorem d_L_law_697 : decode code 697 = .ok (.iconst 1, 1) := by decide +kernel
theorem d_L_law_698 : decode code 698 = .ok (.iadd, 1) := by decide +kernel
theorem d_L_law_699 : decode code 699 = .ok (.iaload, 1) := by decide +kernel
theorem d_L_law_700 : decode code 700 = .ok (.aload_n 0, 1) := by decide +kernel
theorem d_L_law_701 : decode code 701 = .ok (.iload_n 3, 1) := by decide +kernel
theorem d_L_law_702 : decode code 702 = .ok (.iconst 2, 1) := by decide +kernel
theorem d_L_law_703 : decode code 703 = .ok (.iadd, 1) := by decide +kernel
theorem d_L_law_704 : decode code 704 = .ok (.iaload, 1) := by decide +kernel
theorem d_L_law_705 : decode code 705 = .ok (.invokevirtual 79, 3) := by decide +kernel
theorem d_L_law_708 : decode code 708 = .ok (.if_icmp .eq 438, 3) := by decide +kernel
theorem d_L_law_711 : decode code 711 = .ok (.iconst 0, 1) := by decide +kernel
theorem d_L_law_712 : decode code 712 = .ok (.ireturn, 1) := by decide +kernel
theorem d_L_law_713 : decode code 713 = .ok (.aload_n 1, 1) := by decide +kernel
theorem d_L_law_714 : decode code 714 = .ok (.aload_n 0, 1) := by decide +kernel
theorem d_L_law_715 : decode code 715 = .ok (.iload_n 3, 1) := by decide +kernel
theorem d_L_law_716 : decode code 716 = .ok (.iconst 1, 1) := by decide +kernel
theorem d_L_law_717 : decode code 717 = .ok (.iadd, 1) := by decide +kernel
theorem d_L_law_718 : decode code 718 = .ok (.iaload, 1) := by decide +kernel
theorem d_L_law_719 : decode code 719 = .ok (.aload_n 0, 1) := by decide +kernel
theorem d_L_law_720 : decode code 720 = .ok (.iload_n 3, 1) := by decide +kernel
theorem d_L_law_721 : decode code 721 = .ok (.iconst 2, 1) := by decide +kernel
theorem d_L_law_722 : decode code 722 = .ok (.iadd, 1) := by decide +kernel
theorem d_L_law_723 : decode code 723 = .ok (.iaload, 1) := by decide +kernel
theorem d_L_law_724 : decode code 724 = .ok (.invokevirtual 80, 3) := by decide +kernel
theorem d_L_law_727 : decode code 727 = .ok (.aload_n 2, 1) := by decide +kernel
theorem d_L_law_728 : decode code 728 = .ok (.aload_n 0, 1) := by decide +kernel
theorem d_L_law_729 : decode code 729 = .ok (.iload_n 3, 1) := by decide +kernel
theorem d_L_law_730 : decode code 730 = .ok (.iconst 1, 1) := by decide +kernel
theorem d_L_law_731 : decode code 731 = .ok (.iadd, 1) := by decide +kernel
theorem d_L_law_732 : decode code 732 = .ok (.iaload, 1) := by decide +kernel
theorem d_L_law_733 : decode code 733 = .ok (.aload_n 0, 1) := by decide +kernel
theorem d_L_law_734 : decode code 734 = .ok (.iload_n 3, 1) := by decide +kernel
theorem d_L_law_735 : decode code 735 = .ok (.iconst 2, 1) := by decide +kernel
theorem d_L_law_736 : decode code 736 = .ok (.iadd, 1) := by decide +kernel
theorem d_L_law_737 : decode code 737 = .ok (.iaload, 1) := by decide +kernel
theorem d_L_law_738 : decode code 738 = .ok (.invokevirtual 83, 3) := by decide +kernel
theorem d_L_law_741 : decode code 741 = .ok (.if_icmp .eq 405, 3) := by decide +kernel
theorem d_L_law_744 : decode code 744 = .ok (.iconst 0, 1) := by decide +kernel
theorem d_L_law_745 : decode code 745 = .ok (.ireturn, 1) := by decide +kernel
theorem d_L_law_746 : decode code 746 = .ok (.aload_n 1, 1) := by decide +kernel
theorem d_L_law_747 : decode code 747 = .ok (.aload_n 0, 1) := by decide +kernel
theorem d_L_law_748 : decode code 748 = .ok (.iload_n 3, 1) := by decide +kernel
theorem d_L_law_749 : decode code 749 = .ok (.iconst 1, 1) := by decide +kernel
theorem d_L_law_750 : decode code 750 = .ok (.iadd, 1) := by decide +kernel
theorem d_L_law_751 : decode code 751 = .ok (.iaload, 1) := by decide +kernel
theorem d_L_law_752 : decode code 752 = .ok (.invokevirtual 84, 3) := by decide +kernel
theorem d_L_law_755 : decode code 755 = .ok (.aload_n 2, 1) := by decide +kernel
theorem d_L_law_756 : decode code 756 = .ok (.aload_n 0, 1) := by decide +kernel
theorem d_L_law_757 : decode code 757 = .ok (.iload_n 3, 1) := by decide +kernel
theorem d_L_law_758 : decode code 758 = .ok (.iconst 1, 1) := by decide +kernel
theorem d_L_law_759 : decode code 759 = .ok (.iadd, 1) := by decide +kernel
theorem d_L_law_760 : decode code 760 = .ok (.iaload, 1) := by decide +kernel
theorem d_L_law_761 : decode code 761 = .ok (.invokevirtual 87, 3) := by decide +kernel
theorem d_L_law_764 : decode code 764 = .ok (.if_icmp .eq 382, 3) := by decide +kernel
theorem d_L_law_767 : decode code 767 = .ok (.iconst 0, 1) := by decide +kernel
theorem d_L_law_768 : decode code 768 = .ok (.ireturn, 1) := by decide +kernel
theorem d_L_law_769 : decode code 769 = .ok (.aload_n 1, 1) := by decide +kernel
theorem d_L_law_770 : decode code 770 = .ok (.aload_n 0, 1) := by decide +kernel
theorem d_L_law_771 : decode code 771 = .ok (.iload_n 3, 1) := by decide +kernel
theorem d_L_law_772 : decode code 772 = .ok (.iconst 1, 1) := by decide +kernel
theorem d_L_law_773 : decode code 773 = .ok (.iadd, 1) := by decide +kernel
theorem d_L_law_774 : decode code 774 = .ok (.iaload, 1) := by decide +kernel
theorem d_L_law_775 : decode code 775 = .ok (.invokevirtual 88, 3) := by decide +kernel
theorem d_L_law_778 : decode code 778 = .ok (.aload_n 2, 1) := by decide +kernel
theorem d_L_law_779 : decode code 779 = .ok (.aload_n 0, 1) := by decide +kernel
theorem d_L_law_780 : decode code 780 = .ok (.iload_n 3, 1) := by decide +kernel
theorem d_L_law_781 : decode code 781 = .ok (.iconst 1, 1) := by decide +kernel
theorem d_L_law_782 : decode code 782 = .ok (.iadd, 1) := by decide +kernel
theorem d_L_law_783 : decode code 783 = .ok (.iaload, 1) := by decide +kernel
theorem d_L_law_784 : decode code 784 = .ok (.invokevirtual 91, 3) := by decide +kernel
theorem d_L_law_787 : decode code 787 = .ok (.if_icmp .eq 359, 3) := by decide +kernel
theorem d_L_law_790 : decode code 790 = .ok (.iconst 0, 1) := by decide +kernel
theorem d_L_law_791 : decode code 791 = .ok (.ireturn, 1) := by decide +kernel
theorem d_L_law_792 : decode code 792 = .ok (.aload_n 1, 1) := by decide +kernel
theorem d_L_law_793 : decode code 793 = .ok (.aload_n 0, 1) := by decide +kernel
theorem d_L_law_794 : decode code 794 = .ok (.iload_n 3, 1) := by decide +kernel
theorem d_L_law_795 : decode code 795 = .ok (.iconst 1, 1) := by decide +kernel
theorem d_L_law_796 : decode code 796 = .ok (.iadd, 1) := by decide +kernel
theorem d_L_law_797 : decode code 797 = .ok (.iaload, 1) := by decide +kernel
theorem d_L_law_798 : decode code 798 = .ok (.invokevirtual 92, 3) := by decide +kernel
theorem d_L_law_801 : decode code 801 = .ok (.aload_n 2, 1) := by decide +kernel
theorem d_L_law_802 : decode code 802 = .ok (.aload_n 0, 1) := by decide +kernel
theorem d_L_law_803 : decode code 803 = .ok (.iload_n 3, 1) := by decide +kernel
theorem d_L_law_804 : decode code 804 = .ok (.iconst 1, 1) := by decide +kernel
theorem d_L_law_805 : decode code 805 = .ok (.iadd, 1) := by decide +kernel
theorem d_L_law_806 : decode code 806 = .ok (.iaload, 1) := by decide +kernel
theorem d_L_law_807 : decode code 807 = .ok (.invokevirtual 95, 3) := by decide +kernel
theorem d_L_law_810 : decode code 810 = .ok (.if_icmp .eq 336, 3) := by decide +kernel
theorem d_L_law_813 : decode code 813 = .ok (.iconst 0, 1) := by decide +kernel
theorem d_L_law_814 : decode code 814 = .ok (.ireturn, 1) := by decide +kernel
theorem d_L_law_815 : decode code 815 = .ok (.aload_n 1, 1) := by decide +kernel
theorem d_L_law_816 : decode code 816 = .ok (.aload_n 0, 1) := by decide +kernel
theorem d_L_law_817 : decode code 817 = .ok (.iload_n 3, 1) := by decide +kernel
theorem d_L_law_818 : decode code 818 = .ok (.iconst 1, 1) := by decide +kernel
theorem d_L_law_819 : decode code 819 = .ok (.iadd, 1) := by decide +kernel
theorem d_L_law_820 : decode code 820 = .ok (.iaload, 1) := by decide +kernel
theorem d_L_law_821 : decode code 821 = .ok (.aload_n 0, 1) := by decide +kernel
theorem d_L_law_822 : decode code 822 = .ok (.iload_n 3, 1) := by decide +kernel
theorem d_L_law_823 : decode code 823 = .ok (.iconst 2, 1) := by decide +kernel
theorem d_L_law_824 : decode code 824 = .ok (.iadd, 1) := by decide +kernel
theorem d_L_law_825 : decode code 825 = .ok (.iaload, 1) := by decide +kernel
theorem d_L_law_826 : decode code 826 = .ok (.aload_n 0, 1) := by decide +kernel
theorem d_L_law_827 : decode code 827 = .ok (.iload_n 3, 1) := by decide +kernel
theorem d_L_law_828 : decode code 828 = .ok (.iconst 3, 1) := by decide +kernel
theorem d_L_law_829 : decode code 829 = .ok (.iadd, 1) := by decide +kernel
theorem d_L_law_830 : decode code 830 = .ok (.iaload, 1) := by decide +kernel
theorem d_L_law_831 : decode code 831 = .ok (.aload_n 0, 1) := by decide +kernel
theorem d_L_law_832 : decode code 832 = .ok (.iload_n 3, 1) := by decide +kernel
theorem d_L_law_833 : decode code 833 = .ok (.iconst 4, 1) := by decide +kernel
theorem d_L_law_834 : decode code 834 = .ok (.iadd, 1) := by decide +kernel
theorem d_L_law_835 : decode code 835 = .ok (.iaload, 1) := by decide +kernel
theorem d_L_law_836 : decode code 836 = .ok (.aload_n 0, 1) := by decide +kernel
theorem d_L_law_837 : decode code 837 = .ok (.iload_n 3, 1) := by decide +kernel
theorem d_L_law_838 : decode code 838 = .ok (.iconst 5, 1) := by decide +kernel
theorem d_L_law_839 : decode code 839 = .ok (.iadd, 1) := by decide +kernel
theorem d_L_law_840 : decode code 840 = .ok (.iaload, 1) := by decide +kernel
theorem d_L_law_841 : decode code 841 = .ok (.invokevirtual 96, 3) := by decide +kernel
theorem d_L_law_844 : decode code 844 = .ok (.aload_n 2, 1) := by decide +kernel
theorem d_L_law_845 : decode code 845 = .ok (.aload_n 0, 1) := by decide +kernel
theorem d_L_law_846 : decode code 846 = .ok (.iload_n 3, 1) := by decide +kernel
theorem d_L_law_847 : decode code 847 = .ok (.iconst 1, 1) := by decide +kernel
theorem d_L_law_848 : decode code 848 = .ok (.iadd, 1) := by decide +kernel
theorem d_L_law_849 : decode code 849 = .ok (.iaload, 1) := by decide +kernel
theorem d_L_law_850 : decode code 850 = .ok (.aload_n 0, 1) := by decide +kernel
theorem d_L_law_851 : decode code 851 = .ok (.iload_n 3, 1) := by decide +kernel
theorem d_L_law_852 : decode code 852 = .ok (.iconst 2, 1) := by decide +kernel
theorem d_L_law_853 : decode code 853 = .ok (.iadd, 1) := by decide +kernel
theorem d_L_law_854 : decode code 854 = .ok (.iaload, 1) := by decide +kernel
theorem d_L_law_855 : decode code 855 = .ok (.aload_n 0, 1) := by decide +kernel
theorem d_L_law_856 : decode code 856 = .ok (.iload_n 3, 1) := by decide +kernel
theorem d_L_law_857 : decode code 857 = .ok (.iconst 3, 1) := by decide +kernel
theorem d_L_law_858 : decode code 858 = .ok (.iadd, 1) := by decide +kernel
theorem d_L_law_859 : decode code 859 = .ok (.iaload, 1) := by decide +kernel
theorem d_L_law_860 : decode code 860 = .ok (.aload_n 0, 1) := by decide +kernel
theorem d_L_law_861 : decode code 861 = .ok (.iload_n 3, 1) := by decide +kernel
theorem d_L_law_862 : decode code 862 = .ok (.iconst 4, 1) := by decide +kernel
theorem d_L_law_863 : decode code 863 = .ok (.iadd, 1) := by decide +kernel
theorem d_L_law_864 : decode code 864 = .ok (.iaload, 1) := by decide +kernel
theorem d_L_law_865 : decode code 865 = .ok (.aload_n 0, 1) := by decide +kernel
theorem d_L_law_866 : decode code 866 = .ok (.iload_n 3, 1) := by decide +kernel
theorem d_L_law_867 : decode code 867 = .ok (.iconst 5, 1) := by decide +kernel
theorem d_L_law_868 : decode code 868 = .ok (.iadd, 1) := by decide +kernel
theorem d_L_law_869 : decode code 869 = .ok (.iaload, 1) := by decide +kernel
theorem d_L_law_870 : decode code 870 = .ok (.invokevirtual 99, 3) := by decide +kernel
theorem d_L_law_873 : decode code 873 = .ok (.if_icmp .eq 273, 3) := by decide +kernel
theorem d_L_law_876 : decode code 876 = .ok (.iconst 0, 1) := by decide +kernel
theorem d_L_law_877 : decode code 877 = .ok (.ireturn, 1) := by decide +kernel
theorem d_L_law_878 : decode code 878 = .ok (.aload_n 1, 1) := by decide +kernel
theorem d_L_law_879 : decode code 879 = .ok (.aload_n 0, 1) := by decide +kernel
theorem d_L_law_880 : decode code 880 = .ok (.iload_n 3, 1) := by decide +kernel
theorem d_L_law_881 : decode code 881 = .ok (.iconst 1, 1) := by decide +kernel
theorem d_L_law_882 : decode code 882 = .ok (.iadd, 1) := by decide +kernel
theorem d_L_law_883 : decode code 883 = .ok (.iaload, 1) := by decide +kernel
theorem d_L_law_884 : decode code 884 = .ok (.aload_n 0, 1) := by decide +kernel
theorem d_L_law_885 : decode code 885 = .ok (.iload_n 3, 1) := by decide +kernel
theorem d_L_law_886 : decode code 886 = .ok (.iconst 2, 1) := by decide +kernel
theorem d_L_law_887 : decode code 887 = .ok (.iadd, 1) := by decide +kernel
theorem d_L_law_888 : decode code 888 = .ok (.iaload, 1) := by decide +kernel
theorem d_L_law_889 : decode code 889 = .ok (.aload_n 0, 1) := by decide +kernel
theorem d_L_law_890 : decode code 890 = .ok (.iload_n 3, 1) := by decide +kernel
theorem d_L_law_891 : decode code 891 = .ok (.iconst 3, 1) := by decide +kernel
theorem d_L_law_892 : decode code 892 = .ok (.iadd, 1) := by decide +kernel
theorem d_L_law_893 : decode code 893 = .ok (.iaload, 1) := by decide +kernel
theorem d_L_law_894 : decode code 894 = .ok (.aload_n 0, 1) := by decide +kernel
theorem d_L_law_895 : decode code 895 = .ok (.iload_n 3, 1) := by decide +kernel
theorem d_L_law_896 : decode code 896 = .ok (.iconst 4, 1) := by decide +kernel
theorem d_L_law_897 : decode code 897 = .ok (.iadd, 1) := by decide +kernel
theorem d_L_law_898 : decode code 898 = .ok (.iaload, 1) := by decide +kernel
theorem d_L_law_899 : decode code 899 = .ok (.invokevirtual 100, 3) := by decide +kernel
theorem d_L_law_902 : decode code 902 = .ok (.aload_n 2, 1) := by decide +kernel
theorem d_L_law_903 : decode code 903 = .ok (.aload_n 0, 1) := by decide +kernel
theorem d_L_law_904 : decode code 904 = .ok (.iload_n 3, 1) := by decide +kernel
theorem d_L_law_905 : decode code 905 = .ok (.iconst 1, 1) := by decide +kernel
theorem d_L_law_906 : decode code 906 = .ok (.iadd, 1) := by decide +kernel
theorem d_L_law_907 : decode code 907 = .ok (.iaload, 1) := by decide +kernel
theorem d_L_law_908 : decode code 908 = .ok (.aload_n 0, 1) := by decide +kernel
theorem d_L_law_909 : decode code 909 = .ok (.iload_n 3, 1) := by decide +kernel
theorem d_L_law_910 : decode code 910 = .ok (.iconst 2, 1) := by decide +kernel
theorem d_L_law_911 : decode code 911 = .ok (.iadd, 1) := by decide +kernel
theorem d_L_law_912 : decode code 912 = .ok (.iaload, 1) := by decide +kernel
theorem d_L_law_913 : decode code 913 = .ok (.aload_n 0, 1) := by decide +kernel
theorem d_L_law_914 : decode code 914 = .ok (.iload_n 3, 1) := by decide +kernel
theorem d_L_law_915 : decode code 915 = .ok (.iconst 3, 1) := by decide +kernel
theorem d_L_law_916 : decode code 916 = .ok (.iadd, 1) := by decide +kernel
theorem d_L_law_917 : decode code 917 = .ok (.iaload, 1) := by decide +kernel
theorem d_L_law_918 : decode code 918 = .ok (.aload_n 0, 1) := by decide +kernel
theorem d_L_law_919 : decode code 919 = .ok (.iload_n 3, 1) := by decide +kernel
theorem d_L_law_920 : decode code 920 = .ok (.iconst 4, 1) := by decide +kernel
theorem d_L_law_921 : decode code 921 = .ok (.iadd, 1) := by decide +kernel
theorem d_L_law_922 : decode code 922 = .ok (.iaload, 1) := by decide +kernel
theorem d_L_law_923 : decode code 923 = .ok (.invokevirtual 103, 3) := by decide +kernel
theorem d_L_law_926 : decode code 926 = .ok (.if_icmp .eq 220, 3) := by decide +kernel
theorem d_L_law_929 : decode code 929 = .ok (.iconst 0, 1) := by decide +kernel
theorem d_L_law_930 : decode code 930 = .ok (.ireturn, 1) := by decide +kernel
theorem d_L_law_931 : decode code 931 = .ok (.aload_n 1, 1) := by decide +kernel
theorem d_L_law_932 : decode code 932 = .ok (.aload_n 0, 1) := by decide +kernel
theorem d_L_law_933 : decode code 933 = .ok (.iload_n 3, 1) := by decide +kernel
theorem d_L_law_934 : decode code 934 = .ok (.iconst 1, 1) := by decide +kernel
theorem d_L_law_935 : decode code 935 = .ok (.iadd, 1) := by decide +kernel
theorem d_L_law_936 : decode code 936 = .ok (.iaload, 1) := by decide +kernel
theorem d_L_law_937 : decode code 937 = .ok (.aload_n 0, 1) := by decide +kernel
theorem d_L_law_938 : decode code 938 = .ok (.iload_n 3, 1) := by decide +kernel
theorem d_L_law_939 : decode code 939 = .ok (.iconst 2, 1) := by decide +kernel
theorem d_L_law_940 : decode code 940 = .ok (.iadd, 1) := by decide +kernel
theorem d_L_law_941 : decode code 941 = .ok (.iaload, 1) := by decide +kernel
theorem d_L_law_942 : decode code 942 = .ok (.aload_n 0, 1) := by decide +kernel
theorem d_L_law_943 : decode code 943 = .ok (.iload_n 3, 1) := by decide +kernel
theorem d_L_law_944 : decode code 944 = .ok (.iconst 3, 1) := by decide +kernel
theorem d_L_law_945 : decode code 945 = .ok (.iadd, 1) := by decide +kernel
theorem d_L_law_946 : decode code 946 = .ok (.iaload, 1) := by decide +kernel
theorem d_L_law_947 : decode code 947 = .ok (.i2l, 1) := by decide +kernel
theorem d_L_law_948 : decode code 948 = .ok (.bipush 32, 2) := by decide +kernel
theorem d_L_law_950 : decode code 950 = .ok (.lshl, 1) := by decide +kernel
theorem d_L_law_951 : decode code 951 = .ok (.aload_n 0, 1) := by decide +kernel
theorem d_L_law_952 : decode code 952 = .ok (.iload_n 3, 1) := by decide +kernel
theorem d_L_law_953 : decode code 953 = .ok (.iconst 4, 1) := by decide +kernel
theorem d_L_law_954 : decode code 954 = .ok (.iadd, 1) := by decide +kernel
theorem d_L_law_955 : decode code 955 = .ok (.iaload, 1) := by decide +kernel
theorem d_L_law_956 : decode code 956 = .ok (.i2l, 1) := by decide +kernel
theorem d_L_law_957 : decode code 957 = .ok (.ldc2_w 65, 3) := by decide +kernel
theorem d_L_law_960 : decode code 960 = .ok (.land, 1) := by decide +kernel
theorem d_L_law_961 : decode code 961 = .ok (.lor, 1) := by decide +kernel
theorem d_L_law_962 : decode code 962 = .ok (.invokevirtual 104, 3) := by decide +kernel
theorem d_L_law_965 : decode code 965 = .ok (.aload_n 2, 1) := by decide +kernel
theorem d_L_law_966 : decode code 966 = .ok (.aload_n 0, 1) := by decide +kernel
theorem d_L_law_967 : decode code 967 = .ok (.iload_n 3, 1) := by decide +kernel
theorem d_L_law_968 : decode code 968 = .ok (.iconst 1, 1) := by decide +kernel
theorem d_L_law_969 : decode code 969 = .ok (.iadd, 1) := by decide +kernel
theorem d_L_law_970 : decode code 970 = .ok (.iaload, 1) := by decide +kernel
theorem d_L_law_971 : decode code 971 = .ok (.aload_n 0, 1) := by decide +kernel
theorem d_L_law_972 : decode code 972 = .ok (.iload_n 3, 1) := by decide +kernel
theorem d_L_law_973 : decode code 973 = .ok (.iconst 2, 1) := by decide +kernel
theorem d_L_law_974 : decode code 974 = .ok (.iadd, 1) := by decide +kernel
theorem d_L_law_975 : decode code 975 = .ok (.iaload, 1) := by decide +kernel
theorem d_L_law_976 : decode code 976 = .ok (.aload_n 0, 1) := by decide +kernel
theorem d_L_law_977 : decode code 977 = .ok (.iload_n 3, 1) := by decide +kernel
theorem d_L_law_978 : decode code 978 = .ok (.iconst 3, 1) := by decide +kernel
theorem d_L_law_979 : decode code 979 = .ok (.iadd, 1) := by decide +kernel
theorem d_L_law_980 : decode code 980 = .ok (.iaload, 1) := by decide +kernel
theorem d_L_law_981 : decode code 981 = .ok (.i2l, 1) := by decide +kernel
theorem d_L_law_982 : decode code 982 = .ok (.bipush 32, 2) := by decide +kernel
theorem d_L_law_984 : decode code 984 = .ok (.lshl, 1) := by decide +kernel
theorem d_L_law_985 : decode code 985 = .ok (.aload_n 0, 1) := by decide +kernel
theorem d_L_law_986 : decode code 986 = .ok (.iload_n 3, 1) := by decide +kernel
theorem d_L_law_987 : decode code 987 = .ok (.iconst 4, 1) := by decide +kernel
theorem d_L_law_988 : decode code 988 = .ok (.iadd, 1) := by decide +kernel
theorem d_L_law_989 : decode code 989 = .ok (.iaload, 1) := by decide +kernel
theorem d_L_law_990 : decode code 990 = .ok (.i2l, 1) := by decide +kernel
theorem d_L_law_991 : decode code 991 = .ok (.ldc2_w 65, 3) := by decide +kernel
theorem d_L_law_994 : decode code 994 = .ok (.land, 1) := by decide +kernel
theorem d_L_law_995 : decode code 995 = .ok (.lor, 1) := by decide +kernel
theorem d_L_law_996 : decode code 996 = .ok (.invokevirtual 107, 3) := by decide +kernel
theorem d_L_law_999 : decode code 999 = .ok (.if_icmp .eq 147, 3) := by decide +kernel
theorem d_L_law_1002 : decode code 1002 = .ok (.iconst 0, 1) := by decide +kernel
theorem d_L_law_1003 : decode code 1003 = .ok (.ireturn, 1) := by decide +kernel
theorem d_L_law_1004 : decode code 1004 = .ok (.aload_n 1, 1) := by decide +kernel
theorem d_L_law_1005 : decode code 1005 = .ok (.aload_n 0, 1) := by decide +kernel
theorem d_L_law_1006 : decode code 1006 = .ok (.iload_n 3, 1) := by decide +kernel
theorem d_L_law_1007 : decode code 1007 = .ok (.iconst 1, 1) := by decide +kernel
theorem d_L_law_1008 : decode code 1008 = .ok (.iadd, 1) := by decide +kernel
theorem d_L_law_1009 : decode code 1009 = .ok (.iaload, 1) := by decide +kernel
theorem d_L_law_1010 : decode code 1010 = .ok (.aload_n 0, 1) := by decide +kernel
theorem d_L_law_1011 : decode code 1011 = .ok (.iload_n 3, 1) := by decide +kernel
theorem d_L_law_1012 : decode code 1012 = .ok (.iconst 2, 1) := by decide +kernel
theorem d_L_law_1013 : decode code 1013 = .ok (.iadd, 1) := by decide +kernel
theorem d_L_law_1014 : decode code 1014 = .ok (.iaload, 1) := by decide +kernel
theorem d_L_law_1015 : decode code 1015 = .ok (.aload_n 0, 1) := by decide +kernel
theorem d_L_law_1016 : decode code 1016 = .ok (.iload_n 3, 1) := by decide +kernel
theorem d_L_law_1017 : decode code 1017 = .ok (.iconst 3, 1) := by decide +kernel
theorem d_L_law_1018 : decode code 1018 = .ok (.iadd, 1) := by decide +kernel
theorem d_L_law_1019 : decode code 1019 = .ok (.iaload, 1) := by decide +kernel
theorem d_L_law_1020 : decode code 1020 = .ok (.aload_n 0, 1) := by decide +kernel
theorem d_L_law_1021 : decode code 1021 = .ok (.iload_n 3, 1) := by decide +kernel
theorem d_L_law_1022 : decode code 1022 = .ok (.iconst 4, 1) := by decide +kernel
theorem d_L_law_1023 : decode code 1023 = .ok (.iadd, 1) := by decide +kernel
theorem d_L_law_1024 : decode code 1024 = .ok (.iaload, 1) := by decide +kernel
theorem d_L_law_1025 : decode code 1025 = .ok (.invokevirtual 108, 3) := by decide +kernel
theorem d_L_law_1028 : decode code 1028 = .ok (.aload_n 2, 1) := by decide +kernel
theorem d_L_law_1029 : decode code 1029 = .ok (.aload_n 0, 1) := by decide +kernel
theorem d_L_law_1030 : decode code 1030 = .ok (.iload_n 3, 1) := by decide +kernel
theorem d_L_law_1031 : decode code 1031 = .ok (.iconst 1, 1) := by decide +kernel
theorem d_L_law_1032 : decode code 1032 = .ok (.iadd, 1) := by decide +kernel
theorem d_L_law_1033 : decode code 1033 = .ok (.iaload, 1) := by decide +kernel
theorem d_L_law_1034 : decode code 1034 = .ok (.aload_n 0, 1) := by decide +kernel
theorem d_L_law_1035 : decode code 1035 = .ok (.iload_n 3, 1) := by decide +kernel
theorem d_L_law_1036 : decode code 1036 = .ok (.iconst 2, 1) := by decide +kernel
theorem d_L_law_1037 : decode code 1037 = .ok (.iadd, 1) := by decide +kernel
theorem d_L_law_1038 : decode code 1038 = .ok (.iaload, 1) := by decide +kernel
theorem d_L_law_1039 : decode code 1039 = .ok (.aload_n 0, 1) := by decide +kernel
theorem d_L_law_1040 : decode code 1040 = .ok (.iload_n 3, 1) := by decide +kernel
theorem d_L_law_1041 : decode code 1041 = .ok (.iconst 3, 1) := by decide +kernel
theorem d_L_law_1042 : decode code 1042 = .ok (.iadd, 1) := by decide +kernel
theorem d_L_law_1043 : decode code 1043 = .ok (.iaload, 1) := by decide +kernel
theorem d_L_law_1044 : decode code 1044 = .ok (.aload_n 0, 1) := by decide +kernel
theorem d_L_law_1045 : decode code 1045 = .ok (.iload_n 3, 1) := by decide +kernel
theorem d_L_law_1046 : decode code 1046 = .ok (.iconst 4, 1) := by decide +kernel
theorem d_L_law_1047 : decode code 1047 = .ok (.iadd, 1) := by decide +kernel
theorem d_L_law_1048 : decode code 1048 = .ok (.iaload, 1) := by decide +kernel
theorem d_L_law_1049 : decode code 1049 = .ok (.invokevirtual 111, 3) := by decide +kernel
theorem d_L_law_1052 : decode code 1052 = .ok (.if_icmp .eq 94, 3) := by decide +kernel
theorem d_L_law_1055 : decode code 1055 = .ok (.iconst 0, 1) := by decide +kernel
theorem d_L_law_1056 : decode code 1056 = .ok (.ireturn, 1) := by decide +kernel
theorem d_L_law_1057 : decode code 1057 = .ok (.aload_n 1, 1) := by decide +kernel
theorem d_L_law_1058 : decode code 1058 = .ok (.aload_n 0, 1) := by decide +kernel
theorem d_L_law_1059 : decode code 1059 = .ok (.iload_n 3, 1) := by decide +kernel
theorem d_L_law_1060 : decode code 1060 = .ok (.iconst 1, 1) := by decide +kernel
theorem d_L_law_1061 : decode code 1061 = .ok (.iadd, 1) := by decide +kernel
theorem d_L_law_1062 : decode code 1062 = .ok (.iaload, 1) := by decide +kernel
theorem d_L_law_1063 : decode code 1063 = .ok (.aload_n 0, 1) := by decide +kernel
theorem d_L_law_1064 : decode code 1064 = .ok (.iload_n 3, 1) := by decide +kernel
theorem d_L_law_1065 : decode code 1065 = .ok (.iconst 2, 1) := by decide +kernel
theorem d_L_law_1066 : decode code 1066 = .ok (.iadd, 1) := by decide +kernel
theorem d_L_law_1067 : decode code 1067 = .ok (.iaload, 1) := by decide +kernel
theorem d_L_law_1068 : decode code 1068 = .ok (.invokevirtual 112, 3) := by decide +kernel
theorem d_L_law_1071 : decode code 1071 = .ok (.aload_n 2, 1) := by decide +kernel
theorem d_L_law_1072 : decode code 1072 = .ok (.aload_n 0, 1) := by decide +kernel
theorem d_L_law_1073 : decode code 1073 = .ok (.iload_n 3, 1) := by decide +kernel
theorem d_L_law_1074 : decode code 1074 = .ok (.iconst 1, 1) := by decide +kernel
theorem d_L_law_1075 : decode code 1075 = .ok (.iadd, 1) := by decide +kernel
theorem d_L_law_1076 : decode code 1076 = .ok (.iaload, 1) := by decide +kernel
theorem d_L_law_1077 : decode code 1077 = .ok (.aload_n 0, 1) := by decide +kernel
theorem d_L_law_1078 : decode code 1078 = .ok (.iload_n 3, 1) := by decide +kernel
theorem d_L_law_1079 : decode code 1079 = .ok (.iconst 2, 1) := by decide +kernel
theorem d_L_law_1080 : decode code 1080 = .ok (.iadd, 1) := by decide +kernel
theorem d_L_law_1081 : decode code 1081 = .ok (.iaload, 1) := by decide +kernel
theorem d_L_law_1082 : decode code 1082 = .ok (.invokevirtual 115, 3) := by decide +kernel
theorem d_L_law_1085 : decode code 1085 = .ok (.if_icmp .eq 61, 3) := by decide +kernel
theorem d_L_law_1088 : decode code 1088 = .ok (.iconst 0, 1) := by decide +kernel
theorem d_L_law_1089 : decode code 1089 = .ok (.ireturn, 1) := by decide +kernel
theorem d_L_law_1090 : decode code 1090 = .ok (.aload_n 1, 1) := by decide +kernel
theorem d_L_law_1091 : decode code 1091 = .ok (.aload_n 0, 1) := by decide +kernel
theorem d_L_law_1092 : decode code 1092 = .ok (.iload_n 3, 1) := by decide +kernel
theorem d_L_law_1093 : decode code 1093 = .ok (.iconst 1, 1) := by decide +kernel
theorem d_L_law_1094 : decode code 1094 = .ok (.iadd, 1) := by decide +kernel
theorem d_L_law_1095 : decode code 1095 = .ok (.iaload, 1) := by decide +kernel
theorem d_L_law_1096 : decode code 1096 = .ok (.invokevirtual 116, 3) := by decide +kernel
theorem d_L_law_1099 : decode code 1099 = .ok (.aload_n 2, 1) := by decide +kernel
theorem d_L_law_1100 : decode code 1100 = .ok (.aload_n 0, 1) := by decide +kernel
theorem d_L_law_1101 : decode code 1101 = .ok (.iload_n 3, 1) := by decide +kernel
theorem d_L_law_1102 : decode code 1102 = .ok (.iconst 1, 1) := by decide +kernel
theorem d_L_law_1103 : decode code 1103 = .ok (.iadd, 1) := by decide +kernel
theorem d_L_law_1104 : decode code 1104 = .ok (.iaload, 1) := by decide +kernel
theorem d_L_law_1105 : decode code 1105 = .ok (.invokevirtual 119, 3) := by decide +kernel
theorem d_L_law_1108 : decode code 1108 = .ok (.if_icmp .eq 38, 3) := by decide +kernel
theorem d_L_law_1111 : decode code 1111 = .ok (.iconst 0, 1) := by decide +kernel
theorem d_L_law_1112 : decode code 1112 = .ok (.ireturn, 1) := by decide +kernel
theorem d_L_law_1113 : decode code 1113 = .ok (.aload_n 1, 1) := by decide +kernel
theorem d_L_law_1114 : decode code 1114 = .ok (.aload_n 0, 1) := by decide +kernel
theorem d_L_law_1115 : decode code 1115 = .ok (.iload_n 3, 1) := by decide +kernel
theorem d_L_law_1116 : decode code 1116 = .ok (.iconst 1, 1) := by decide +kernel
theorem d_L_law_1117 : decode code 1117 = .ok (.iadd, 1) := by decide +kernel
theorem d_L_law_1118 : decode code 1118 = .ok (.iaload, 1) := by decide +kernel
theorem d_L_law_1119 : decode code 1119 = .ok (.aload_n 0, 1) := by decide +kernel
theorem d_L_law_1120 : decode code 1120 = .ok (.iload_n 3, 1) := by decide +kernel
theorem d_L_law_1121 : decode code 1121 = .ok (.iconst 2, 1) := by decide +kernel
theorem d_L_law_1122 : decode code 1122 = .ok (.iadd, 1) := by decide +kernel
theorem d_L_law_1123 : decode code 1123 = .ok (.iaload, 1) := by decide +kernel
theorem d_L_law_1124 : decode code 1124 = .ok (.invokevirtual 120, 3) := by decide +kernel
theorem d_L_law_1127 : decode code 1127 = .ok (.aload_n 2, 1) := by decide +kernel
theorem d_L_law_1128 : decode code 1128 = .ok (.aload_n 0, 1) := by decide +kernel
theorem d_L_law_1129 : decode code 1129 = .ok (.iload_n 3, 1) := by decide +kernel
theorem d_L_law_1130 : decode code 1130 = .ok (.iconst 1, 1) := by decide +kernel
theorem d_L_law_1131 : decode code 1131 = .ok (.iadd, 1) := by decide +kernel
theorem d_L_law_1132 : decode code 1132 = .ok (.iaload, 1) := by decide +kernel
theorem d_L_law_1133 : decode code 1133 = .ok (.aload_n 0, 1) := by decide +kernel
theorem d_L_law_1134 : decode code 1134 = .ok (.iload_n 3, 1) := by decide +kernel
theorem d_L_law_1135 : decode code 1135 = .ok (.iconst 2, 1) := by decide +kernel
theorem d_L_law_1136 : decode code 1136 = .ok (.iadd, 1) := by decide +kernel
theorem d_L_law_1137 : decode code 1137 = .ok (.iaload, 1) := by decide +kernel
theorem d_L_law_1138 : decode code 1138 = .ok (.invokevirtual 123, 3) := by decide +kernel
theorem d_L_law_1141 : decode code 1141 = .ok (.if_icmp .eq 5, 3) := by decide +kernel
theorem d_L_law_1144 : decode code 1144 = .ok (.iconst 0, 1) := by decide +kernel
theorem d_L_law_1145 : decode code 1145 = .ok (.ireturn, 1) := by decide +kernel
theorem d_L_law_1146 : decode code 1146 = .ok (.iinc 3 6, 3) := by decide +kernel
theorem d_L_law_1149 : decode code 1149 = .ok (.goto (-1131), 3) := by decide +kernel
theorem d_L_law_1152 : decode code 1152 = .ok (.iconst 1, 1) := by decide +kernel
theorem d_L_law_1153 : decode code 1153 = .ok (.ireturn, 1) := by decide +kernel
