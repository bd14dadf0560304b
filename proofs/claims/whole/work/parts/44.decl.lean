theorem d_L_law_0 : decode b_L_law 0 = .ok (.new 8, 3) := by decide +kernel
theorem d_L_law_3 : decode b_L_law 3 = .ok (.dup, 1) := by decide +kernel
theorem d_L_law_4 : decode b_L_law 4 = .ok (.invokespecial 71, 3) := by decide +kernel
theorem d_L_law_7 : decode b_L_law 7 = .ok (.astore_n 1, 1) := by decide +kernel
theorem d_L_law_8 : decode b_L_law 8 = .ok (.new 72, 3) := by decide +kernel
theorem d_L_law_11 : decode b_L_law 11 = .ok (.dup, 1) := by decide +kernel
theorem d_L_law_12 : decode b_L_law 12 = .ok (.invokespecial 74, 3) := by decide +kernel
theorem d_L_law_15 : decode b_L_law 15 = .ok (.astore_n 2, 1) := by decide +kernel
theorem d_L_law_16 : decode b_L_law 16 = .ok (.iconst 1, 1) := by decide +kernel
theorem d_L_law_17 : decode b_L_law 17 = .ok (.newarray .long, 2) := by decide +kernel
theorem d_L_law_19 : decode b_L_law 19 = .ok (.astore_n 3, 1) := by decide +kernel
theorem d_L_law_20 : decode b_L_law 20 = .ok (.iconst 0, 1) := by decide +kernel
theorem d_L_law_21 : decode b_L_law 21 = .ok (.istore 4, 2) := by decide +kernel
theorem d_L_law_23 : decode b_L_law 23 = .ok (.iload 4, 2) := by decide +kernel
theorem d_L_law_25 : decode b_L_law 25 = .ok (.aload_n 0, 1) := by decide +kernel
theorem d_L_law_26 : decode b_L_law 26 = .ok (.arraylength, 1) := by decide +kernel
theorem d_L_law_27 : decode b_L_law 27 = .ok (.iconst 4, 1) := by decide +kernel
theorem d_L_law_28 : decode b_L_law 28 = .ok (.isub, 1) := by decide +kernel
theorem d_L_law_29 : decode b_L_law 29 = .ok (.if_icmp .gt 958, 3) := by decide +kernel
theorem d_L_law_32 : decode b_L_law 32 = .ok (.aload_n 0, 1) := by decide +kernel
theorem d_L_law_33 : decode b_L_law 33 = .ok (.iload 4, 2) := by decide +kernel
theorem d_L_law_35 : decode b_L_law 35 = .ok (.iaload, 1) := by decide +kernel
theorem d_L_law_36 : decode b_L_law 36 = .ok (.bipush 31, 2) := by decide +kernel
theorem d_L_law_38 : decode b_L_law 38 = .ok (.iand, 1) := by decide +kernel
theorem d_L_law_39 : decode b_L_law 39 = .ok (.tableswitch 942 0 17 #[85, 145, 181, 217, 241, 304, 317, 353, 389, 433, 446, 510, 597, 681, 737, 793, 861, 874], 85) := by decide +kernel
theorem d_L_law_124 : decode b_L_law 124 = .ok (.aload_n 1, 1) := by decide +kernel
theorem d_L_law_125 : decode b_L_law 125 = .ok (.aload_n 0, 1) := by decide +kernel
theorem d_L_law_126 : decode b_L_law 126 = .ok (.iload 4, 2) := by decide +kernel
theorem d_L_law_128 : decode b_L_law 128 = .ok (.iconst 1, 1) := by decide +kernel
theorem d_L_law_129 : decode b_L_law 129 = .ok (.iadd, 1) := by decide +kernel
theorem d_L_law_130 : decode b_L_law 130 = .ok (.iaload, 1) := by decide +kernel
theorem d_L_law_131 : decode b_L_law 131 = .ok (.aload_n 0, 1) := by decide +kernel
theorem d_L_law_132 : decode b_L_law 132 = .ok (.iload 4, 2) := by decide +kernel
theorem d_L_law_134 : decode b_L_law 134 = .ok (.iconst 2, 1) := by decide +kernel
theorem d_L_law_135 : decode b_L_law 135 = .ok (.iadd, 1) := by decide +kernel
theorem d_L_law_136 : decode b_L_law 136 = .ok (.iaload, 1) := by decide +kernel
theorem d_L_law_137 : decode b_L_law 137 = .ok (.aload_n 0, 1) := by decide +kernel
theorem d_L_law_138 : decode b_L_law 138 = .ok (.iload 4, 2) := by decide +kernel
theorem d_L_law_140 : decode b_L_law 140 = .ok (.iconst 3, 1) := by decide +kernel
theorem d_L_law_141 : decode b_L_law 141 = .ok (.iadd, 1) := by decide +kernel
theorem d_L_law_142 : decode b_L_law 142 = .ok (.iaload, 1) := by decide +kernel
theorem d_L_law_143 : decode b_L_law 143 = .ok (.invokestatic 75, 3) := by decide +kernel
theorem d_L_law_146 : decode b_L_law 146 = .ok (.istore 5, 2) := by decide +kernel
theorem d_L_law_148 : decode b_L_law 148 = .ok (.aload_n 2, 1) := by decide +kernel
theorem d_L_law_149 : decode b_L_law 149 = .ok (.aload_n 0, 1) := by decide +kernel
theorem d_L_law_150 : decode b_L_law 150 = .ok (.iload 4, 2) := by decide +kernel
theorem d_L_law_152 : decode b_L_law 152 = .ok (.iconst 1, 1) := by decide +kernel
theorem d_L_law_153 : decode b_L_law 153 = .ok (.iadd, 1) := by decide +kernel
theorem d_L_law_154 : decode b_L_law 154 = .ok (.iaload, 1) := by decide +kernel
theorem d_L_law_155 : decode b_L_law 155 = .ok (.aload_n 0, 1) := by decide +kernel
theorem d_L_law_156 : decode b_L_law 156 = .ok (.iload 4, 2) := by decide +kernel
theorem d_L_law_158 : decode b_L_law 158 = .ok (.iconst 2, 1) := by decide +kernel
theorem d_L_law_159 : decode b_L_law 159 = .ok (.iadd, 1) := by decide +kernel
theorem d_L_law_160 : decode b_L_law 160 = .ok (.iaload, 1) := by decide +kernel
theorem d_L_law_161 : decode b_L_law 161 = .ok (.aload_n 0, 1) := by decide +kernel
theorem d_L_law_162 : decode b_L_law 162 = .ok (.iload 4, 2) := by decide +kernel
theorem d_L_law_164 : decode b_L_law 164 = .ok (.iconst 3, 1) := by decide +kernel
theorem d_L_law_165 : decode b_L_law 165 = .ok (.iadd, 1) := by decide +kernel
theorem d_L_law_166 : decode b_L_law 166 = .ok (.iaload, 1) := by decide +kernel
theorem d_L_law_167 : decode b_L_law 167 = .ok (.invokevirtual 80, 3) := by decide +kernel
theorem d_L_law_170 : decode b_L_law 170 = .ok (.aload_n 2, 1) := by decide +kernel
theorem d_L_law_171 : decode b_L_law 171 = .ok (.invokevirtual 81, 3) := by decide +kernel
theorem d_L_law_174 : decode b_L_law 174 = .ok (.iload 5, 2) := by decide +kernel
theorem d_L_law_176 : decode b_L_law 176 = .ok (.if_icmp .eq 5, 3) := by decide +kernel
theorem d_L_law_179 : decode b_L_law 179 = .ok (.iconst 0, 1) := by decide +kernel
theorem d_L_law_180 : decode b_L_law 180 = .ok (.ireturn, 1) := by decide +kernel
theorem d_L_law_181 : decode b_L_law 181 = .ok (.goto 800, 3) := by decide +kernel
theorem d_L_law_184 : decode b_L_law 184 = .ok (.aload_n 1, 1) := by decide +kernel
theorem d_L_law_185 : decode b_L_law 185 = .ok (.aload_n 0, 1) := by decide +kernel
theorem d_L_law_186 : decode b_L_law 186 = .ok (.iload 4, 2) := by decide +kernel
theorem d_L_law_188 : decode b_L_law 188 = .ok (.iconst 1, 1) := by decide +kernel
theorem d_L_law_189 : decode b_L_law 189 = .ok (.iadd, 1) := by decide +kernel
theorem d_L_law_190 : decode b_L_law 190 = .ok (.iaload, 1) := by decide +kernel
theorem d_L_law_191 : decode b_L_law 191 = .ok (.invokestatic 84, 3) := by decide +kernel
theorem d_L_law_194 : decode b_L_law 194 = .ok (.istore 5, 2) := by decide +kernel
theorem d_L_law_196 : decode b_L_law 196 = .ok (.aload_n 2, 1) := by decide +kernel
theorem d_L_law_197 : decode b_L_law 197 = .ok (.aload_n 0, 1) := by decide +kernel
theorem d_L_law_198 : decode b_L_law 198 = .ok (.iload 4, 2) := by decide +kernel
theorem d_L_law_200 : decode b_L_law 200 = .ok (.iconst 1, 1) := by decide +kernel
theorem d_L_law_201 : decode b_L_law 201 = .ok (.iadd, 1) := by decide +kernel
theorem d_L_law_202 : decode b_L_law 202 = .ok (.iaload, 1) := by decide +kernel
theorem d_L_law_203 : decode b_L_law 203 = .ok (.invokevirtual 87, 3) := by decide +kernel
theorem d_L_law_206 : decode b_L_law 206 = .ok (.aload_n 2, 1) := by decide +kernel
theorem d_L_law_207 : decode b_L_law 207 = .ok (.invokevirtual 81, 3) := by decide +kernel
theorem d_L_law_210 : decode b_L_law 210 = .ok (.iload 5, 2) := by decide +kernel
theorem d_L_law_212 : decode b_L_law 212 = .ok (.if_icmp .eq 5, 3) := by decide +kernel
theorem d_L_law_215 : decode b_L_law 215 = .ok (.iconst 0, 1) := by decide +kernel
theorem d_L_law_216 : decode b_L_law 216 = .ok (.ireturn, 1) := by decide +kernel
theorem d_L_law_217 : decode b_L_law 217 = .ok (.goto 764, 3) := by decide +kernel
theorem d_L_law_220 : decode b_L_law 220 = .ok (.aload_n 1, 1) := by decide +kernel
theorem d_L_law_221 : decode b_L_law 221 = .ok (.aload_n 0, 1) := by decide +kernel
theorem d_L_law_222 : decode b_L_law 222 = .ok (.iload 4, 2) := by decide +kernel
theorem d_L_law_224 : decode b_L_law 224 = .ok (.iconst 1, 1) := by decide +kernel
theorem d_L_law_225 : decode b_L_law 225 = .ok (.iadd, 1) := by decide +kernel
theorem d_L_law_226 : decode b_L_law 226 = .ok (.iaload, 1) := by decide +kernel
theorem d_L_law_227 : decode b_L_law 227 = .ok (.invokestatic 88, 3) := by decide +kernel
theorem d_L_law_230 : decode b_L_law 230 = .ok (.istore 5, 2) := by decide +kernel
theorem d_L_law_232 : decode b_L_law 232 = .ok (.aload_n 2, 1) := by decide +kernel
theorem d_L_law_233 : decode b_L_law 233 = .ok (.aload_n 0, 1) := by decide +kernel
theorem d_L_law_234 : decode b_L_law 234 = .ok (.iload 4, 2) := by decide +kernel
theorem d_L_law_236 : decode b_L_law 236 = .ok (.iconst 1, 1) := by decide +kernel
theorem d_L_law_237 : decode b_L_law 237 = .ok (.iadd, 1) := by decide +kernel
theorem d_L_law_238 : decode b_L_law 238 = .ok (.iaload, 1) := by decide +kernel
theorem d_L_law_239 : decode b_L_law 239 = .ok (.invokevirtual 90, 3) := by decide +kernel
theorem d_L_law_242 : decode b_L_law 242 = .ok (.aload_n 2, 1) := by decide +kernel
theorem d_L_law_243 : decode b_L_law 243 = .ok (.invokevirtual 81, 3) := by decide +kernel
theorem d_L_law_246 : decode b_L_law 246 = .ok (.iload 5, 2) := by decide +kernel
theorem d_L_law_248 : decode b_L_law 248 = .ok (.if_icmp .eq 5, 3) := by decide +kernel
theorem d_L_law_251 : decode b_L_law 251 = .ok (.iconst 0, 1) := by decide +kernel
theorem d_L_law_252 : decode b_L_law 252 = .ok (.ireturn, 1) := by decide +kernel
theorem d_L_law_253 : decode b_L_law 253 = .ok (.goto 728, 3) := by decide +kernel
theorem d_L_law_256 : decode b_L_law 256 = .ok (.aload_n 1, 1) := by decide +kernel
theorem d_L_law_257 : decode b_L_law 257 = .ok (.invokestatic 91, 3) := by decide +kernel
theorem d_L_law_260 : decode b_L_law 260 = .ok (.istore 5, 2) := by decide +kernel
theorem d_L_law_262 : decode b_L_law 262 = .ok (.aload_n 2, 1) := by decide +kernel
theorem d_L_law_263 : decode b_L_law 263 = .ok (.invokevirtual 94, 3) := by decide +kernel
theorem d_L_law_266 : decode b_L_law 266 = .ok (.aload_n 2, 1) := by decide +kernel
theorem d_L_law_267 : decode b_L_law 267 = .ok (.invokevirtual 81, 3) := by decide +kernel
theorem d_L_law_270 : decode b_L_law 270 = .ok (.iload 5, 2) := by decide +kernel
theorem d_L_law_272 : decode b_L_law 272 = .ok (.if_icmp .eq 5, 3) := by decide +kernel
theorem d_L_law_275 : decode b_L_law 275 = .ok (.iconst 0, 1) := by decide +kernel
theorem d_L_law_276 : decode b_L_law 276 = .ok (.ireturn, 1) := by decide +kernel
theorem d_L_law_277 : decode b_L_law 277 = .ok (.goto 704, 3) := by decide +kernel
theorem d_L_law_280 : decode b_L_law 280 = .ok (.aload_n 1, 1) := by decide +kernel
theorem d_L_law_281 : decode b_L_law 281 = .ok (.aload_n 0, 1) := by decide +kernel
theorem d_L_law_282 : decode b_L_law 282 = .ok (.iload 4, 2) := by decide +kernel
theorem d_L_law_284 : decode b_L_law 284 = .ok (.iconst 1, 1) := by decide +kernel
theorem d_L_law_285 : decode b_L_law 285 = .ok (.iadd, 1) := by decide +kernel
theorem d_L_law_286 : decode b_L_law 286 = .ok (.iaload, 1) := by decide +kernel
theorem d_L_law_287 : decode b_L_law 287 = .ok (.aload_n 3, 1) := by decide +kernel
theorem d_L_law_288 : decode b_L_law 288 = .ok (.invokestatic 95, 3) := by decide +kernel
theorem d_L_law_291 : decode b_L_law 291 = .ok (.istore 5, 2) := by decide +kernel
theorem d_L_law_293 : decode b_L_law 293 = .ok (.aload_n 2, 1) := by decide +kernel
theorem d_L_law_294 : decode b_L_law 294 = .ok (.aload_n 0, 1) := by decide +kernel
theorem d_L_law_295 : decode b_L_law 295 = .ok (.iload 4, 2) := by decide +kernel
theorem d_L_law_297 : decode b_L_law 297 = .ok (.iconst 1, 1) := by decide +kernel
theorem d_L_law_298 : decode b_L_law 298 = .ok (.iadd, 1) := by decide +kernel
theorem d_L_law_299 : decode b_L_law 299 = .ok (.iaload, 1) := by decide +kernel
theorem d_L_law_300 : decode b_L_law 300 = .ok (.invokevirtual 98, 3) := by decide +kernel
theorem d_L_law_303 : decode b_L_law 303 = .ok (.istore 6, 2) := by decide +kernel
theorem d_L_law_305 : decode b_L_law 305 = .ok (.aload_n 2, 1) := by decide +kernel
theorem d_L_law_306 : decode b_L_law 306 = .ok (.invokevirtual 81, 3) := by decide +kernel
theorem d_L_law_309 : decode b_L_law 309 = .ok (.iload 5, 2) := by decide +kernel
theorem d_L_law_311 : decode b_L_law 311 = .ok (.if_icmp .eq 5, 3) := by decide +kernel
theorem d_L_law_314 : decode b_L_law 314 = .ok (.iconst 0, 1) := by decide +kernel
theorem d_L_law_315 : decode b_L_law 315 = .ok (.ireturn, 1) := by decide +kernel
theorem d_L_law_316 : decode b_L_law 316 = .ok (.iload 5, 2) := by decide +kernel
theorem d_L_law_318 : decode b_L_law 318 = .ok (.ifCond .ne 22, 3) := by decide +kernel
theorem d_L_law_321 : decode b_L_law 321 = .ok (.aload_n 3, 1) := by decide +kernel
theorem d_L_law_322 : decode b_L_law 322 = .ok (.iconst 0, 1) := by decide +kernel
theorem d_L_law_323 : decode b_L_law 323 = .ok (.laload, 1) := by decide +kernel
theorem d_L_law_324 : decode b_L_law 324 = .ok (.iload 6, 2) := by decide +kernel
theorem d_L_law_326 : decode b_L_law 326 = .ok (.ifCond .eq 7, 3) := by decide +kernel
theorem d_L_law_329 : decode b_L_law 329 = .ok (.lconst 1, 1) := by decide +kernel
theorem d_L_law_330 : decode b_L_law 330 = .ok (.goto 4, 3) := by decide +kernel
theorem d_L_law_333 : decode b_L_law 333 = .ok (.lconst 0, 1) := by decide +kernel
theorem d_L_law_334 : decode b_L_law 334 = .ok (.lcmp, 1) := by decide +kernel
theorem d_L_law_335 : decode b_L_law 335 = .ok (.ifCond .eq 5, 3) := by decide +kernel
theorem d_L_law_338 : decode b_L_law 338 = .ok (.iconst 0, 1) := by decide +kernel
theorem d_L_law_339 : decode b_L_law 339 = .ok (.ireturn, 1) := by decide +kernel
theorem d_L_law_340 : decode b_L_law 340 = .ok (.goto 641, 3) := by decide +kernel
theorem d_L_law_343 : decode b_L_law 343 = .ok (.aload_n 1, 1) := by decide +kernel
theorem d_L_law_344 : decode b_L_law 344 = .ok (.invokevirtual 99, 3) := by decide +kernel
theorem d_L_law_347 : decode b_L_law 347 = .ok (.aload_n 2, 1) := by decide +kernel
theorem d_L_law_348 : decode b_L_law 348 = .ok (.invokevirtual 102, 3) := by decide +kernel
theorem d_L_law_351 : decode b_L_law 351 = .ok (.if_icmp .eq 630, 3) := by decide +kernel
theorem d_L_law_354 : decode b_L_law 354 = .ok (.iconst 0, 1) := by decide +kernel
theorem d_L_law_355 : decode b_L_law 355 = .ok (.ireturn, 1) := by decide +kernel
theorem d_L_law_356 : decode b_L_law 356 = .ok (.aload_n 1, 1) := by decide +kernel
theorem d_L_law_357 : decode b_L_law 357 = .ok (.aload_n 0, 1) := by decide +kernel
theorem d_L_law_358 : decode b_L_law 358 = .ok (.iload 4, 2) := by decide +kernel
theorem d_L_law_360 : decode b_L_law 360 = .ok (.iconst 1, 1) := by decide +kernel
theorem d_L_law_361 : decode b_L_law 361 = .ok (.iadd, 1) := by decide +kernel
theorem d_L_law_362 : decode b_L_law 362 = .ok (.iaload, 1) := by decide +kernel
theorem d_L_law_363 : decode b_L_law 363 = .ok (.invokestatic 103, 3) := by decide +kernel
theorem d_L_law_366 : decode b_L_law 366 = .ok (.istore 5, 2) := by decide +kernel
theorem d_L_law_368 : decode b_L_law 368 = .ok (.aload_n 2, 1) := by decide +kernel
theorem d_L_law_369 : decode b_L_law 369 = .ok (.aload_n 0, 1) := by decide +kernel
theorem d_L_law_370 : decode b_L_law 370 = .ok (.iload 4, 2) := by decide +kernel
theorem d_L_law_372 : decode b_L_law 372 = .ok (.iconst 1, 1) := by decide +kernel
theorem d_L_law_373 : decode b_L_law 373 = .ok (.iadd, 1) := by decide +kernel
theorem d_L_law_374 : decode b_L_law 374 = .ok (.iaload, 1) := by decide +kernel
theorem d_L_law_375 : decode b_L_law 375 = .ok (.invokevirtual 105, 3) := by decide +kernel
theorem d_L_law_378 : decode b_L_law 378 = .ok (.aload_n 2, 1) := by decide +kernel
theorem d_L_law_379 : decode b_L_law 379 = .ok (.invokevirtual 81, 3) := by decide +kernel
theorem d_L_law_382 : decode b_L_law 382 = .ok (.iload 5, 2) := by decide +kernel
theorem d_L_law_384 : decode b_L_law 384 = .ok (.if_icmp .eq 5, 3) := by decide +kernel
theorem d_L_law_387 : decode b_L_law 387 = .ok (.iconst 0, 1) := by decide +kernel
theorem d_L_law_388 : decode b_L_law 388 = .ok (.ireturn, 1) := by decide +kernel
theorem d_L_law_389 : decode b_L_law 389 = .ok (.goto 592, 3) := by decide +kernel
theorem d_L_law_392 : decode b_L_law 392 = .ok (.aload_n 1, 1) := by decide +kernel
theorem d_L_law_393 : decode b_L_law 393 = .ok (.aload_n 0, 1) := by decide +kernel
theorem d_L_law_394 : decode b_L_law 394 = .ok (.iload 4, 2) := by decide +kernel
theorem d_L_law_396 : decode b_L_law 396 = .ok (.iconst 1, 1) := by decide +kernel
theorem d_L_law_397 : decode b_L_law 397 = .ok (.iadd, 1) := by decide +kernel
theorem d_L_law_398 : decode b_L_law 398 = .ok (.iaload, 1) := by decide +kernel
theorem d_L_law_399 : decode b_L_law 399 = .ok (.invokestatic 106, 3) := by decide +kernel
theorem d_L_law_402 : decode b_L_law 402 = .ok (.istore 5, 2) := by decide +kernel
theorem d_L_law_404 : decode b_L_law 404 = .ok (.aload_n 2, 1) := by decide +kernel
theorem d_L_law_405 : decode b_L_law 405 = .ok (.aload_n 0, 1) := by decide +kernel
theorem d_L_law_406 : decode b_L_law 406 = .ok (.iload 4, 2) := by decide +kernel
theorem d_L_law_408 : decode b_L_law 408 = .ok (.iconst 1, 1) := by decide +kernel
theorem d_L_law_409 : decode b_L_law 409 = .ok (.iadd, 1) := by decide +kernel
theorem d_L_law_410 : decode b_L_law 410 = .ok (.iaload, 1) := by decide +kernel
theorem d_L_law_411 : decode b_L_law 411 = .ok (.invokevirtual 108, 3) := by decide +kernel
theorem d_L_law_414 : decode b_L_law 414 = .ok (.aload_n 2, 1) := by decide +kernel
theorem d_L_law_415 : decode b_L_law 415 = .ok (.invokevirtual 81, 3) := by decide +kernel
theorem d_L_law_418 : decode b_L_law 418 = .ok (.iload 5, 2) := by decide +kernel
theorem d_L_law_420 : decode b_L_law 420 = .ok (.if_icmp .eq 5, 3) := by decide +kernel
theorem d_L_law_423 : decode b_L_law 423 = .ok (.iconst 0, 1) := by decide +kernel
theorem d_L_law_424 : decode b_L_law 424 = .ok (.ireturn, 1) := by decide +kernel
theorem d_L_law_425 : decode b_L_law 425 = .ok (.goto 556, 3) := by decide +kernel
theorem d_L_law_428 : decode b_L_law 428 = .ok (.aload_n 1, 1) := by decide +kernel
theorem d_L_law_429 : decode b_L_law 429 = .ok (.aload_n 3, 1) := by decide +kernel
theorem d_L_law_430 : decode b_L_law 430 = .ok (.invokestatic 109, 3) := by decide +kernel
theorem d_L_law_433 : decode b_L_law 433 = .ok (.istore 5, 2) := by decide +kernel
theorem d_L_law_435 : decode b_L_law 435 = .ok (.aload_n 2, 1) := by decide +kernel
theorem d_L_law_436 : decode b_L_law 436 = .ok (.invokevirtual 112, 3) := by decide +kernel
theorem d_L_law_439 : decode b_L_law 439 = .ok (.istore 6, 2) := by decide +kernel
theorem d_L_law_441 : decode b_L_law 441 = .ok (.aload_n 2, 1) := by decide +kernel
theorem d_L_law_442 : decode b_L_law 442 = .ok (.invokevirtual 81, 3) := by decide +kernel
theorem d_L_law_445 : decode b_L_law 445 = .ok (.iload 5, 2) := by decide +kernel
theorem d_L_law_447 : decode b_L_law 447 = .ok (.if_icmp .eq 5, 3) := by decide +kernel
theorem d_L_law_450 : decode b_L_law 450 = .ok (.iconst 0, 1) := by decide +kernel
theorem d_L_law_451 : decode b_L_law 451 = .ok (.ireturn, 1) := by decide +kernel
theorem d_L_law_452 : decode b_L_law 452 = .ok (.iload 5, 2) := by decide +kernel
theorem d_L_law_454 : decode b_L_law 454 = .ok (.ifCond .ne 15, 3) := by decide +kernel
theorem d_L_law_457 : decode b_L_law 457 = .ok (.aload_n 3, 1) := by decide +kernel
theorem d_L_law_458 : decode b_L_law 458 = .ok (.iconst 0, 1) := by decide +kernel
theorem d_L_law_459 : decode b_L_law 459 = .ok (.laload, 1) := by decide +kernel
theorem d_L_law_460 : decode b_L_law 460 = .ok (.iload 6, 2) := by decide +kernel
theorem d_L_law_462 : decode b_L_law 462 = .ok (.i2l, 1) := by decide +kernel
theorem d_L_law_463 : decode b_L_law 463 = .ok (.lcmp, 1) := by decide +kernel
theorem d_L_law_464 : decode b_L_law 464 = .ok (.ifCond .eq 5, 3) := by decide +kernel
theorem d_L_law_467 : decode b_L_law 467 = .ok (.iconst 0, 1) := by decide +kernel
theorem d_L_law_468 : decode b_L_law 468 = .ok (.ireturn, 1) := by decide +kernel
theorem d_L_law_469 : decode b_L_law 469 = .ok (.goto 512, 3) := by decide +kernel
theorem d_L_law_472 : decode b_L_law 472 = .ok (.aload_n 1, 1) := by decide +kernel
theorem d_L_law_473 : decode b_L_law 473 = .ok (.invokevirtual 113, 3) := by decide +kernel
theorem d_L_law_476 : decode b_L_law 476 = .ok (.aload_n 2, 1) := by decide +kernel
theorem d_L_law_477 : decode b_L_law 477 = .ok (.invokevirtual 117, 3) := by decide +kernel
theorem d_L_law_480 : decode b_L_law 480 = .ok (.if_icmp .eq 501, 3) := by decide +kernel
theorem d_L_law_483 : decode b_L_law 483 = .ok (.iconst 0, 1) := by decide +kernel
theorem d_L_law_484 : decode b_L_law 484 = .ok (.ireturn, 1) := by decide +kernel
theorem d_L_law_485 : decode b_L_law 485 = .ok (.aload_n 1, 1) := by decide +kernel
theorem d_L_law_486 : decode b_L_law 486 = .ok (.aload_n 0, 1) := by decide +kernel
theorem d_L_law_487 : decode b_L_law 487 = .ok (.iload 4, 2) := by decide +kernel
theorem d_L_law_489 : decode b_L_law 489 = .ok (.iconst 1, 1) := by decide +kernel
theorem d_L_law_490 : decode b_L_law 490 = .ok (.iadd, 1) := by decide +kernel
theorem d_L_law_491 : decode b_L_law 491 = .ok (.iaload, 1) := by decide +kernel
theorem d_L_law_492 : decode b_L_law 492 = .ok (.aload_n 0, 1) := by decide +kernel
theorem d_L_law_493 : decode b_L_law 493 = .ok (.iload 4, 2) := by decide +kernel
theorem d_L_law_495 : decode b_L_law 495 = .ok (.iconst 2, 1) := by decide +kernel
theorem d_L_law_496 : decode b_L_law 496 = .ok (.iadd, 1) := by decide +kernel
theorem d_L_law_497 : decode b_L_law 497 = .ok (.iaload, 1) := by decide +kernel
theorem d_L_law_498 : decode b_L_law 498 = .ok (.ifCond .eq 7, 3) := by decide +kernel
theorem d_L_law_501 : decode b_L_law 501 = .ok (.iconst 1, 1) := by decide +kernel
theorem d_L_law_502 : decode b_L_law 502 = .ok (.goto 4, 3) := by decide +kernel
theorem d_L_law_505 : decode b_L_law 505 = .ok (.iconst 0, 1) := by decide +kernel
theorem d_L_law_506 : decode b_L_law 506 = .ok (.invokestatic 118, 3) := by decide +kernel
theorem d_L_law_509 : decode b_L_law 509 = .ok (.istore 5, 2) := by decide +kernel
theorem d_L_law_511 : decode b_L_law 511 = .ok (.aload_n 2, 1) := by decide +kernel
theorem d_L_law_512 : decode b_L_law 512 = .ok (.aload_n 0, 1) := by decide +kernel
theorem d_L_law_513 : decode b_L_law 513 = .ok (.iload 4, 2) := by decide +kernel
theorem d_L_law_515 : decode b_L_law 515 = .ok (.iconst 1, 1) := by decide +kernel
theorem d_L_law_516 : decode b_L_law 516 = .ok (.iadd, 1) := by decide +kernel
theorem d_L_law_517 : decode b_L_law 517 = .ok (.iaload, 1) := by decide +kernel
theorem d_L_law_518 : decode b_L_law 518 = .ok (.aload_n 0, 1) := by decide +kernel
theorem d_L_law_519 : decode b_L_law 519 = .ok (.iload 4, 2) := by decide +kernel
theorem d_L_law_521 : decode b_L_law 521 = .ok (.iconst 2, 1) := by decide +kernel
theorem d_L_law_522 : decode b_L_law 522 = .ok (.iadd, 1) := by decide +kernel
theorem d_L_law_523 : decode b_L_law 523 = .ok (.iaload, 1) := by decide +kernel
theorem d_L_law_524 : decode b_L_law 524 = .ok (.ifCond .eq 7, 3) := by decide +kernel
theorem d_L_law_527 : decode b_L_law 527 = .ok (.iconst 1, 1) := by decide +kernel
theorem d_L_law_528 : decode b_L_law 528 = .ok (.goto 4, 3) := by decide +kernel
theorem d_L_law_531 : decode b_L_law 531 = .ok (.iconst 0, 1) := by decide +kernel
theorem d_L_law_532 : decode b_L_law 532 = .ok (.invokevirtual 121, 3) := by decide +kernel
theorem d_L_law_535 : decode b_L_law 535 = .ok (.aload_n 2, 1) := by decide +kernel
theorem d_L_law_536 : decode b_L_law 536 = .ok (.invokevirtual 81, 3) := by decide +kernel
theorem d_L_law_539 : decode b_L_law 539 = .ok (.iload 5, 2) := by decide +kernel
theorem d_L_law_541 : decode b_L_law 541 = .ok (.if_icmp .eq 5, 3) := by decide +kernel
theorem d_L_law_544 : decode b_L_law 544 = .ok (.iconst 0, 1) := by decide +kernel
theorem d_L_law_545 : decode b_L_law 545 = .ok (.ireturn, 1) := by decide +kernel
theorem d_L_law_546 : decode b_L_law 546 = .ok (.goto 435, 3) := by decide +kernel
theorem d_L_law_549 : decode b_L_law 549 = .ok (.aload_n 1, 1) := by decide +kernel
theorem d_L_law_550 : decode b_L_law 550 = .ok (.aload_n 0, 1) := by decide +kernel
theorem d_L_law_551 : decode b_L_law 551 = .ok (.iload 4, 2) := by decide +kernel
theorem d_L_law_553 : decode b_L_law 553 = .ok (.iconst 1, 1) := by decide +kernel
theorem d_L_law_554 : decode b_L_law 554 = .ok (.iadd, 1) := by decide +kernel
theorem d_L_law_555 : decode b_L_law 555 = .ok (.iaload, 1) := by decide +kernel
theorem d_L_law_556 : decode b_L_law 556 = .ok (.aload_n 0, 1) := by decide +kernel
theorem d_L_law_557 : decode b_L_law 557 = .ok (.iload 4, 2) := by decide +kernel
theorem d_L_law_559 : decode b_L_law 559 = .ok (.iconst 2, 1) := by decide +kernel
theorem d_L_law_560 : decode b_L_law 560 = .ok (.iadd, 1) := by decide +kernel
theorem d_L_law_561 : decode b_L_law 561 = .ok (.iaload, 1) := by decide +kernel
theorem d_L_law_562 : decode b_L_law 562 = .ok (.aload_n 0, 1) := by decide +kernel
theorem d_L_law_563 : decode b_L_law 563 = .ok (.iload 4, 2) := by decide +kernel
theorem d_L_law_565 : decode b_L_law 565 = .ok (.iconst 3, 1) := by decide +kernel
theorem d_L_law_566 : decode b_L_law 566 = .ok (.iadd, 1) := by decide +kernel
theorem d_L_law_567 : decode b_L_law 567 = .ok (.iaload, 1) := by decide +kernel
theorem d_L_law_568 : decode b_L_law 568 = .ok (.aload_n 3, 1) := by decide +kernel
theorem d_L_law_569 : decode b_L_law 569 = .ok (.invokestatic 122, 3) := by decide +kernel
theorem d_L_law_572 : decode b_L_law 572 = .ok (.istore 5, 2) := by decide +kernel
theorem d_L_law_574 : decode b_L_law 574 = .ok (.aload_n 2, 1) := by decide +kernel
theorem d_L_law_575 : decode b_L_law 575 = .ok (.aload_n 0, 1) := by decide +kernel
theorem d_L_law_576 : decode b_L_law 576 = .ok (.iload 4, 2) := by decide +kernel
theorem d_L_law_578 : decode b_L_law 578 = .ok (.iconst 1, 1) := by decide +kernel
theorem d_L_law_579 : decode b_L_law 579 = .ok (.iadd, 1) := by decide +kernel
theorem d_L_law_580 : decode b_L_law 580 = .ok (.iaload, 1) := by decide +kernel
theorem d_L_law_581 : decode b_L_law 581 = .ok (.aload_n 0, 1) := by decide +kernel
theorem d_L_law_582 : decode b_L_law 582 = .ok (.iload 4, 2) := by decide +kernel
theorem d_L_law_584 : decode b_L_law 584 = .ok (.iconst 2, 1) := by decide +kernel
theorem d_L_law_585 : decode b_L_law 585 = .ok (.iadd, 1) := by decide +kernel
theorem d_L_law_586 : decode b_L_law 586 = .ok (.iaload, 1) := by decide +kernel
theorem d_L_law_587 : decode b_L_law 587 = .ok (.aload_n 0, 1) := by decide +kernel
theorem d_L_law_588 : decode b_L_law 588 = .ok (.iload 4, 2) := by decide +kernel
theorem d_L_law_590 : decode b_L_law 590 = .ok (.iconst 3, 1) := by decide +kernel
theorem d_L_law_591 : decode b_L_law 591 = .ok (.iadd, 1) := by decide +kernel
theorem d_L_law_592 : decode b_L_law 592 = .ok (.iaload, 1) := by decide +kernel
theorem d_L_law_593 : decode b_L_law 593 = .ok (.invokevirtual 125, 3) := by decide +kernel
theorem d_L_law_596 : decode b_L_law 596 = .ok (.istore 6, 2) := by decide +kernel
theorem d_L_law_598 : decode b_L_law 598 = .ok (.aload_n 2, 1) := by decide +kernel
theorem d_L_law_599 : decode b_L_law 599 = .ok (.invokevirtual 81, 3) := by decide +kernel
theorem d_L_law_602 : decode b_L_law 602 = .ok (.iload 5, 2) := by decide +kernel
theorem d_L_law_604 : decode b_L_law 604 = .ok (.if_icmp .eq 5, 3) := by decide +kernel
theorem d_L_law_607 : decode b_L_law 607 = .ok (.iconst 0, 1) := by decide +kernel
theorem d_L_law_608 : decode b_L_law 608 = .ok (.ireturn, 1) := by decide +kernel
theorem d_L_law_609 : decode b_L_law 609 = .ok (.iload 5, 2) := by decide +kernel
theorem d_L_law_611 : decode b_L_law 611 = .ok (.ifCond .ne 22, 3) := by decide +kernel
theorem d_L_law_614 : decode b_L_law 614 = .ok (.aload_n 3, 1) := by decide +kernel
theorem d_L_law_615 : decode b_L_law 615 = .ok (.iconst 0, 1) := by decide +kernel
theorem d_L_law_616 : decode b_L_law 616 = .ok (.laload, 1) := by decide +kernel
theorem d_L_law_617 : decode b_L_law 617 = .ok (.iload 6, 2) := by decide +kernel
theorem d_L_law_619 : decode b_L_law 619 = .ok (.ifCond .eq 7, 3) := by decide +kernel
theorem d_L_law_622 : decode b_L_law 622 = .ok (.lconst 1, 1) := by decide +kernel
theorem d_L_law_623 : decode b_L_law 623 = .ok (.goto 4, 3) := by decide +kernel
theorem d_L_law_626 : decode b_L_law 626 = .ok (.lconst 0, 1) := by decide +kernel
theorem d_L_law_627 : decode b_L_law 627 = .ok (.lcmp, 1) := by decide +kernel
theorem d_L_law_628 : decode b_L_law 628 = .ok (.ifCond .eq 5, 3) := by decide +kernel
theorem d_L_law_631 : decode b_L_law 631 = .ok (.iconst 0, 1) := by decide +kernel
theorem d_L_law_632 : decode b_L_law 632 = .ok (.ireturn, 1) := by decide +kernel
theorem d_L_law_633 : decode b_L_law 633 = .ok (.goto 348, 3) := by decide +kernel
theorem d_L_law_636 : decode b_L_law 636 = .ok (.aload_n 1, 1) := by decide +kernel
theorem d_L_law_637 : decode b_L_law 637 = .ok (.aload_n 0, 1) := by decide +kernel
theorem d_L_law_638 : decode b_L_law 638 = .ok (.iload 4, 2) := by decide +kernel
theorem d_L_law_640 : decode b_L_law 640 = .ok (.iconst 1, 1) := by decide +kernel
theorem d_L_law_641 : decode b_L_law 641 = .ok (.iadd, 1) := by decide +kernel
theorem d_L_law_642 : decode b_L_law 642 = .ok (.iaload, 1) := by decide +kernel
theorem d_L_law_643 : decode b_L_law 643 = .ok (.aload_n 0, 1) := by decide +kernel
theorem d_L_law_644 : decode b_L_law 644 = .ok (.iload 4, 2) := by decide +kernel
theorem d_L_law_646 : decode b_L_law 646 = .ok (.iconst 2, 1) := by decide +kernel
theorem d_L_law_647 : decode b_L_law 647 = .ok (.iadd, 1) := by decide +kernel
theorem d_L_law_648 : decode b_L_law 648 = .ok (.iaload, 1) := by decide +kernel
theorem d_L_law_649 : decode b_L_law 649 = .ok (.ifCond .eq 7, 3) := by decide +kernel
theorem d_L_law_652 : decode b_L_law 652 = .ok (.iconst 1, 1) := by decide +kernel
theorem d_L_law_653 : decode b_L_law 653 = .ok (.goto 4, 3) := by decide +kernel
theorem d_L_law_656 : decode b_L_law 656 = .ok (.iconst 0, 1) := by decide +kernel
theorem d_L_law_657 : decode b_L_law 657 = .ok (.aload_n 3, 1) := by decide +kernel
theorem d_L_law_658 : decode b_L_law 658 = .ok (.invokestatic 126, 3) := by decide +kernel
theorem d_L_law_661 : decode b_L_law 661 = .ok (.istore 5, 2) := by decide +kernel
theorem d_L_law_663 : decode b_L_law 663 = .ok (.aload_n 2, 1) := by decide +kernel
theorem d_L_law_664 : decode b_L_law 664 = .ok (.aload_n 0, 1) := by decide +kernel
theorem d_L_law_665 : decode b_L_law 665 = .ok (.iload 4, 2) := by decide +kernel
theorem d_L_law_667 : decode b_L_law 667 = .ok (.iconst 1, 1) := by decide +kernel
theorem d_L_law_668 : decode b_L_law 668 = .ok (.iadd, 1) := by decide +kernel
theorem d_L_law_669 : decode b_L_law 669 = .ok (.iaload, 1) := by decide +kernel
theorem d_L_law_670 : decode b_L_law 670 = .ok (.aload_n 0, 1) := by decide +kernel
theorem d_L_law_671 : decode b_L_law 671 = .ok (.iload 4, 2) := by decide +kernel
theorem d_L_law_673 : decode b_L_law 673 = .ok (.iconst 2, 1) := by decide +kernel
theorem d_L_law_674 : decode b_L_law 674 = .ok (.iadd, 1) := by decide +kernel
theorem d_L_law_675 : decode b_L_law 675 = .ok (.iaload, 1) := by decide +kernel
theorem d_L_law_676 : decode b_L_law 676 = .ok (.ifCond .eq 7, 3) := by decide +kernel
theorem d_L_law_679 : decode b_L_law 679 = .ok (.iconst 1, 1) := by decide +kernel
theorem d_L_law_680 : decode b_L_law 680 = .ok (.goto 4, 3) := by decide +kernel
theorem d_L_law_683 : decode b_L_law 683 = .ok (.iconst 0, 1) := by decide +kernel
theorem d_L_law_684 : decode b_L_law 684 = .ok (.invokevirtual 129, 3) := by decide +kernel
theorem d_L_law_687 : decode b_L_law 687 = .ok (.istore 6, 2) := by decide +kernel
theorem d_L_law_689 : decode b_L_law 689 = .ok (.aload_n 2, 1) := by decide +kernel
theorem d_L_law_690 : decode b_L_law 690 = .ok (.invokevirtual 81, 3) := by decide +kernel
theorem d_L_law_693 : decode b_L_law 693 = .ok (.iload 5, 2) := by decide +kernel
theorem d_L_law_695 : decode b_L_law 695 = .ok (.if_icmp .eq 5, 3) := by decide +kernel
theorem d_L_law_698 : decode b_L_law 698 = .ok (.iconst 0, 1) := by decide +kernel
theorem d_L_law_699 : decode b_L_law 699 = .ok (.ireturn, 1) := by decide +kernel
theorem d_L_law_700 : decode b_L_law 700 = .ok (.iload 5, 2) := by decide +kernel
theorem d_L_law_702 : decode b_L_law 702 = .ok (.ifCond .ne 15, 3) := by decide +kernel
theorem d_L_law_705 : decode b_L_law 705 = .ok (.aload_n 3, 1) := by decide +kernel
theorem d_L_law_706 : decode b_L_law 706 = .ok (.iconst 0, 1) := by decide +kernel
theorem d_L_law_707 : decode b_L_law 707 = .ok (.laload, 1) := by decide +kernel
theorem d_L_law_708 : decode b_L_law 708 = .ok (.iload 6, 2) := by decide +kernel
theorem d_L_law_710 : decode b_L_law 710 = .ok (.i2l, 1) := by decide +kernel
theorem d_L_law_711 : decode b_L_law 711 = .ok (.lcmp, 1) := by decide +kernel
theorem d_L_law_712 : decode b_L_law 712 = .ok (.ifCond .eq 5, 3) := by decide +kernel
theorem d_L_law_715 : decode b_L_law 715 = .ok (.iconst 0, 1) := by decide +kernel
theorem d_L_law_716 : decode b_L_law 716 = .ok (.ireturn, 1) := by decide +kernel
theorem d_L_law_717 : decode b_L_law 717 = .ok (.goto 264, 3) := by decide +kernel
theorem d_L_law_720 : decode b_L_law 720 = .ok (.aload_n 1, 1) := by decide +kernel
theorem d_L_law_721 : decode b_L_law 721 = .ok (.aload_n 0, 1) := by decide +kernel
theorem d_L_law_722 : decode b_L_law 722 = .ok (.iload 4, 2) := by decide +kernel
theorem d_L_law_724 : decode b_L_law 724 = .ok (.iconst 1, 1) := by decide +kernel
theorem d_L_law_725 : decode b_L_law 725 = .ok (.iadd, 1) := by decide +kernel
theorem d_L_law_726 : decode b_L_law 726 = .ok (.iaload, 1) := by decide +kernel
theorem d_L_law_727 : decode b_L_law 727 = .ok (.aload_n 3, 1) := by decide +kernel
theorem d_L_law_728 : decode b_L_law 728 = .ok (.invokestatic 130, 3) := by decide +kernel
theorem d_L_law_731 : decode b_L_law 731 = .ok (.istore 5, 2) := by decide +kernel
theorem d_L_law_733 : decode b_L_law 733 = .ok (.aload_n 2, 1) := by decide +kernel
theorem d_L_law_734 : decode b_L_law 734 = .ok (.aload_n 0, 1) := by decide +kernel
theorem d_L_law_735 : decode b_L_law 735 = .ok (.iload 4, 2) := by decide +kernel
theorem d_L_law_737 : decode b_L_law 737 = .ok (.iconst 1, 1) := by decide +kernel
theorem d_L_law_738 : decode b_L_law 738 = .ok (.iadd, 1) := by decide +kernel
theorem d_L_law_739 : decode b_L_law 739 = .ok (.iaload, 1) := by decide +kernel
theorem d_L_law_740 : decode b_L_law 740 = .ok (.invokevirtual 132, 3) := by decide +kernel
theorem d_L_law_743 : decode b_L_law 743 = .ok (.istore 6, 2) := by decide +kernel
theorem d_L_law_745 : decode b_L_law 745 = .ok (.aload_n 2, 1) := by decide +kernel
theorem d_L_law_746 : decode b_L_law 746 = .ok (.invokevirtual 81, 3) := by decide +kernel
theorem d_L_law_749 : decode b_L_law 749 = .ok (.iload 5, 2) := by decide +kernel
theorem d_L_law_751 : decode b_L_law 751 = .ok (.if_icmp .eq 5, 3) := by decide +kernel
theorem d_L_law_754 : decode b_L_law 754 = .ok (.iconst 0, 1) := by decide +kernel
theorem d_L_law_755 : decode b_L_law 755 = .ok (.ireturn, 1) := by decide +kernel
theorem d_L_law_756 : decode b_L_law 756 = .ok (.iload 5, 2) := by decide +kernel
theorem d_L_law_758 : decode b_L_law 758 = .ok (.ifCond .ne 15, 3) := by decide +kernel
theorem d_L_law_761 : decode b_L_law 761 = .ok (.aload_n 3, 1) := by decide +kernel
theorem d_L_law_762 : decode b_L_law 762 = .ok (.iconst 0, 1) := by decide +kernel
theorem d_L_law_763 : decode b_L_law 763 = .ok (.laload, 1) := by decide +kernel
theorem d_L_law_764 : decode b_L_law 764 = .ok (.iload 6, 2) := by decide +kernel
theorem d_L_law_766 : decode b_L_law 766 = .ok (.i2l, 1) := by decide +kernel
theorem d_L_law_767 : decode b_L_law 767 = .ok (.lcmp, 1) := by decide +kernel
theorem d_L_law_768 : decode b_L_law 768 = .ok (.ifCond .eq 5, 3) := by decide +kernel
theorem d_L_law_771 : decode b_L_law 771 = .ok (.iconst 0, 1) := by decide +kernel
theorem d_L_law_772 : decode b_L_law 772 = .ok (.ireturn, 1) := by decide +kernel
theorem d_L_law_773 : decode b_L_law 773 = .ok (.goto 208, 3) := by decide +kernel
theorem d_L_law_776 : decode b_L_law 776 = .ok (.aload_n 1, 1) := by decide +kernel
theorem d_L_law_777 : decode b_L_law 777 = .ok (.aload_n 0, 1) := by decide +kernel
theorem d_L_law_778 : decode b_L_law 778 = .ok (.iload 4, 2) := by decide +kernel
theorem d_L_law_780 : decode b_L_law 780 = .ok (.iconst 1, 1) := by decide +kernel
theorem d_L_law_781 : decode b_L_law 781 = .ok (.iadd, 1) := by decide +kernel
theorem d_L_law_782 : decode b_L_law 782 = .ok (.iaload, 1) := by decide +kernel
theorem d_L_law_783 : decode b_L_law 783 = .ok (.aload_n 3, 1) := by decide +kernel
theorem d_L_law_784 : decode b_L_law 784 = .ok (.invokestatic 133, 3) := by decide +kernel
theorem d_L_law_787 : decode b_L_law 787 = .ok (.istore 5, 2) := by decide +kernel
theorem d_L_law_789 : decode b_L_law 789 = .ok (.aload_n 2, 1) := by decide +kernel
theorem d_L_law_790 : decode b_L_law 790 = .ok (.aload_n 0, 1) := by decide +kernel
theorem d_L_law_791 : decode b_L_law 791 = .ok (.iload 4, 2) := by decide +kernel
theorem d_L_law_793 : decode b_L_law 793 = .ok (.iconst 1, 1) := by decide +kernel
theorem d_L_law_794 : decode b_L_law 794 = .ok (.iadd, 1) := by decide +kernel
theorem d_L_law_795 : decode b_L_law 795 = .ok (.iaload, 1) := by decide +kernel
theorem d_L_law_796 : decode b_L_law 796 = .ok (.invokevirtual 135, 3) := by decide +kernel
theorem d_L_law_799 : decode b_L_law 799 = .ok (.istore 6, 2) := by decide +kernel
theorem d_L_law_801 : decode b_L_law 801 = .ok (.aload_n 2, 1) := by decide +kernel
theorem d_L_law_802 : decode b_L_law 802 = .ok (.invokevirtual 81, 3) := by decide +kernel
theorem d_L_law_805 : decode b_L_law 805 = .ok (.iload 5, 2) := by decide +kernel
theorem d_L_law_807 : decode b_L_law 807 = .ok (.if_icmp .eq 5, 3) := by decide +kernel
theorem d_L_law_810 : decode b_L_law 810 = .ok (.iconst 0, 1) := by decide +kernel
theorem d_L_law_811 : decode b_L_law 811 = .ok (.ireturn, 1) := by decide +kernel
theorem d_L_law_812 : decode b_L_law 812 = .ok (.iload 5, 2) := by decide +kernel
theorem d_L_law_814 : decode b_L_law 814 = .ok (.ifCond .ne 15, 3) := by decide +kernel
theorem d_L_law_817 : decode b_L_law 817 = .ok (.aload_n 3, 1) := by decide +kernel
theorem d_L_law_818 : decode b_L_law 818 = .ok (.iconst 0, 1) := by decide +kernel
theorem d_L_law_819 : decode b_L_law 819 = .ok (.laload, 1) := by decide +kernel
theorem d_L_law_820 : decode b_L_law 820 = .ok (.iload 6, 2) := by decide +kernel
theorem d_L_law_822 : decode b_L_law 822 = .ok (.i2l, 1) := by decide +kernel
theorem d_L_law_823 : decode b_L_law 823 = .ok (.lcmp, 1) := by decide +kernel
theorem d_L_law_824 : decode b_L_law 824 = .ok (.ifCond .eq 5, 3) := by decide +kernel
theorem d_L_law_827 : decode b_L_law 827 = .ok (.iconst 0, 1) := by decide +kernel
theorem d_L_law_828 : decode b_L_law 828 = .ok (.ireturn, 1) := by decide +kernel
theorem d_L_law_829 : decode b_L_law 829 = .ok (.goto 152, 3) := by decide +kernel
theorem d_L_law_832 : decode b_L_law 832 = .ok (.aload_n 1, 1) := by decide +kernel
theorem d_L_law_833 : decode b_L_law 833 = .ok (.aload_n 0, 1) := by decide +kernel
theorem d_L_law_834 : decode b_L_law 834 = .ok (.iload 4, 2) := by decide +kernel
theorem d_L_law_836 : decode b_L_law 836 = .ok (.iconst 1, 1) := by decide +kernel
theorem d_L_law_837 : decode b_L_law 837 = .ok (.iadd, 1) := by decide +kernel
theorem d_L_law_838 : decode b_L_law 838 = .ok (.iaload, 1) := by decide +kernel
theorem d_L_law_839 : decode b_L_law 839 = .ok (.aload_n 0, 1) := by decide +kernel
theorem d_L_law_840 : decode b_L_law 840 = .ok (.iload 4, 2) := by decide +kernel
theorem d_L_law_842 : decode b_L_law 842 = .ok (.iconst 2, 1) := by decide +kernel
theorem d_L_law_843 : decode b_L_law 843 = .ok (.iadd, 1) := by decide +kernel
theorem d_L_law_844 : decode b_L_law 844 = .ok (.iaload, 1) := by decide +kernel
theorem d_L_law_845 : decode b_L_law 845 = .ok (.aload_n 3, 1) := by decide +kernel
theorem d_L_law_846 : decode b_L_law 846 = .ok (.invokestatic 136, 3) := by decide +kernel
theorem d_L_law_849 : decode b_L_law 849 = .ok (.istore 5, 2) := by decide +kernel
theorem d_L_law_851 : decode b_L_law 851 = .ok (.aload_n 2, 1) := by decide +kernel
theorem d_L_law_852 : decode b_L_law 852 = .ok (.aload_n 0, 1) := by decide +kernel
theorem d_L_law_853 : decode b_L_law 853 = .ok (.iload 4, 2) := by decide +kernel
theorem d_L_law_855 : decode b_L_law 855 = .ok (.iconst 1, 1) := by decide +kernel
theorem d_L_law_856 : decode b_L_law 856 = .ok (.iadd, 1) := by decide +kernel
theorem d_L_law_857 : decode b_L_law 857 = .ok (.iaload, 1) := by decide +kernel
theorem d_L_law_858 : decode b_L_law 858 = .ok (.aload_n 0, 1) := by decide +kernel
theorem d_L_law_859 : decode b_L_law 859 = .ok (.iload 4, 2) := by decide +kernel
theorem d_L_law_861 : decode b_L_law 861 = .ok (.iconst 2, 1) := by decide +kernel
theorem d_L_law_862 : decode b_L_law 862 = .ok (.iadd, 1) := by decide +kernel
theorem d_L_law_863 : decode b_L_law 863 = .ok (.iaload, 1) := by decide +kernel
theorem d_L_law_864 : decode b_L_law 864 = .ok (.invokevirtual 139, 3) := by decide +kernel
theorem d_L_law_867 : decode b_L_law 867 = .ok (.istore 6, 2) := by decide +kernel
theorem d_L_law_869 : decode b_L_law 869 = .ok (.aload_n 2, 1) := by decide +kernel
theorem d_L_law_870 : decode b_L_law 870 = .ok (.invokevirtual 81, 3) := by decide +kernel
theorem d_L_law_873 : decode b_L_law 873 = .ok (.iload 5, 2) := by decide +kernel
theorem d_L_law_875 : decode b_L_law 875 = .ok (.if_icmp .eq 5, 3) := by decide +kernel
theorem d_L_law_878 : decode b_L_law 878 = .ok (.iconst 0, 1) := by decide +kernel
theorem d_L_law_879 : decode b_L_law 879 = .ok (.ireturn, 1) := by decide +kernel
theorem d_L_law_880 : decode b_L_law 880 = .ok (.iload 5, 2) := by decide +kernel
theorem d_L_law_882 : decode b_L_law 882 = .ok (.ifCond .ne 15, 3) := by decide +kernel
theorem d_L_law_885 : decode b_L_law 885 = .ok (.aload_n 3, 1) := by decide +kernel
theorem d_L_law_886 : decode b_L_law 886 = .ok (.iconst 0, 1) := by decide +kernel
theorem d_L_law_887 : decode b_L_law 887 = .ok (.laload, 1) := by decide +kernel
theorem d_L_law_888 : decode b_L_law 888 = .ok (.iload 6, 2) := by decide +kernel
theorem d_L_law_890 : decode b_L_law 890 = .ok (.i2l, 1) := by decide +kernel
theorem d_L_law_891 : decode b_L_law 891 = .ok (.lcmp, 1) := by decide +kernel
theorem d_L_law_892 : decode b_L_law 892 = .ok (.ifCond .eq 5, 3) := by decide +kernel
theorem d_L_law_895 : decode b_L_law 895 = .ok (.iconst 0, 1) := by decide +kernel
theorem d_L_law_896 : decode b_L_law 896 = .ok (.ireturn, 1) := by decide +kernel
theorem d_L_law_897 : decode b_L_law 897 = .ok (.goto 84, 3) := by decide +kernel
theorem d_L_law_900 : decode b_L_law 900 = .ok (.aload_n 1, 1) := by decide +kernel
theorem d_L_law_901 : decode b_L_law 901 = .ok (.invokevirtual 140, 3) := by decide +kernel
theorem d_L_law_904 : decode b_L_law 904 = .ok (.aload_n 2, 1) := by decide +kernel
theorem d_L_law_905 : decode b_L_law 905 = .ok (.invokevirtual 143, 3) := by decide +kernel
theorem d_L_law_908 : decode b_L_law 908 = .ok (.if_icmp .eq 73, 3) := by decide +kernel
theorem d_L_law_911 : decode b_L_law 911 = .ok (.iconst 0, 1) := by decide +kernel
theorem d_L_law_912 : decode b_L_law 912 = .ok (.ireturn, 1) := by decide +kernel
theorem d_L_law_913 : decode b_L_law 913 = .ok (.aload_n 1, 1) := by decide +kernel
theorem d_L_law_914 : decode b_L_law 914 = .ok (.aload_n 0, 1) := by decide +kernel
theorem d_L_law_915 : decode b_L_law 915 = .ok (.iload 4, 2) := by decide +kernel
theorem d_L_law_917 : decode b_L_law 917 = .ok (.iconst 1, 1) := by decide +kernel
theorem d_L_law_918 : decode b_L_law 918 = .ok (.iadd, 1) := by decide +kernel
theorem d_L_law_919 : decode b_L_law 919 = .ok (.iaload, 1) := by decide +kernel
theorem d_L_law_920 : decode b_L_law 920 = .ok (.aload_n 0, 1) := by decide +kernel
theorem d_L_law_921 : decode b_L_law 921 = .ok (.iload 4, 2) := by decide +kernel
theorem d_L_law_923 : decode b_L_law 923 = .ok (.iconst 2, 1) := by decide +kernel
theorem d_L_law_924 : decode b_L_law 924 = .ok (.iadd, 1) := by decide +kernel
theorem d_L_law_925 : decode b_L_law 925 = .ok (.iaload, 1) := by decide +kernel
theorem d_L_law_926 : decode b_L_law 926 = .ok (.aload_n 3, 1) := by decide +kernel
theorem d_L_law_927 : decode b_L_law 927 = .ok (.invokestatic 144, 3) := by decide +kernel
theorem d_L_law_930 : decode b_L_law 930 = .ok (.istore 5, 2) := by decide +kernel
theorem d_L_law_932 : decode b_L_law 932 = .ok (.aload_n 2, 1) := by decide +kernel
theorem d_L_law_933 : decode b_L_law 933 = .ok (.aload_n 0, 1) := by decide +kernel
theorem d_L_law_934 : decode b_L_law 934 = .ok (.iload 4, 2) := by decide +kernel
theorem d_L_law_936 : decode b_L_law 936 = .ok (.iconst 1, 1) := by decide +kernel
theorem d_L_law_937 : decode b_L_law 937 = .ok (.iadd, 1) := by decide +kernel
theorem d_L_law_938 : decode b_L_law 938 = .ok (.iaload, 1) := by decide +kernel
theorem d_L_law_939 : decode b_L_law 939 = .ok (.aload_n 0, 1) := by decide +kernel
theorem d_L_law_940 : decode b_L_law 940 = .ok (.iload 4, 2) := by decide +kernel
theorem d_L_law_942 : decode b_L_law 942 = .ok (.iconst 2, 1) := by decide +kernel
theorem d_L_law_943 : decode b_L_law 943 = .ok (.iadd, 1) := by decide +kernel
theorem d_L_law_944 : decode b_L_law 944 = .ok (.iaload, 1) := by decide +kernel
theorem d_L_law_945 : decode b_L_law 945 = .ok (.invokevirtual 146, 3) := by decide +kernel
theorem d_L_law_948 : decode b_L_law 948 = .ok (.istore 6, 2) := by decide +kernel
theorem d_L_law_950 : decode b_L_law 950 = .ok (.aload_n 2, 1) := by decide +kernel
theorem d_L_law_951 : decode b_L_law 951 = .ok (.invokevirtual 81, 3) := by decide +kernel
theorem d_L_law_954 : decode b_L_law 954 = .ok (.iload 5, 2) := by decide +kernel
theorem d_L_law_956 : decode b_L_law 956 = .ok (.if_icmp .eq 5, 3) := by decide +kernel
theorem d_L_law_959 : decode b_L_law 959 = .ok (.iconst 0, 1) := by decide +kernel
theorem d_L_law_960 : decode b_L_law 960 = .ok (.ireturn, 1) := by decide +kernel
theorem d_L_law_961 : decode b_L_law 961 = .ok (.iload 5, 2) := by decide +kernel
theorem d_L_law_963 : decode b_L_law 963 = .ok (.ifCond .ne 15, 3) := by decide +kernel
theorem d_L_law_966 : decode b_L_law 966 = .ok (.aload_n 3, 1) := by decide +kernel
theorem d_L_law_967 : decode b_L_law 967 = .ok (.iconst 0, 1) := by decide +kernel
theorem d_L_law_968 : decode b_L_law 968 = .ok (.laload, 1) := by decide +kernel
theorem d_L_law_969 : decode b_L_law 969 = .ok (.iload 6, 2) := by decide +kernel
theorem d_L_law_971 : decode b_L_law 971 = .ok (.i2l, 1) := by decide +kernel
theorem d_L_law_972 : decode b_L_law 972 = .ok (.lcmp, 1) := by decide +kernel
theorem d_L_law_973 : decode b_L_law 973 = .ok (.ifCond .eq 5, 3) := by decide +kernel
theorem d_L_law_976 : decode b_L_law 976 = .ok (.iconst 0, 1) := by decide +kernel
theorem d_L_law_977 : decode b_L_law 977 = .ok (.ireturn, 1) := by decide +kernel
theorem d_L_law_978 : decode b_L_law 978 = .ok (.goto 3, 3) := by decide +kernel
theorem d_L_law_981 : decode b_L_law 981 = .ok (.iinc 4 4, 3) := by decide +kernel
theorem d_L_law_984 : decode b_L_law 984 = .ok (.goto (-961), 3) := by decide +kernel
theorem d_L_law_987 : decode b_L_law 987 = .ok (.iconst 1, 1) := by decide +kernel
theorem d_L_law_988 : decode b_L_law 988 = .ok (.ireturn, 1) := by decide +kernel
