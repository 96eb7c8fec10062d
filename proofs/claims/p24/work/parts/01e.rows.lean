theorem dL_studentHolds_148 : decode cL_studentHolds 148 = .ok (.iconst 0, 1) := by decide +kernel
theorem dL_studentHolds_149 : decode cL_studentHolds 149 = .ok (.invokestatic 98, 3) := by decide +kernel
theorem dL_studentHolds_152 : decode cL_studentHolds 152 = .ok (.lcmp, 1) := by decide +kernel
theorem dL_studentHolds_153 : decode cL_studentHolds 153 = .ok (.ifCond .ne 37, 3) := by decide +kernel
theorem dL_studentHolds_156 : decode cL_studentHolds 156 = .ok (.lload_n 3, 1) := by decide +kernel
theorem dL_studentHolds_157 : decode cL_studentHolds 157 = .ok (.aload_n 0, 1) := by decide +kernel
theorem dL_studentHolds_158 : decode cL_studentHolds 158 = .ok (.iload_n 1, 1) := by decide +kernel
theorem dL_studentHolds_159 : decode cL_studentHolds 159 = .ok (.iconst 2, 1) := by decide +kernel
theorem dL_studentHolds_160 : decode cL_studentHolds 160 = .ok (.iconst 0, 1) := by decide +kernel
theorem dL_studentHolds_161 : decode cL_studentHolds 161 = .ok (.invokestatic 98, 3) := by decide +kernel
theorem dL_studentHolds_164 : decode cL_studentHolds 164 = .ok (.aload_n 0, 1) := by decide +kernel
theorem dL_studentHolds_165 : decode cL_studentHolds 165 = .ok (.iload_n 1, 1) := by decide +kernel
theorem dL_studentHolds_166 : decode cL_studentHolds 166 = .ok (.iconst 2, 1) := by decide +kernel
theorem dL_studentHolds_167 : decode cL_studentHolds 167 = .ok (.iconst 1, 1) := by decide +kernel
theorem dL_studentHolds_168 : decode cL_studentHolds 168 = .ok (.invokestatic 98, 3) := by decide +kernel
theorem dL_studentHolds_171 : decode cL_studentHolds 171 = .ok (.ladd, 1) := by decide +kernel
theorem dL_studentHolds_172 : decode cL_studentHolds 172 = .ok (.lcmp, 1) := by decide +kernel
theorem dL_studentHolds_173 : decode cL_studentHolds 173 = .ok (.ifCond .ne 17, 3) := by decide +kernel
theorem dL_studentHolds_176 : decode cL_studentHolds 176 = .ok (.lload_n 3, 1) := by decide +kernel
theorem dL_studentHolds_177 : decode cL_studentHolds 177 = .ok (.aload_n 0, 1) := by decide +kernel
theorem dL_studentHolds_178 : decode cL_studentHolds 178 = .ok (.iload_n 1, 1) := by decide +kernel
theorem dL_studentHolds_179 : decode cL_studentHolds 179 = .ok (.invokestatic 105, 3) := by decide +kernel
theorem dL_studentHolds_182 : decode cL_studentHolds 182 = .ok (.lcmp, 1) := by decide +kernel
theorem dL_studentHolds_183 : decode cL_studentHolds 183 = .ok (.ifCond .gt 7, 3) := by decide +kernel
theorem dL_studentHolds_186 : decode cL_studentHolds 186 = .ok (.iconst 1, 1) := by decide +kernel
theorem dL_studentHolds_187 : decode cL_studentHolds 187 = .ok (.goto 4, 3) := by decide +kernel
theorem dL_studentHolds_190 : decode cL_studentHolds 190 = .ok (.iconst 0, 1) := by decide +kernel
theorem dL_studentHolds_191 : decode cL_studentHolds 191 = .ok (.istore_n 2, 1) := by decide +kernel
theorem dL_studentHolds_192 : decode cL_studentHolds 192 = .ok (.lconst 0, 1) := by decide +kernel
theorem dL_studentHolds_193 : decode cL_studentHolds 193 = .ok (.lstore 5, 2) := by decide +kernel
theorem dL_studentHolds_195 : decode cL_studentHolds 195 = .ok (.iconst 0, 1) := by decide +kernel
theorem dL_studentHolds_196 : decode cL_studentHolds 196 = .ok (.istore 7, 2) := by decide +kernel
theorem dL_studentHolds_198 : decode cL_studentHolds 198 = .ok (.iload 7, 2) := by decide +kernel
theorem dL_studentHolds_200 : decode cL_studentHolds 200 = .ok (.sipush 144, 3) := by decide +kernel
theorem dL_studentHolds_203 : decode cL_studentHolds 203 = .ok (.if_icmp .ge 33, 3) := by decide +kernel
theorem dL_studentHolds_206 : decode cL_studentHolds 206 = .ok (.iload_n 2, 1) := by decide +kernel
theorem dL_studentHolds_207 : decode cL_studentHolds 207 = .ok (.ifCond .eq 29, 3) := by decide +kernel
theorem dL_studentHolds_210 : decode cL_studentHolds 210 = .ok (.lload 5, 2) := by decide +kernel
theorem dL_studentHolds_212 : decode cL_studentHolds 212 = .ok (.aload_n 0, 1) := by decide +kernel
theorem dL_studentHolds_213 : decode cL_studentHolds 213 = .ok (.iload_n 1, 1) := by decide +kernel
theorem dL_studentHolds_214 : decode cL_studentHolds 214 = .ok (.iload 7, 2) := by decide +kernel
theorem dL_studentHolds_216 : decode cL_studentHolds 216 = .ok (.bipush 12, 2) := by decide +kernel
theorem dL_studentHolds_218 : decode cL_studentHolds 218 = .ok (.idiv, 1) := by decide +kernel
theorem dL_studentHolds_219 : decode cL_studentHolds 219 = .ok (.iload 7, 2) := by decide +kernel
theorem dL_studentHolds_221 : decode cL_studentHolds 221 = .ok (.bipush 12, 2) := by decide +kernel
theorem dL_studentHolds_223 : decode cL_studentHolds 223 = .ok (.irem, 1) := by decide +kernel
theorem dL_studentHolds_224 : decode cL_studentHolds 224 = .ok (.invokestatic 107, 3) := by decide +kernel
theorem dL_studentHolds_227 : decode cL_studentHolds 227 = .ok (.ladd, 1) := by decide +kernel
theorem dL_studentHolds_228 : decode cL_studentHolds 228 = .ok (.lstore 5, 2) := by decide +kernel
theorem dL_studentHolds_230 : decode cL_studentHolds 230 = .ok (.iinc 7 1, 3) := by decide +kernel
theorem dL_studentHolds_233 : decode cL_studentHolds 233 = .ok (.goto (-35), 3) := by decide +kernel
theorem dL_studentHolds_236 : decode cL_studentHolds 236 = .ok (.aload_n 0, 1) := by decide +kernel
theorem dL_studentHolds_237 : decode cL_studentHolds 237 = .ok (.iload_n 1, 1) := by decide +kernel
theorem dL_studentHolds_238 : decode cL_studentHolds 238 = .ok (.invokestatic 109, 3) := by decide +kernel
theorem dL_studentHolds_241 : decode cL_studentHolds 241 = .ok (.lstore 7, 2) := by decide +kernel
theorem dL_studentHolds_243 : decode cL_studentHolds 243 = .ok (.lload 7, 2) := by decide +kernel
theorem dL_studentHolds_245 : decode cL_studentHolds 245 = .ok (.lconst 0, 1) := by decide +kernel
theorem dL_studentHolds_246 : decode cL_studentHolds 246 = .ok (.lcmp, 1) := by decide +kernel
theorem dL_studentHolds_247 : decode cL_studentHolds 247 = .ok (.ifCond .ge 7, 3) := by decide +kernel
theorem dL_studentHolds_250 : decode cL_studentHolds 250 = .ok (.lconst 0, 1) := by decide +kernel
theorem dL_studentHolds_251 : decode cL_studentHolds 251 = .ok (.goto 20, 3) := by decide +kernel
theorem dL_studentHolds_254 : decode cL_studentHolds 254 = .ok (.aload_n 0, 1) := by decide +kernel
theorem dL_studentHolds_255 : decode cL_studentHolds 255 = .ok (.iload_n 1, 1) := by decide +kernel
theorem dL_studentHolds_256 : decode cL_studentHolds 256 = .ok (.lload 7, 2) := by decide +kernel
theorem dL_studentHolds_258 : decode cL_studentHolds 258 = .ok (.l2i, 1) := by decide +kernel
theorem dL_studentHolds_259 : decode cL_studentHolds 259 = .ok (.bipush 12, 2) := by decide +kernel
theorem dL_studentHolds_261 : decode cL_studentHolds 261 = .ok (.idiv, 1) := by decide +kernel
theorem dL_studentHolds_262 : decode cL_studentHolds 262 = .ok (.lload 7, 2) := by decide +kernel
theorem dL_studentHolds_264 : decode cL_studentHolds 264 = .ok (.l2i, 1) := by decide +kernel
theorem dL_studentHolds_265 : decode cL_studentHolds 265 = .ok (.bipush 12, 2) := by decide +kernel
theorem dL_studentHolds_267 : decode cL_studentHolds 267 = .ok (.irem, 1) := by decide +kernel
theorem dL_studentHolds_268 : decode cL_studentHolds 268 = .ok (.invokestatic 111, 3) := by decide +kernel
theorem dL_studentHolds_271 : decode cL_studentHolds 271 = .ok (.lstore 9, 2) := by decide +kernel
theorem dL_studentHolds_273 : decode cL_studentHolds 273 = .ok (.iload_n 2, 1) := by decide +kernel
theorem dL_studentHolds_274 : decode cL_studentHolds 274 = .ok (.ifCond .eq 53, 3) := by decide +kernel
theorem dL_studentHolds_277 : decode cL_studentHolds 277 = .ok (.lload 5, 2) := by decide +kernel
theorem dL_studentHolds_279 : decode cL_studentHolds 279 = .ok (.lload_n 3, 1) := by decide +kernel
theorem dL_studentHolds_280 : decode cL_studentHolds 280 = .ok (.lcmp, 1) := by decide +kernel
theorem dL_studentHolds_281 : decode cL_studentHolds 281 = .ok (.ifCond .gt 46, 3) := by decide +kernel
theorem dL_studentHolds_284 : decode cL_studentHolds 284 = .ok (.lload 5, 2) := by decide +kernel
theorem dL_studentHolds_286 : decode cL_studentHolds 286 = .ok (.lload_n 3, 1) := by decide +kernel
theorem dL_studentHolds_287 : decode cL_studentHolds 287 = .ok (.lconst 1, 1) := by decide +kernel
theorem dL_studentHolds_288 : decode cL_studentHolds 288 = .ok (.lsub, 1) := by decide +kernel
theorem dL_studentHolds_289 : decode cL_studentHolds 289 = .ok (.lcmp, 1) := by decide +kernel
theorem dL_studentHolds_290 : decode cL_studentHolds 290 = .ok (.ifCond .lt 37, 3) := by decide +kernel
theorem dL_studentHolds_293 : decode cL_studentHolds 293 = .ok (.lload 7, 2) := by decide +kernel
theorem dL_studentHolds_295 : decode cL_studentHolds 295 = .ok (.lconst 0, 1) := by decide +kernel
theorem dL_studentHolds_296 : decode cL_studentHolds 296 = .ok (.lcmp, 1) := by decide +kernel
theorem dL_studentHolds_297 : decode cL_studentHolds 297 = .ok (.ifCond .lt 26, 3) := by decide +kernel
theorem dL_studentHolds_300 : decode cL_studentHolds 300 = .ok (.lload 9, 2) := by decide +kernel
theorem dL_studentHolds_302 : decode cL_studentHolds 302 = .ok (.lconst 0, 1) := by decide +kernel
theorem dL_studentHolds_303 : decode cL_studentHolds 303 = .ok (.lcmp, 1) := by decide +kernel
theorem dL_studentHolds_304 : decode cL_studentHolds 304 = .ok (.ifCond .le 23, 3) := by decide +kernel
theorem dL_studentHolds_307 : decode cL_studentHolds 307 = .ok (.lload 7, 2) := by decide +kernel
theorem dL_studentHolds_309 : decode cL_studentHolds 309 = .ok (.ldc2_w 101, 3) := by decide +kernel
theorem dL_studentHolds_312 : decode cL_studentHolds 312 = .ok (.ldiv, 1) := by decide +kernel
theorem dL_studentHolds_313 : decode cL_studentHolds 313 = .ok (.lload 7, 2) := by decide +kernel
theorem dL_studentHolds_315 : decode cL_studentHolds 315 = .ok (.ldc2_w 101, 3) := by decide +kernel
theorem dL_studentHolds_318 : decode cL_studentHolds 318 = .ok (.lrem, 1) := by decide +kernel
theorem dL_studentHolds_319 : decode cL_studentHolds 319 = .ok (.lcmp, 1) := by decide +kernel
theorem dL_studentHolds_320 : decode cL_studentHolds 320 = .ok (.ifCond .ge 7, 3) := by decide +kernel
theorem dL_studentHolds_323 : decode cL_studentHolds 323 = .ok (.iconst 1, 1) := by decide +kernel
theorem dL_studentHolds_324 : decode cL_studentHolds 324 = .ok (.goto 4, 3) := by decide +kernel
theorem dL_studentHolds_327 : decode cL_studentHolds 327 = .ok (.iconst 0, 1) := by decide +kernel
theorem dL_studentHolds_328 : decode cL_studentHolds 328 = .ok (.istore_n 2, 1) := by decide +kernel
theorem dL_studentHolds_329 : decode cL_studentHolds 329 = .ok (.iconst 0, 1) := by decide +kernel
theorem dL_studentHolds_330 : decode cL_studentHolds 330 = .ok (.istore 11, 2) := by decide +kernel
theorem dL_studentHolds_332 : decode cL_studentHolds 332 = .ok (.iload 11, 2) := by decide +kernel
theorem dL_studentHolds_334 : decode cL_studentHolds 334 = .ok (.sipush 144, 3) := by decide +kernel
theorem dL_studentHolds_337 : decode cL_studentHolds 337 = .ok (.if_icmp .ge 102, 3) := by decide +kernel
theorem dL_studentHolds_340 : decode cL_studentHolds 340 = .ok (.iload_n 2, 1) := by decide +kernel
theorem dL_studentHolds_341 : decode cL_studentHolds 341 = .ok (.ifCond .eq 98, 3) := by decide +kernel
theorem dL_studentHolds_344 : decode cL_studentHolds 344 = .ok (.iload 11, 2) := by decide +kernel
theorem dL_studentHolds_346 : decode cL_studentHolds 346 = .ok (.bipush 12, 2) := by decide +kernel
theorem dL_studentHolds_348 : decode cL_studentHolds 348 = .ok (.idiv, 1) := by decide +kernel
theorem dL_studentHolds_349 : decode cL_studentHolds 349 = .ok (.iload 11, 2) := by decide +kernel
theorem dL_studentHolds_351 : decode cL_studentHolds 351 = .ok (.bipush 12, 2) := by decide +kernel
theorem dL_studentHolds_353 : decode cL_studentHolds 353 = .ok (.irem, 1) := by decide +kernel
theorem dL_studentHolds_354 : decode cL_studentHolds 354 = .ok (.if_icmp .ge 79, 3) := by decide +kernel
theorem dL_studentHolds_357 : decode cL_studentHolds 357 = .ok (.aload_n 0, 1) := by decide +kernel
theorem dL_studentHolds_358 : decode cL_studentHolds 358 = .ok (.iload_n 1, 1) := by decide +kernel
theorem dL_studentHolds_359 : decode cL_studentHolds 359 = .ok (.iload 11, 2) := by decide +kernel
theorem dL_studentHolds_361 : decode cL_studentHolds 361 = .ok (.bipush 12, 2) := by decide +kernel
theorem dL_studentHolds_363 : decode cL_studentHolds 363 = .ok (.idiv, 1) := by decide +kernel
theorem dL_studentHolds_364 : decode cL_studentHolds 364 = .ok (.iload 11, 2) := by decide +kernel
theorem dL_studentHolds_366 : decode cL_studentHolds 366 = .ok (.bipush 12, 2) := by decide +kernel
theorem dL_studentHolds_368 : decode cL_studentHolds 368 = .ok (.irem, 1) := by decide +kernel
theorem dL_studentHolds_369 : decode cL_studentHolds 369 = .ok (.invokestatic 111, 3) := by decide +kernel
theorem dL_studentHolds_372 : decode cL_studentHolds 372 = .ok (.lstore 12, 2) := by decide +kernel
theorem dL_studentHolds_374 : decode cL_studentHolds 374 = .ok (.lload 12, 2) := by decide +kernel
theorem dL_studentHolds_376 : decode cL_studentHolds 376 = .ok (.lload 9, 2) := by decide +kernel
theorem dL_studentHolds_378 : decode cL_studentHolds 378 = .ok (.lcmp, 1) := by decide +kernel
theorem dL_studentHolds_379 : decode cL_studentHolds 379 = .ok (.ifCond .gt 52, 3) := by decide +kernel
theorem dL_studentHolds_382 : decode cL_studentHolds 382 = .ok (.lload 12, 2) := by decide +kernel
theorem dL_studentHolds_384 : decode cL_studentHolds 384 = .ok (.lload 9, 2) := by decide +kernel
theorem dL_studentHolds_386 : decode cL_studentHolds 386 = .ok (.lcmp, 1) := by decide +kernel
theorem dL_studentHolds_387 : decode cL_studentHolds 387 = .ok (.ifCond .lt 19, 3) := by decide +kernel
theorem dL_studentHolds_390 : decode cL_studentHolds 390 = .ok (.lload 7, 2) := by decide +kernel
theorem dL_studentHolds_392 : decode cL_studentHolds 392 = .ok (.lconst 0, 1) := by decide +kernel
theorem dL_studentHolds_393 : decode cL_studentHolds 393 = .ok (.lcmp, 1) := by decide +kernel
theorem dL_studentHolds_394 : decode cL_studentHolds 394 = .ok (.ifCond .lt 12, 3) := by decide +kernel
theorem dL_studentHolds_397 : decode cL_studentHolds 397 = .ok (.iload 11, 2) := by decide +kernel
theorem dL_studentHolds_399 : decode cL_studentHolds 399 = .ok (.i2l, 1) := by decide +kernel
theorem dL_studentHolds_400 : decode cL_studentHolds 400 = .ok (.lload 7, 2) := by decide +kernel
theorem dL_studentHolds_402 : decode cL_studentHolds 402 = .ok (.lcmp, 1) := by decide +kernel
theorem dL_studentHolds_403 : decode cL_studentHolds 403 = .ok (.ifCond .lt 28, 3) := by decide +kernel
theorem dL_studentHolds_406 : decode cL_studentHolds 406 = .ok (.lload 12, 2) := by decide +kernel
theorem dL_studentHolds_408 : decode cL_studentHolds 408 = .ok (.aload_n 0, 1) := by decide +kernel
theorem dL_studentHolds_409 : decode cL_studentHolds 409 = .ok (.iload_n 1, 1) := by decide +kernel
theorem dL_studentHolds_410 : decode cL_studentHolds 410 = .ok (.iload 11, 2) := by decide +kernel
theorem dL_studentHolds_412 : decode cL_studentHolds 412 = .ok (.bipush 12, 2) := by decide +kernel
theorem dL_studentHolds_414 : decode cL_studentHolds 414 = .ok (.irem, 1) := by decide +kernel
theorem dL_studentHolds_415 : decode cL_studentHolds 415 = .ok (.iload 11, 2) := by decide +kernel
theorem dL_studentHolds_417 : decode cL_studentHolds 417 = .ok (.bipush 12, 2) := by decide +kernel
theorem dL_studentHolds_419 : decode cL_studentHolds 419 = .ok (.idiv, 1) := by decide +kernel
theorem dL_studentHolds_420 : decode cL_studentHolds 420 = .ok (.invokestatic 111, 3) := by decide +kernel
theorem dL_studentHolds_423 : decode cL_studentHolds 423 = .ok (.lcmp, 1) := by decide +kernel
theorem dL_studentHolds_424 : decode cL_studentHolds 424 = .ok (.ifCond .ne 7, 3) := by decide +kernel
theorem dL_studentHolds_427 : decode cL_studentHolds 427 = .ok (.iconst 1, 1) := by decide +kernel
theorem dL_studentHolds_428 : decode cL_studentHolds 428 = .ok (.goto 4, 3) := by decide +kernel
theorem dL_studentHolds_431 : decode cL_studentHolds 431 = .ok (.iconst 0, 1) := by decide +kernel
theorem dL_studentHolds_432 : decode cL_studentHolds 432 = .ok (.istore_n 2, 1) := by decide +kernel
theorem dL_studentHolds_433 : decode cL_studentHolds 433 = .ok (.iinc 11 1, 3) := by decide +kernel
theorem dL_studentHolds_436 : decode cL_studentHolds 436 = .ok (.goto (-104), 3) := by decide +kernel
theorem dL_studentHolds_439 : decode cL_studentHolds 439 = .ok (.iload_n 2, 1) := by decide +kernel
theorem dL_studentHolds_440 : decode cL_studentHolds 440 = .ok (.ifCond .eq 15, 3) := by decide +kernel
theorem dL_studentHolds_443 : decode cL_studentHolds 443 = .ok (.aload_n 0, 1) := by decide +kernel
theorem dL_studentHolds_444 : decode cL_studentHolds 444 = .ok (.iload_n 1, 1) := by decide +kernel
theorem dL_studentHolds_445 : decode cL_studentHolds 445 = .ok (.invokestatic 113, 3) := by decide +kernel
theorem dL_studentHolds_448 : decode cL_studentHolds 448 = .ok (.ifCond .eq 7, 3) := by decide +kernel
theorem dL_studentHolds_451 : decode cL_studentHolds 451 = .ok (.iconst 1, 1) := by decide +kernel
theorem dL_studentHolds_452 : decode cL_studentHolds 452 = .ok (.goto 4, 3) := by decide +kernel
theorem dL_studentHolds_455 : decode cL_studentHolds 455 = .ok (.iconst 0, 1) := by decide +kernel
theorem dL_studentHolds_456 : decode cL_studentHolds 456 = .ok (.ireturn, 1) := by decide +kernel
set_option maxRecDepth 20000 in
theorem ggL_lessonHolds_L_lesson : GoodIn wsL_lessonHolds wsL_lesson := goodIn_ca (goodIn_r _ [5, 6, 1, 7, 8, 9, 10, 11, 12, 13, 14, 15, 16, 17, 18, 19, 20, 21, 22, 23, 24, 25, 26, 27, 28, 29, 30, 31, 32, 33, 34, 71, 72, 73, 74, 75, 76, 77, 78, 79, 80, 81, 82, 83] (by decide +kernel) (by decide +kernel)) (goodIn_sub (fun _ h => List.mem_cons_of_mem _ (List.mem_append_left _ (List.mem_append_right _ h))) (by decide +kernel))
set_option maxRecDepth 20000 in
theorem gL_lessonHolds_L_lesson : GoodIn wsL_lessonHolds (va_wsS RL 117 yL_lesson wsL_lesson) := goodIn_app (goodIn_of _ (by decide +kernel)) ggL_lessonHolds_L_lesson
set_option maxRecDepth 20000 in
theorem ggL_lessonHolds_L_keyOf : GoodIn wsL_lessonHolds wsL_keyOf := goodIn_ca (goodIn_r _ [37, 6, 1, 38, 39, 40, 10, 41, 14, 15, 16, 17, 12, 13, 18, 42, 43, 44, 45, 33, 34, 76, 77, 78, 79, 80, 81, 82, 83, 71, 72, 73, 74, 75] (by decide +kernel) (by decide +kernel)) (goodIn_sub (fun _ h => List.mem_cons_of_mem _ (List.mem_append_left _ (List.mem_append_right _ h))) (by decide +kernel))
set_option maxRecDepth 20000 in
theorem gL_lessonHolds_L_keyOf : GoodIn wsL_lessonHolds (va_wsS RL 95 yL_keyOf wsL_keyOf) := goodIn_app (goodIn_of _ (by decide +kernel)) ggL_lessonHolds_L_keyOf
set_option maxRecDepth 20000 in
theorem ggL_lessonHolds_L_slips : GoodIn wsL_lessonHolds wsL_slips := goodIn_ca (goodIn_ca (goodIn_r _ [48, 6, 49, 1, 50, 51, 52, 53, 10, 54, 55, 56, 14, 15, 16, 17, 12, 13, 18, 57, 58, 59, 60, 20, 61, 62, 31, 63, 64, 65, 66, 67, 68, 69, 70, 33, 34, 71, 72, 73, 74, 75, 76, 77, 78, 79, 80, 81, 82, 83] (by decide +kernel) (by decide +kernel)) (goodIn_sub (fun _ h => List.mem_cons_of_mem _ (List.mem_append_right _ h)) (by decide +kernel))) (goodIn_sub (fun _ h => List.mem_cons_of_mem _ (List.mem_append_left _ (List.mem_append_right _ h))) (by decide +kernel))
set_option maxRecDepth 20000 in
theorem gL_lessonHolds_L_slips : GoodIn wsL_lessonHolds (va_wsS RL 98 yL_slips wsL_slips) := goodIn_app (goodIn_of _ (by decide +kernel)) ggL_lessonHolds_L_slips
theorem dL_lessonHolds_0 : decode cL_lessonHolds 0 = .ok (.aload_n 0, 1) := by decide +kernel
theorem dL_lessonHolds_1 : decode cL_lessonHolds 1 = .ok (.iload_n 1, 1) := by decide +kernel
theorem dL_lessonHolds_2 : decode cL_lessonHolds 2 = .ok (.iconst 0, 1) := by decide +kernel
theorem dL_lessonHolds_3 : decode cL_lessonHolds 3 = .ok (.invokestatic 117, 3) := by decide +kernel
theorem dL_lessonHolds_6 : decode cL_lessonHolds 6 = .ok (.lstore_n 2, 1) := by decide +kernel
theorem dL_lessonHolds_7 : decode cL_lessonHolds 7 = .ok (.aload_n 0, 1) := by decide +kernel
theorem dL_lessonHolds_8 : decode cL_lessonHolds 8 = .ok (.iload_n 1, 1) := by decide +kernel
theorem dL_lessonHolds_9 : decode cL_lessonHolds 9 = .ok (.iconst 1, 1) := by decide +kernel
theorem dL_lessonHolds_10 : decode cL_lessonHolds 10 = .ok (.invokestatic 117, 3) := by decide +kernel
theorem dL_lessonHolds_13 : decode cL_lessonHolds 13 = .ok (.lstore 4, 2) := by decide +kernel
theorem dL_lessonHolds_15 : decode cL_lessonHolds 15 = .ok (.aload_n 0, 1) := by decide +kernel
theorem dL_lessonHolds_16 : decode cL_lessonHolds 16 = .ok (.iload_n 1, 1) := by decide +kernel
theorem dL_lessonHolds_17 : decode cL_lessonHolds 17 = .ok (.iconst 2, 1) := by decide +kernel
theorem dL_lessonHolds_18 : decode cL_lessonHolds 18 = .ok (.invokestatic 117, 3) := by decide +kernel
theorem dL_lessonHolds_21 : decode cL_lessonHolds 21 = .ok (.lstore 6, 2) := by decide +kernel
theorem dL_lessonHolds_23 : decode cL_lessonHolds 23 = .ok (.aload_n 0, 1) := by decide +kernel
theorem dL_lessonHolds_24 : decode cL_lessonHolds 24 = .ok (.iload_n 1, 1) := by decide +kernel
theorem dL_lessonHolds_25 : decode cL_lessonHolds 25 = .ok (.iconst 0, 1) := by decide +kernel
theorem dL_lessonHolds_26 : decode cL_lessonHolds 26 = .ok (.aload_n 0, 1) := by decide +kernel
theorem dL_lessonHolds_27 : decode cL_lessonHolds 27 = .ok (.iload_n 1, 1) := by decide +kernel
theorem dL_lessonHolds_28 : decode cL_lessonHolds 28 = .ok (.lload 6, 2) := by decide +kernel
theorem dL_lessonHolds_30 : decode cL_lessonHolds 30 = .ok (.l2i, 1) := by decide +kernel
theorem dL_lessonHolds_31 : decode cL_lessonHolds 31 = .ok (.invokestatic 95, 3) := by decide +kernel
theorem dL_lessonHolds_34 : decode cL_lessonHolds 34 = .ok (.l2i, 1) := by decide +kernel
theorem dL_lessonHolds_35 : decode cL_lessonHolds 35 = .ok (.invokestatic 98, 3) := by decide +kernel
theorem dL_lessonHolds_38 : decode cL_lessonHolds 38 = .ok (.lstore 8, 2) := by decide +kernel
theorem dL_lessonHolds_40 : decode cL_lessonHolds 40 = .ok (.lload_n 2, 1) := by decide +kernel
theorem dL_lessonHolds_41 : decode cL_lessonHolds 41 = .ok (.lload 4, 2) := by decide +kernel
theorem dL_lessonHolds_43 : decode cL_lessonHolds 43 = .ok (.lcmp, 1) := by decide +kernel
theorem dL_lessonHolds_44 : decode cL_lessonHolds 44 = .ok (.ifCond .eq 82, 3) := by decide +kernel
theorem dL_lessonHolds_47 : decode cL_lessonHolds 47 = .ok (.lload_n 2, 1) := by decide +kernel
theorem dL_lessonHolds_48 : decode cL_lessonHolds 48 = .ok (.lload 6, 2) := by decide +kernel
theorem dL_lessonHolds_50 : decode cL_lessonHolds 50 = .ok (.lcmp, 1) := by decide +kernel
theorem dL_lessonHolds_51 : decode cL_lessonHolds 51 = .ok (.ifCond .eq 75, 3) := by decide +kernel
theorem dL_lessonHolds_54 : decode cL_lessonHolds 54 = .ok (.lload 4, 2) := by decide +kernel
theorem dL_lessonHolds_56 : decode cL_lessonHolds 56 = .ok (.lload 6, 2) := by decide +kernel
theorem dL_lessonHolds_58 : decode cL_lessonHolds 58 = .ok (.lcmp, 1) := by decide +kernel
theorem dL_lessonHolds_59 : decode cL_lessonHolds 59 = .ok (.ifCond .eq 67, 3) := by decide +kernel
theorem dL_lessonHolds_62 : decode cL_lessonHolds 62 = .ok (.aload_n 0, 1) := by decide +kernel
theorem dL_lessonHolds_63 : decode cL_lessonHolds 63 = .ok (.iload_n 1, 1) := by decide +kernel
theorem dL_lessonHolds_64 : decode cL_lessonHolds 64 = .ok (.bipush 99, 2) := by decide +kernel
theorem dL_lessonHolds_66 : decode cL_lessonHolds 66 = .ok (.invokestatic 117, 3) := by decide +kernel
theorem dL_lessonHolds_69 : decode cL_lessonHolds 69 = .ok (.lload_n 2, 1) := by decide +kernel
theorem dL_lessonHolds_70 : decode cL_lessonHolds 70 = .ok (.lcmp, 1) := by decide +kernel
theorem dL_lessonHolds_71 : decode cL_lessonHolds 71 = .ok (.ifCond .ne 55, 3) := by decide +kernel
theorem dL_lessonHolds_74 : decode cL_lessonHolds 74 = .ok (.aload_n 0, 1) := by decide +kernel
theorem dL_lessonHolds_75 : decode cL_lessonHolds 75 = .ok (.iload_n 1, 1) := by decide +kernel
theorem dL_lessonHolds_76 : decode cL_lessonHolds 76 = .ok (.bipush 40, 2) := by decide +kernel
theorem dL_lessonHolds_78 : decode cL_lessonHolds 78 = .ok (.invokestatic 117, 3) := by decide +kernel
theorem dL_lessonHolds_81 : decode cL_lessonHolds 81 = .ok (.lload 4, 2) := by decide +kernel
theorem dL_lessonHolds_83 : decode cL_lessonHolds 83 = .ok (.lcmp, 1) := by decide +kernel
theorem dL_lessonHolds_84 : decode cL_lessonHolds 84 = .ok (.ifCond .ne 42, 3) := by decide +kernel
theorem dL_lessonHolds_87 : decode cL_lessonHolds 87 = .ok (.aload_n 0, 1) := by decide +kernel
theorem dL_lessonHolds_88 : decode cL_lessonHolds 88 = .ok (.iload_n 1, 1) := by decide +kernel
theorem dL_lessonHolds_89 : decode cL_lessonHolds 89 = .ok (.bipush 100, 2) := by decide +kernel
theorem dL_lessonHolds_91 : decode cL_lessonHolds 91 = .ok (.invokestatic 117, 3) := by decide +kernel
theorem dL_lessonHolds_94 : decode cL_lessonHolds 94 = .ok (.ldc2_w 25, 3) := by decide +kernel
theorem dL_lessonHolds_97 : decode cL_lessonHolds 97 = .ok (.lcmp, 1) := by decide +kernel
theorem dL_lessonHolds_98 : decode cL_lessonHolds 98 = .ok (.ifCond .ne 28, 3) := by decide +kernel
theorem dL_lessonHolds_101 : decode cL_lessonHolds 101 = .ok (.lload 8, 2) := by decide +kernel
theorem dL_lessonHolds_103 : decode cL_lessonHolds 103 = .ok (.aload_n 0, 1) := by decide +kernel
theorem dL_lessonHolds_104 : decode cL_lessonHolds 104 = .ok (.iload_n 1, 1) := by decide +kernel
theorem dL_lessonHolds_105 : decode cL_lessonHolds 105 = .ok (.iconst 0, 1) := by decide +kernel
theorem dL_lessonHolds_106 : decode cL_lessonHolds 106 = .ok (.aload_n 0, 1) := by decide +kernel
theorem dL_lessonHolds_107 : decode cL_lessonHolds 107 = .ok (.iload_n 1, 1) := by decide +kernel
theorem dL_lessonHolds_108 : decode cL_lessonHolds 108 = .ok (.lload 4, 2) := by decide +kernel
theorem dL_lessonHolds_110 : decode cL_lessonHolds 110 = .ok (.l2i, 1) := by decide +kernel
theorem dL_lessonHolds_111 : decode cL_lessonHolds 111 = .ok (.invokestatic 95, 3) := by decide +kernel
theorem dL_lessonHolds_114 : decode cL_lessonHolds 114 = .ok (.l2i, 1) := by decide +kernel
theorem dL_lessonHolds_115 : decode cL_lessonHolds 115 = .ok (.invokestatic 98, 3) := by decide +kernel
theorem dL_lessonHolds_118 : decode cL_lessonHolds 118 = .ok (.lcmp, 1) := by decide +kernel
theorem dL_lessonHolds_119 : decode cL_lessonHolds 119 = .ok (.ifCond .gt 7, 3) := by decide +kernel
theorem dL_lessonHolds_122 : decode cL_lessonHolds 122 = .ok (.iconst 1, 1) := by decide +kernel
theorem dL_lessonHolds_123 : decode cL_lessonHolds 123 = .ok (.goto 4, 3) := by decide +kernel
theorem dL_lessonHolds_126 : decode cL_lessonHolds 126 = .ok (.iconst 0, 1) := by decide +kernel
theorem dL_lessonHolds_127 : decode cL_lessonHolds 127 = .ok (.istore 10, 2) := by decide +kernel
theorem dL_lessonHolds_129 : decode cL_lessonHolds 129 = .ok (.iconst 0, 1) := by decide +kernel
theorem dL_lessonHolds_130 : decode cL_lessonHolds 130 = .ok (.istore 11, 2) := by decide +kernel
theorem dL_lessonHolds_132 : decode cL_lessonHolds 132 = .ok (.iload 11, 2) := by decide +kernel
theorem dL_lessonHolds_134 : decode cL_lessonHolds 134 = .ok (.bipush 12, 2) := by decide +kernel
theorem dL_lessonHolds_136 : decode cL_lessonHolds 136 = .ok (.if_icmp .ge 67, 3) := by decide +kernel
theorem dL_lessonHolds_139 : decode cL_lessonHolds 139 = .ok (.iload 10, 2) := by decide +kernel
theorem dL_lessonHolds_141 : decode cL_lessonHolds 141 = .ok (.ifCond .eq 62, 3) := by decide +kernel
theorem dL_lessonHolds_144 : decode cL_lessonHolds 144 = .ok (.iload 11, 2) := by decide +kernel
theorem dL_lessonHolds_146 : decode cL_lessonHolds 146 = .ok (.i2l, 1) := by decide +kernel
theorem dL_lessonHolds_147 : decode cL_lessonHolds 147 = .ok (.lload_n 2, 1) := by decide +kernel
theorem dL_lessonHolds_148 : decode cL_lessonHolds 148 = .ok (.lcmp, 1) := by decide +kernel
theorem dL_lessonHolds_149 : decode cL_lessonHolds 149 = .ok (.ifCond .eq 41, 3) := by decide +kernel
theorem dL_lessonHolds_152 : decode cL_lessonHolds 152 = .ok (.iload 11, 2) := by decide +kernel
theorem dL_lessonHolds_154 : decode cL_lessonHolds 154 = .ok (.i2l, 1) := by decide +kernel
theorem dL_lessonHolds_155 : decode cL_lessonHolds 155 = .ok (.lload 4, 2) := by decide +kernel
theorem dL_lessonHolds_157 : decode cL_lessonHolds 157 = .ok (.lcmp, 1) := by decide +kernel
theorem dL_lessonHolds_158 : decode cL_lessonHolds 158 = .ok (.ifCond .eq 32, 3) := by decide +kernel
theorem dL_lessonHolds_161 : decode cL_lessonHolds 161 = .ok (.iload 11, 2) := by decide +kernel
theorem dL_lessonHolds_163 : decode cL_lessonHolds 163 = .ok (.i2l, 1) := by decide +kernel
theorem dL_lessonHolds_164 : decode cL_lessonHolds 164 = .ok (.lload 6, 2) := by decide +kernel
theorem dL_lessonHolds_166 : decode cL_lessonHolds 166 = .ok (.lcmp, 1) := by decide +kernel
theorem dL_lessonHolds_167 : decode cL_lessonHolds 167 = .ok (.ifCond .eq 23, 3) := by decide +kernel
theorem dL_lessonHolds_170 : decode cL_lessonHolds 170 = .ok (.aload_n 0, 1) := by decide +kernel
theorem dL_lessonHolds_171 : decode cL_lessonHolds 171 = .ok (.iload_n 1, 1) := by decide +kernel
theorem dL_lessonHolds_172 : decode cL_lessonHolds 172 = .ok (.iconst 0, 1) := by decide +kernel
theorem dL_lessonHolds_173 : decode cL_lessonHolds 173 = .ok (.aload_n 0, 1) := by decide +kernel
theorem dL_lessonHolds_174 : decode cL_lessonHolds 174 = .ok (.iload_n 1, 1) := by decide +kernel
theorem dL_lessonHolds_175 : decode cL_lessonHolds 175 = .ok (.iload 11, 2) := by decide +kernel
theorem dL_lessonHolds_177 : decode cL_lessonHolds 177 = .ok (.invokestatic 95, 3) := by decide +kernel
theorem dL_lessonHolds_180 : decode cL_lessonHolds 180 = .ok (.l2i, 1) := by decide +kernel
theorem dL_lessonHolds_181 : decode cL_lessonHolds 181 = .ok (.invokestatic 98, 3) := by decide +kernel
theorem dL_lessonHolds_184 : decode cL_lessonHolds 184 = .ok (.lload 8, 2) := by decide +kernel
theorem dL_lessonHolds_186 : decode cL_lessonHolds 186 = .ok (.lcmp, 1) := by decide +kernel
theorem dL_lessonHolds_187 : decode cL_lessonHolds 187 = .ok (.ifCond .gt 7, 3) := by decide +kernel
theorem dL_lessonHolds_190 : decode cL_lessonHolds 190 = .ok (.iconst 1, 1) := by decide +kernel
theorem dL_lessonHolds_191 : decode cL_lessonHolds 191 = .ok (.goto 4, 3) := by decide +kernel
theorem dL_lessonHolds_194 : decode cL_lessonHolds 194 = .ok (.iconst 0, 1) := by decide +kernel
theorem dL_lessonHolds_195 : decode cL_lessonHolds 195 = .ok (.istore 10, 2) := by decide +kernel
theorem dL_lessonHolds_197 : decode cL_lessonHolds 197 = .ok (.iinc 11 1, 3) := by decide +kernel
theorem dL_lessonHolds_200 : decode cL_lessonHolds 200 = .ok (.goto (-68), 3) := by decide +kernel
theorem dL_lessonHolds_203 : decode cL_lessonHolds 203 = .ok (.iload 10, 2) := by decide +kernel
theorem dL_lessonHolds_205 : decode cL_lessonHolds 205 = .ok (.ireturn, 1) := by decide +kernel
set_option maxRecDepth 20000 in
theorem ggL_contestHolds_L_of : GoodIn wsL_contestHolds wsL_of := goodIn_ca (goodIn_ca (goodIn_r _ [8, 9, 10, 1, 11, 12, 13, 14, 15, 16, 17, 18, 19, 20, 21, 22, 23, 24, 25, 26, 27, 28, 29, 30, 31, 32, 33, 34, 35, 36, 37, 38, 39, 40, 41, 42, 43, 44, 45, 56, 57, 58, 59, 60, 61, 62, 63] (by decide +kernel) (by decide +kernel)) (goodIn_sub (fun _ h => List.mem_cons_of_mem _ (List.mem_append_left _ (List.mem_append_right _ h))) (by decide +kernel))) (goodIn_sub (fun _ h => List.mem_cons_of_mem _ (List.mem_append_right _ h)) (by decide +kernel))
set_option maxRecDepth 20000 in
theorem gL_contestHolds_L_of : GoodIn wsL_contestHolds (va_wsS RL 119 yL_of wsL_of) := goodIn_app (goodIn_of _ (by decide +kernel)) ggL_contestHolds_L_of
set_option maxRecDepth 20000 in
theorem ggL_contestHolds_L_ranked : GoodIn wsL_contestHolds wsL_ranked := goodIn_ca (goodIn_r _ [48, 9, 1, 49, 50, 51, 15, 52, 23, 24, 19, 20, 21, 22, 25, 53, 33, 54, 55, 45, 32, 34, 35, 36, 30, 31, 41, 42, 43, 44, 40, 56, 57, 58, 59, 60, 61, 62, 63] (by decide +kernel) (by decide +kernel)) (goodIn_sub (fun _ h => List.mem_cons_of_mem _ (List.mem_append_right _ h)) (by decide +kernel))
set_option maxRecDepth 20000 in
theorem gL_contestHolds_L_ranked : GoodIn wsL_contestHolds (va_wsS RL 125 yL_ranked wsL_ranked) := goodIn_app (goodIn_of _ (by decide +kernel)) ggL_contestHolds_L_ranked
theorem dL_contestHolds_0 : decode cL_contestHolds 0 = .ok (.aload_n 0, 1) := by decide +kernel
theorem dL_contestHolds_1 : decode cL_contestHolds 1 = .ok (.iload_n 1, 1) := by decide +kernel
theorem dL_contestHolds_2 : decode cL_contestHolds 2 = .ok (.iload_n 2, 1) := by decide +kernel
theorem dL_contestHolds_3 : decode cL_contestHolds 3 = .ok (.iconst 0, 1) := by decide +kernel
theorem dL_contestHolds_4 : decode cL_contestHolds 4 = .ok (.invokestatic 119, 3) := by decide +kernel
theorem dL_contestHolds_7 : decode cL_contestHolds 7 = .ok (.ldc2_w 25, 3) := by decide +kernel
theorem dL_contestHolds_10 : decode cL_contestHolds 10 = .ok (.lcmp, 1) := by decide +kernel
theorem dL_contestHolds_11 : decode cL_contestHolds 11 = .ok (.ifCond .ne 7, 3) := by decide +kernel
theorem dL_contestHolds_14 : decode cL_contestHolds 14 = .ok (.iconst 1, 1) := by decide +kernel
theorem dL_contestHolds_15 : decode cL_contestHolds 15 = .ok (.goto 4, 3) := by decide +kernel
theorem dL_contestHolds_18 : decode cL_contestHolds 18 = .ok (.iconst 0, 1) := by decide +kernel
theorem dL_contestHolds_19 : decode cL_contestHolds 19 = .ok (.istore_n 3, 1) := by decide +kernel
theorem dL_contestHolds_20 : decode cL_contestHolds 20 = .ok (.iconst 0, 1) := by decide +kernel
theorem dL_contestHolds_21 : decode cL_contestHolds 21 = .ok (.istore 4, 2) := by decide +kernel
theorem dL_contestHolds_23 : decode cL_contestHolds 23 = .ok (.iconst 0, 1) := by decide +kernel
theorem dL_contestHolds_24 : decode cL_contestHolds 24 = .ok (.istore 5, 2) := by decide +kernel
theorem dL_contestHolds_26 : decode cL_contestHolds 26 = .ok (.iload 5, 2) := by decide +kernel
theorem dL_contestHolds_28 : decode cL_contestHolds 28 = .ok (.iload_n 2, 1) := by decide +kernel
theorem dL_contestHolds_29 : decode cL_contestHolds 29 = .ok (.if_icmp .ge 159, 3) := by decide +kernel
theorem dL_contestHolds_32 : decode cL_contestHolds 32 = .ok (.iload_n 3, 1) := by decide +kernel
theorem dL_contestHolds_33 : decode cL_contestHolds 33 = .ok (.ifCond .eq 155, 3) := by decide +kernel
theorem dL_contestHolds_36 : decode cL_contestHolds 36 = .ok (.aload_n 0, 1) := by decide +kernel
theorem dL_contestHolds_37 : decode cL_contestHolds 37 = .ok (.iload_n 1, 1) := by decide +kernel
theorem dL_contestHolds_38 : decode cL_contestHolds 38 = .ok (.iload 5, 2) := by decide +kernel
theorem dL_contestHolds_40 : decode cL_contestHolds 40 = .ok (.iconst 1, 1) := by decide +kernel
theorem dL_contestHolds_41 : decode cL_contestHolds 41 = .ok (.invokestatic 119, 3) := by decide +kernel
theorem dL_contestHolds_44 : decode cL_contestHolds 44 = .ok (.lconst 0, 1) := by decide +kernel
theorem dL_contestHolds_45 : decode cL_contestHolds 45 = .ok (.lcmp, 1) := by decide +kernel
theorem dL_contestHolds_46 : decode cL_contestHolds 46 = .ok (.ifCond .le 7, 3) := by decide +kernel
theorem dL_contestHolds_49 : decode cL_contestHolds 49 = .ok (.iconst 1, 1) := by decide +kernel
theorem dL_contestHolds_50 : decode cL_contestHolds 50 = .ok (.goto 4, 3) := by decide +kernel
theorem dL_contestHolds_53 : decode cL_contestHolds 53 = .ok (.iconst 0, 1) := by decide +kernel
theorem dL_contestHolds_54 : decode cL_contestHolds 54 = .ok (.istore 6, 2) := by decide +kernel
theorem dL_contestHolds_56 : decode cL_contestHolds 56 = .ok (.iload 4, 2) := by decide +kernel
theorem dL_contestHolds_58 : decode cL_contestHolds 58 = .ok (.iload 6, 2) := by decide +kernel
theorem dL_contestHolds_60 : decode cL_contestHolds 60 = .ok (.ifCond .eq 7, 3) := by decide +kernel
theorem dL_contestHolds_63 : decode cL_contestHolds 63 = .ok (.iconst 1, 1) := by decide +kernel
theorem dL_contestHolds_64 : decode cL_contestHolds 64 = .ok (.goto 4, 3) := by decide +kernel
theorem dL_contestHolds_67 : decode cL_contestHolds 67 = .ok (.iconst 0, 1) := by decide +kernel
theorem dL_contestHolds_68 : decode cL_contestHolds 68 = .ok (.iadd, 1) := by decide +kernel
theorem dL_contestHolds_69 : decode cL_contestHolds 69 = .ok (.istore 4, 2) := by decide +kernel
theorem dL_contestHolds_71 : decode cL_contestHolds 71 = .ok (.aload_n 0, 1) := by decide +kernel
theorem dL_contestHolds_72 : decode cL_contestHolds 72 = .ok (.iload_n 1, 1) := by decide +kernel
theorem dL_contestHolds_73 : decode cL_contestHolds 73 = .ok (.iload 5, 2) := by decide +kernel
theorem dL_contestHolds_75 : decode cL_contestHolds 75 = .ok (.iconst 3, 1) := by decide +kernel
theorem dL_contestHolds_76 : decode cL_contestHolds 76 = .ok (.invokestatic 119, 3) := by decide +kernel
theorem dL_contestHolds_79 : decode cL_contestHolds 79 = .ok (.lstore 7, 2) := by decide +kernel
theorem dL_contestHolds_81 : decode cL_contestHolds 81 = .ok (.aload_n 0, 1) := by decide +kernel
theorem dL_contestHolds_82 : decode cL_contestHolds 82 = .ok (.iload_n 1, 1) := by decide +kernel
theorem dL_contestHolds_83 : decode cL_contestHolds 83 = .ok (.iload 5, 2) := by decide +kernel
theorem dL_contestHolds_85 : decode cL_contestHolds 85 = .ok (.iconst 0, 1) := by decide +kernel
theorem dL_contestHolds_86 : decode cL_contestHolds 86 = .ok (.invokestatic 119, 3) := by decide +kernel
theorem dL_contestHolds_89 : decode cL_contestHolds 89 = .ok (.ldc2_w 121, 3) := by decide +kernel
theorem dL_contestHolds_92 : decode cL_contestHolds 92 = .ok (.lcmp, 1) := by decide +kernel
theorem dL_contestHolds_93 : decode cL_contestHolds 93 = .ok (.ifCond .lt 87, 3) := by decide +kernel
theorem dL_contestHolds_96 : decode cL_contestHolds 96 = .ok (.iload 6, 2) := by decide +kernel
theorem dL_contestHolds_98 : decode cL_contestHolds 98 = .ok (.ifCond .eq 54, 3) := by decide +kernel
theorem dL_contestHolds_101 : decode cL_contestHolds 101 = .ok (.aload_n 0, 1) := by decide +kernel
theorem dL_contestHolds_102 : decode cL_contestHolds 102 = .ok (.iload_n 1, 1) := by decide +kernel
theorem dL_contestHolds_103 : decode cL_contestHolds 103 = .ok (.iload 5, 2) := by decide +kernel
theorem dL_contestHolds_105 : decode cL_contestHolds 105 = .ok (.iconst 2, 1) := by decide +kernel
theorem dL_contestHolds_106 : decode cL_contestHolds 106 = .ok (.invokestatic 119, 3) := by decide +kernel
theorem dL_contestHolds_109 : decode cL_contestHolds 109 = .ok (.ldc2_w 123, 3) := by decide +kernel
theorem dL_contestHolds_112 : decode cL_contestHolds 112 = .ok (.aload_n 0, 1) := by decide +kernel
theorem dL_contestHolds_113 : decode cL_contestHolds 113 = .ok (.iload_n 1, 1) := by decide +kernel
theorem dL_contestHolds_114 : decode cL_contestHolds 114 = .ok (.iload 5, 2) := by decide +kernel
theorem dL_contestHolds_116 : decode cL_contestHolds 116 = .ok (.iconst 1, 1) := by decide +kernel
theorem dL_contestHolds_117 : decode cL_contestHolds 117 = .ok (.invokestatic 119, 3) := by decide +kernel
theorem dL_contestHolds_120 : decode cL_contestHolds 120 = .ok (.lmul, 1) := by decide +kernel
theorem dL_contestHolds_121 : decode cL_contestHolds 121 = .ok (.aload_n 0, 1) := by decide +kernel
theorem dL_contestHolds_122 : decode cL_contestHolds 122 = .ok (.iload_n 1, 1) := by decide +kernel
theorem dL_contestHolds_123 : decode cL_contestHolds 123 = .ok (.iload 5, 2) := by decide +kernel
theorem dL_contestHolds_125 : decode cL_contestHolds 125 = .ok (.iconst 0, 1) := by decide +kernel
theorem dL_contestHolds_126 : decode cL_contestHolds 126 = .ok (.invokestatic 119, 3) := by decide +kernel
theorem dL_contestHolds_129 : decode cL_contestHolds 129 = .ok (.ldiv, 1) := by decide +kernel
theorem dL_contestHolds_130 : decode cL_contestHolds 130 = .ok (.lcmp, 1) := by decide +kernel
theorem dL_contestHolds_131 : decode cL_contestHolds 131 = .ok (.ifCond .ne 49, 3) := by decide +kernel
theorem dL_contestHolds_134 : decode cL_contestHolds 134 = .ok (.aload_n 0, 1) := by decide +kernel
theorem dL_contestHolds_135 : decode cL_contestHolds 135 = .ok (.iload_n 1, 1) := by decide +kernel
theorem dL_contestHolds_136 : decode cL_contestHolds 136 = .ok (.lload 7, 2) := by decide +kernel
theorem dL_contestHolds_138 : decode cL_contestHolds 138 = .ok (.l2i, 1) := by decide +kernel
theorem dL_contestHolds_139 : decode cL_contestHolds 139 = .ok (.invokestatic 125, 3) := by decide +kernel
theorem dL_contestHolds_142 : decode cL_contestHolds 142 = .ok (.iload 5, 2) := by decide +kernel
theorem dL_contestHolds_144 : decode cL_contestHolds 144 = .ok (.i2l, 1) := by decide +kernel
theorem dL_contestHolds_145 : decode cL_contestHolds 145 = .ok (.lcmp, 1) := by decide +kernel
theorem dL_contestHolds_146 : decode cL_contestHolds 146 = .ok (.ifCond .ne 34, 3) := by decide +kernel
theorem dL_contestHolds_149 : decode cL_contestHolds 149 = .ok (.goto 27, 3) := by decide +kernel
theorem dL_contestHolds_152 : decode cL_contestHolds 152 = .ok (.lload 7, 2) := by decide +kernel
theorem dL_contestHolds_154 : decode cL_contestHolds 154 = .ok (.ldc2_w 127, 3) := by decide +kernel
theorem dL_contestHolds_157 : decode cL_contestHolds 157 = .ok (.lcmp, 1) := by decide +kernel
theorem dL_contestHolds_158 : decode cL_contestHolds 158 = .ok (.ifCond .ne 22, 3) := by decide +kernel
theorem dL_contestHolds_161 : decode cL_contestHolds 161 = .ok (.aload_n 0, 1) := by decide +kernel
theorem dL_contestHolds_162 : decode cL_contestHolds 162 = .ok (.iload_n 1, 1) := by decide +kernel
theorem dL_contestHolds_163 : decode cL_contestHolds 163 = .ok (.iload 5, 2) := by decide +kernel
theorem dL_contestHolds_165 : decode cL_contestHolds 165 = .ok (.iconst 2, 1) := by decide +kernel
theorem dL_contestHolds_166 : decode cL_contestHolds 166 = .ok (.invokestatic 119, 3) := by decide +kernel
theorem dL_contestHolds_169 : decode cL_contestHolds 169 = .ok (.ldc2_w 127, 3) := by decide +kernel
theorem dL_contestHolds_172 : decode cL_contestHolds 172 = .ok (.lcmp, 1) := by decide +kernel
theorem dL_contestHolds_173 : decode cL_contestHolds 173 = .ok (.ifCond .ne 7, 3) := by decide +kernel
theorem dL_contestHolds_176 : decode cL_contestHolds 176 = .ok (.iconst 1, 1) := by decide +kernel
theorem dL_contestHolds_177 : decode cL_contestHolds 177 = .ok (.goto 4, 3) := by decide +kernel
theorem dL_contestHolds_180 : decode cL_contestHolds 180 = .ok (.iconst 0, 1) := by decide +kernel
theorem dL_contestHolds_181 : decode cL_contestHolds 181 = .ok (.istore_n 3, 1) := by decide +kernel
theorem dL_contestHolds_182 : decode cL_contestHolds 182 = .ok (.iinc 5 1, 3) := by decide +kernel
theorem dL_contestHolds_185 : decode cL_contestHolds 185 = .ok (.goto (-159), 3) := by decide +kernel
theorem dL_contestHolds_188 : decode cL_contestHolds 188 = .ok (.iconst 0, 1) := by decide +kernel
theorem dL_contestHolds_189 : decode cL_contestHolds 189 = .ok (.istore 5, 2) := by decide +kernel
theorem dL_contestHolds_191 : decode cL_contestHolds 191 = .ok (.iload 5, 2) := by decide +kernel
theorem dL_contestHolds_193 : decode cL_contestHolds 193 = .ok (.iconst 1, 1) := by decide +kernel
theorem dL_contestHolds_194 : decode cL_contestHolds 194 = .ok (.iadd, 1) := by decide +kernel
theorem dL_contestHolds_195 : decode cL_contestHolds 195 = .ok (.iload 4, 2) := by decide +kernel
theorem dL_contestHolds_197 : decode cL_contestHolds 197 = .ok (.if_icmp .ge 89, 3) := by decide +kernel
theorem dL_contestHolds_200 : decode cL_contestHolds 200 = .ok (.iload_n 3, 1) := by decide +kernel
theorem dL_contestHolds_201 : decode cL_contestHolds 201 = .ok (.ifCond .eq 85, 3) := by decide +kernel
theorem dL_contestHolds_204 : decode cL_contestHolds 204 = .ok (.aload_n 0, 1) := by decide +kernel
theorem dL_contestHolds_205 : decode cL_contestHolds 205 = .ok (.iload_n 1, 1) := by decide +kernel
theorem dL_contestHolds_206 : decode cL_contestHolds 206 = .ok (.aload_n 0, 1) := by decide +kernel
theorem dL_contestHolds_207 : decode cL_contestHolds 207 = .ok (.iload_n 1, 1) := by decide +kernel
theorem dL_contestHolds_208 : decode cL_contestHolds 208 = .ok (.iload 5, 2) := by decide +kernel
theorem dL_contestHolds_210 : decode cL_contestHolds 210 = .ok (.invokestatic 125, 3) := by decide +kernel
theorem dL_contestHolds_213 : decode cL_contestHolds 213 = .ok (.l2i, 1) := by decide +kernel
theorem dL_contestHolds_214 : decode cL_contestHolds 214 = .ok (.iconst 2, 1) := by decide +kernel
theorem dL_contestHolds_215 : decode cL_contestHolds 215 = .ok (.invokestatic 119, 3) := by decide +kernel
theorem dL_contestHolds_218 : decode cL_contestHolds 218 = .ok (.lstore 6, 2) := by decide +kernel
theorem dL_contestHolds_220 : decode cL_contestHolds 220 = .ok (.aload_n 0, 1) := by decide +kernel
theorem dL_contestHolds_221 : decode cL_contestHolds 221 = .ok (.iload_n 1, 1) := by decide +kernel
theorem dL_contestHolds_222 : decode cL_contestHolds 222 = .ok (.aload_n 0, 1) := by decide +kernel
theorem dL_contestHolds_223 : decode cL_contestHolds 223 = .ok (.iload_n 1, 1) := by decide +kernel
theorem dL_contestHolds_224 : decode cL_contestHolds 224 = .ok (.iload 5, 2) := by decide +kernel
theorem dL_contestHolds_226 : decode cL_contestHolds 226 = .ok (.iconst 1, 1) := by decide +kernel
theorem dL_contestHolds_227 : decode cL_contestHolds 227 = .ok (.iadd, 1) := by decide +kernel
theorem dL_contestHolds_228 : decode cL_contestHolds 228 = .ok (.invokestatic 125, 3) := by decide +kernel
theorem dL_contestHolds_231 : decode cL_contestHolds 231 = .ok (.l2i, 1) := by decide +kernel
theorem dL_contestHolds_232 : decode cL_contestHolds 232 = .ok (.iconst 2, 1) := by decide +kernel
theorem dL_contestHolds_233 : decode cL_contestHolds 233 = .ok (.invokestatic 119, 3) := by decide +kernel
theorem dL_contestHolds_236 : decode cL_contestHolds 236 = .ok (.lstore 8, 2) := by decide +kernel
theorem dL_contestHolds_238 : decode cL_contestHolds 238 = .ok (.lload 6, 2) := by decide +kernel
theorem dL_contestHolds_240 : decode cL_contestHolds 240 = .ok (.lload 8, 2) := by decide +kernel
theorem dL_contestHolds_242 : decode cL_contestHolds 242 = .ok (.lcmp, 1) := by decide +kernel
theorem dL_contestHolds_243 : decode cL_contestHolds 243 = .ok (.ifCond .lt 31, 3) := by decide +kernel
theorem dL_contestHolds_246 : decode cL_contestHolds 246 = .ok (.lload 6, 2) := by decide +kernel
theorem dL_contestHolds_248 : decode cL_contestHolds 248 = .ok (.lload 8, 2) := by decide +kernel
theorem dL_contestHolds_250 : decode cL_contestHolds 250 = .ok (.lcmp, 1) := by decide +kernel
theorem dL_contestHolds_251 : decode cL_contestHolds 251 = .ok (.ifCond .ne 27, 3) := by decide +kernel
theorem dL_contestHolds_254 : decode cL_contestHolds 254 = .ok (.aload_n 0, 1) := by decide +kernel
theorem dL_contestHolds_255 : decode cL_contestHolds 255 = .ok (.iload_n 1, 1) := by decide +kernel
theorem dL_contestHolds_256 : decode cL_contestHolds 256 = .ok (.iload 5, 2) := by decide +kernel
theorem dL_contestHolds_258 : decode cL_contestHolds 258 = .ok (.invokestatic 125, 3) := by decide +kernel
theorem dL_contestHolds_261 : decode cL_contestHolds 261 = .ok (.aload_n 0, 1) := by decide +kernel
theorem dL_contestHolds_262 : decode cL_contestHolds 262 = .ok (.iload_n 1, 1) := by decide +kernel
theorem dL_contestHolds_263 : decode cL_contestHolds 263 = .ok (.iload 5, 2) := by decide +kernel
theorem dL_contestHolds_265 : decode cL_contestHolds 265 = .ok (.iconst 1, 1) := by decide +kernel
theorem dL_contestHolds_266 : decode cL_contestHolds 266 = .ok (.iadd, 1) := by decide +kernel
theorem dL_contestHolds_267 : decode cL_contestHolds 267 = .ok (.invokestatic 125, 3) := by decide +kernel
theorem dL_contestHolds_270 : decode cL_contestHolds 270 = .ok (.lcmp, 1) := by decide +kernel
theorem dL_contestHolds_271 : decode cL_contestHolds 271 = .ok (.ifCond .ge 7, 3) := by decide +kernel
theorem dL_contestHolds_274 : decode cL_contestHolds 274 = .ok (.iconst 1, 1) := by decide +kernel
theorem dL_contestHolds_275 : decode cL_contestHolds 275 = .ok (.goto 4, 3) := by decide +kernel
theorem dL_contestHolds_278 : decode cL_contestHolds 278 = .ok (.iconst 0, 1) := by decide +kernel
theorem dL_contestHolds_279 : decode cL_contestHolds 279 = .ok (.istore_n 3, 1) := by decide +kernel
theorem dL_contestHolds_280 : decode cL_contestHolds 280 = .ok (.iinc 5 1, 3) := by decide +kernel
theorem dL_contestHolds_283 : decode cL_contestHolds 283 = .ok (.goto (-92), 3) := by decide +kernel
theorem dL_contestHolds_286 : decode cL_contestHolds 286 = .ok (.iload_n 3, 1) := by decide +kernel
theorem dL_contestHolds_287 : decode cL_contestHolds 287 = .ok (.ifCond .eq 21, 3) := by decide +kernel
theorem dL_contestHolds_290 : decode cL_contestHolds 290 = .ok (.aload_n 0, 1) := by decide +kernel
theorem dL_contestHolds_291 : decode cL_contestHolds 291 = .ok (.iload_n 1, 1) := by decide +kernel
theorem dL_contestHolds_292 : decode cL_contestHolds 292 = .ok (.iload 4, 2) := by decide +kernel
theorem dL_contestHolds_294 : decode cL_contestHolds 294 = .ok (.invokestatic 125, 3) := by decide +kernel
theorem dL_contestHolds_297 : decode cL_contestHolds 297 = .ok (.ldc2_w 127, 3) := by decide +kernel
theorem dL_contestHolds_300 : decode cL_contestHolds 300 = .ok (.lcmp, 1) := by decide +kernel
theorem dL_contestHolds_301 : decode cL_contestHolds 301 = .ok (.ifCond .ne 7, 3) := by decide +kernel
theorem dL_contestHolds_304 : decode cL_contestHolds 304 = .ok (.iconst 1, 1) := by decide +kernel
theorem dL_contestHolds_305 : decode cL_contestHolds 305 = .ok (.goto 4, 3) := by decide +kernel
theorem dL_contestHolds_308 : decode cL_contestHolds 308 = .ok (.iconst 0, 1) := by decide +kernel
theorem dL_contestHolds_309 : decode cL_contestHolds 309 = .ok (.ireturn, 1) := by decide +kernel
set_option maxRecDepth 20000 in
theorem ggL_refuses_L_pressed : GoodIn wsL_refuses wsL_pressed := goodIn_ca (goodIn_r _ [6, 7, 1, 8, 9, 10, 11, 12, 13, 14, 15, 16, 17, 18, 19, 275, 276, 277, 278, 279, 280, 281, 282, 283, 284, 285, 286, 287] (by decide +kernel) (by decide +kernel)) (goodIn_sub (fun _ h => List.mem_cons_of_mem _ (List.mem_append_left _ (List.mem_append_left _ (List.mem_append_right _ h)))) (by decide +kernel))
set_option maxRecDepth 20000 in
theorem gL_refuses_L_pressed : GoodIn wsL_refuses (va_wsS RL 105 yL_pressed wsL_pressed) := goodIn_app (goodIn_of _ (by decide +kernel)) ggL_refuses_L_pressed
set_option maxRecDepth 20000 in
theorem ggL_refuses_L_time : GoodIn wsL_refuses wsL_time := goodIn_ca (goodIn_r _ [22, 7, 1, 23, 24, 25, 11, 26, 13, 14, 15, 16, 17, 18, 19, 27, 28, 29, 30, 31, 32, 33, 34, 35, 36, 37, 38, 39, 40, 41, 42, 43, 44, 45, 46, 47, 48, 49, 50, 51, 52, 53, 54, 55, 56, 57, 283, 284, 285, 286, 287, 275, 276, 277, 278, 279, 280, 281, 282] (by decide +kernel) (by decide +kernel)) (goodIn_sub (fun _ h => List.mem_cons_of_mem _ (List.mem_append_left _ (List.mem_append_left _ (List.mem_append_right _ h)))) (by decide +kernel))
set_option maxRecDepth 20000 in
theorem gL_refuses_L_time : GoodIn wsL_refuses (va_wsS RL 88 yL_time wsL_time) := goodIn_app (goodIn_of _ (by decide +kernel)) ggL_refuses_L_time
set_option maxRecDepth 20000 in
theorem ggL_refuses_L_carry : GoodIn wsL_refuses wsL_carry := goodIn_ca (goodIn_ca (goodIn_r _ [60, 7, 61, 1, 2, 62, 63, 64, 11, 65, 66, 67, 13, 14, 15, 16, 17, 18, 19, 275, 276, 277, 278, 279, 280, 281, 282, 283, 284, 285, 286, 287] (by decide +kernel) (by decide +kernel)) (goodIn_sub (fun _ h => List.mem_cons_of_mem _ (List.mem_append_left _ (List.mem_append_right _ h))) (by decide +kernel))) (goodIn_sub (fun _ h => List.mem_cons_of_mem _ (List.mem_append_left _ (List.mem_append_left _ (List.mem_append_right _ h)))) (by decide +kernel))
set_option maxRecDepth 20000 in
theorem gL_refuses_L_carry : GoodIn wsL_refuses (va_wsS RL 129 yL_carry wsL_carry) := goodIn_app (goodIn_of _ (by decide +kernel)) ggL_refuses_L_carry
set_option maxRecDepth 20000 in
theorem ggL_refuses_L_swap : GoodIn wsL_refuses wsL_swap := goodIn_ca (goodIn_ca (goodIn_r _ [70, 7, 61, 1, 2, 71, 72, 73, 11, 74, 13, 14, 15, 16, 17, 18, 19, 75, 76, 77, 66, 67, 78, 79, 80, 81, 28, 82, 83, 84, 27, 29, 30, 31, 32, 33, 34, 35, 36, 37, 38, 39, 40, 41, 42, 43, 44, 45, 46, 47, 48, 49, 50, 51, 52, 53, 54, 55, 56, 57, 85, 86, 87, 88, 89, 90, 91, 92, 283, 284, 285, 286, 287, 275, 276, 277, 278, 279, 280, 281, 282] (by decide +kernel) (by decide +kernel)) (goodIn_sub (fun _ h => List.mem_cons_of_mem _ (List.mem_append_left _ (List.mem_append_left _ (List.mem_append_right _ h)))) (by decide +kernel))) (goodIn_sub (fun _ h => List.mem_cons_of_mem _ (List.mem_append_left _ (List.mem_append_right _ h))) (by decide +kernel))
set_option maxRecDepth 20000 in
theorem gL_refuses_L_swap : GoodIn wsL_refuses (va_wsS RL 131 yL_swap wsL_swap) := goodIn_app (goodIn_of _ (by decide +kernel)) ggL_refuses_L_swap
set_option maxRecDepth 20000 in
theorem ggL_refuses_L_keyOf : GoodIn wsL_refuses wsL_keyOf := goodIn_ca (goodIn_r _ [95, 7, 1, 96, 97, 98, 11, 99, 13, 14, 15, 16, 17, 18, 19, 100, 101, 102, 36, 37, 38, 275, 276, 277, 278, 279, 280, 281, 282, 283, 284, 285, 286, 287] (by decide +kernel) (by decide +kernel)) (goodIn_sub (fun _ h => List.mem_cons_of_mem _ (List.mem_append_left _ (List.mem_append_left _ (List.mem_append_right _ h)))) (by decide +kernel))
set_option maxRecDepth 20000 in
theorem gL_refuses_L_keyOf : GoodIn wsL_refuses (va_wsS RL 95 yL_keyOf wsL_keyOf) := goodIn_app (goodIn_of _ (by decide +kernel)) ggL_refuses_L_keyOf
set_option maxRecDepth 20000 in
theorem ggL_refuses_L_letterOn : GoodIn wsL_refuses wsL_letterOn := goodIn_ca (goodIn_r _ [105, 7, 1, 106, 107, 108, 11, 109, 13, 14, 15, 16, 17, 18, 19, 78, 79, 80, 36, 37, 38, 275, 276, 277, 278, 279, 280, 281, 282, 283, 284, 285, 286, 287] (by decide +kernel) (by decide +kernel)) (goodIn_sub (fun _ h => List.mem_cons_of_mem _ (List.mem_append_left _ (List.mem_append_left _ (List.mem_append_right _ h)))) (by decide +kernel))
set_option maxRecDepth 20000 in
theorem gL_refuses_L_letterOn : GoodIn wsL_refuses (va_wsS RL 103 yL_letterOn wsL_letterOn) := goodIn_app (goodIn_of _ (by decide +kernel)) ggL_refuses_L_letterOn
set_option maxRecDepth 20000 in
theorem ggL_refuses_L_press : GoodIn wsL_refuses wsL_press := goodIn_ca (goodIn_r _ [112, 7, 1, 113, 114, 115, 11, 116, 13, 14, 15, 16, 17, 18, 19, 100, 101, 102, 78, 79, 80, 117, 28, 118, 119, 33, 90, 32, 120, 31, 121, 37, 38, 122, 123, 36, 124, 91, 92, 125, 126, 127, 128, 129, 130, 131, 132, 133, 134, 283, 284, 285, 286, 287, 275, 276, 277, 278, 279, 280, 281, 282] (by decide +kernel) (by decide +kernel)) (goodIn_sub (fun _ h => List.mem_cons_of_mem _ (List.mem_append_left _ (List.mem_append_left _ (List.mem_append_right _ h)))) (by decide +kernel))
set_option maxRecDepth 20000 in
theorem gL_refuses_L_press : GoodIn wsL_refuses (va_wsS RL 133 yL_press wsL_press) := goodIn_app (goodIn_of _ (by decide +kernel)) ggL_refuses_L_press
set_option maxRecDepth 20000 in
theorem ggL_refuses_L_slips : GoodIn wsL_refuses wsL_slips := goodIn_ca (goodIn_ca (goodIn_r _ [137, 7, 61, 1, 2, 138, 139, 140, 11, 141, 66, 67, 13, 14, 15, 16, 17, 18, 19, 142, 143, 144, 145, 28, 146, 147, 90, 148, 149, 49, 50, 51, 55, 56, 57, 37, 38, 283, 284, 285, 286, 287, 275, 276, 277, 278, 279, 280, 281, 282] (by decide +kernel) (by decide +kernel)) (goodIn_sub (fun _ h => List.mem_cons_of_mem _ (List.mem_append_left _ (List.mem_append_right _ h))) (by decide +kernel))) (goodIn_sub (fun _ h => List.mem_cons_of_mem _ (List.mem_append_left _ (List.mem_append_left _ (List.mem_append_right _ h)))) (by decide +kernel))
set_option maxRecDepth 20000 in
theorem gL_refuses_L_slips : GoodIn wsL_refuses (va_wsS RL 98 yL_slips wsL_slips) := goodIn_app (goodIn_of _ (by decide +kernel)) ggL_refuses_L_slips
set_option maxRecDepth 20000 in
theorem ggL_refuses_L_pair : GoodIn wsL_refuses wsL_pair := goodIn_ca (goodIn_r _ [152, 7, 1, 153, 154, 155, 11, 156, 13, 14, 15, 16, 17, 18, 19, 100, 101, 102, 157, 125, 126, 36, 37, 38, 275, 276, 277, 278, 279, 280, 281, 282, 283, 284, 285, 286, 287] (by decide +kernel) (by decide +kernel)) (goodIn_sub (fun _ h => List.mem_cons_of_mem _ (List.mem_append_left _ (List.mem_append_left _ (List.mem_append_right _ h)))) (by decide +kernel))
set_option maxRecDepth 20000 in
theorem gL_refuses_L_pair : GoodIn wsL_refuses (va_wsS RL 107 yL_pair wsL_pair) := goodIn_app (goodIn_of _ (by decide +kernel)) ggL_refuses_L_pair
set_option maxRecDepth 20000 in
theorem ggL_refuses_L_history : GoodIn wsL_refuses wsL_history := goodIn_ca (goodIn_r _ [160, 7, 1, 161, 162, 163, 11, 164, 17, 18, 13, 14, 15, 16, 19, 36, 37, 38, 275, 276, 277, 278, 279, 280, 281, 282, 283, 284, 285, 286, 287] (by decide +kernel) (by decide +kernel)) (goodIn_sub (fun _ h => List.mem_cons_of_mem _ (List.mem_append_left _ (List.mem_append_left _ (List.mem_append_right _ h)))) (by decide +kernel))
set_option maxRecDepth 20000 in
theorem gL_refuses_L_history : GoodIn wsL_refuses (va_wsS RL 135 yL_history wsL_history) := goodIn_app (goodIn_of _ (by decide +kernel)) ggL_refuses_L_history
set_option maxRecDepth 20000 in
theorem ggL_refuses_L_lesson : GoodIn wsL_refuses wsL_lesson := goodIn_ca (goodIn_r _ [167, 7, 1, 168, 169, 170, 11, 171, 17, 18, 13, 14, 15, 16, 19, 172, 28, 173, 174, 175, 176, 177, 178, 179, 180, 181, 182, 90, 33, 37, 38, 283, 284, 285, 286, 287, 275, 276, 277, 278, 279, 280, 281, 282] (by decide +kernel) (by decide +kernel)) (goodIn_sub (fun _ h => List.mem_cons_of_mem _ (List.mem_append_left _ (List.mem_append_left _ (List.mem_append_right _ h)))) (by decide +kernel))
set_option maxRecDepth 20000 in
theorem gL_refuses_L_lesson : GoodIn wsL_refuses (va_wsS RL 117 yL_lesson wsL_lesson) := goodIn_app (goodIn_of _ (by decide +kernel)) ggL_refuses_L_lesson
set_option maxRecDepth 20000 in
theorem ggL_refuses_L_saves : GoodIn wsL_refuses wsL_saves := goodIn_ca (goodIn_ca (goodIn_r _ [185, 7, 61, 1, 2, 186, 187, 188, 11, 189, 13, 14, 15, 16, 17, 18, 19, 75, 76, 77, 66, 67, 78, 79, 80, 81, 28, 82, 83, 84, 27, 29, 30, 31, 32, 33, 34, 35, 36, 37, 38, 39, 40, 41, 42, 43, 44, 45, 46, 47, 48, 49, 50, 51, 52, 53, 54, 55, 56, 57, 283, 284, 285, 286, 287, 275, 276, 277, 278, 279, 280, 281, 282] (by decide +kernel) (by decide +kernel)) (goodIn_sub (fun _ h => List.mem_cons_of_mem _ (List.mem_append_left _ (List.mem_append_left _ (List.mem_append_right _ h)))) (by decide +kernel))) (goodIn_sub (fun _ h => List.mem_cons_of_mem _ (List.mem_append_left _ (List.mem_append_right _ h))) (by decide +kernel))
set_option maxRecDepth 20000 in
theorem gL_refuses_L_saves : GoodIn wsL_refuses (va_wsS RL 111 yL_saves wsL_saves) := goodIn_app (goodIn_of _ (by decide +kernel)) ggL_refuses_L_saves
set_option maxRecDepth 20000 in
theorem ggL_refuses_L_draft : GoodIn wsL_refuses wsL_draft := goodIn_ca (goodIn_ca (goodIn_r _ [192, 7, 193, 1, 194, 195, 196, 197, 11, 198, 199, 200, 201, 202, 100, 101, 102, 17, 18, 124, 91, 92, 283, 284, 285, 286, 287] (by decide +kernel) (by decide +kernel)) (goodIn_sub (fun _ h => List.mem_cons_of_mem _ (List.mem_append_right _ h)) (by decide +kernel))) (goodIn_sub (fun _ h => List.mem_cons_of_mem _ (List.mem_append_left _ (List.mem_append_left _ (List.mem_append_right _ h)))) (by decide +kernel))
set_option maxRecDepth 20000 in
theorem gL_refuses_L_draft : GoodIn wsL_refuses (va_wsS RL 137 yL_draft wsL_draft) := goodIn_app (goodIn_of _ (by decide +kernel)) ggL_refuses_L_draft
set_option maxRecDepth 20000 in
theorem ggL_refuses_L_result : GoodIn wsL_refuses wsL_result := goodIn_ca (goodIn_ca (goodIn_ca (goodIn_r _ [205, 7, 61, 193, 1, 2, 194, 206, 207, 208, 11, 209, 66, 67, 199, 200, 210, 211, 212, 213, 214, 17, 18, 215, 216, 217, 218, 36, 37, 38, 219, 220, 221, 222, 223, 124, 91, 92, 288, 289, 290, 283, 284, 285, 286, 287] (by decide +kernel) (by decide +kernel)) (goodIn_sub (fun _ h => List.mem_cons_of_mem _ (List.mem_append_left _ (List.mem_append_right _ h))) (by decide +kernel))) (goodIn_sub (fun _ h => List.mem_cons_of_mem _ (List.mem_append_right _ h)) (by decide +kernel))) (goodIn_sub (fun _ h => List.mem_cons_of_mem _ (List.mem_append_left _ (List.mem_append_left _ (List.mem_append_right _ h)))) (by decide +kernel))
set_option maxRecDepth 20000 in
theorem gL_refuses_L_result : GoodIn wsL_refuses (va_wsS RL 139 yL_result wsL_result) := goodIn_app (goodIn_of _ (by decide +kernel)) ggL_refuses_L_result
set_option maxRecDepth 20000 in
theorem ggL_refuses_L_of : GoodIn wsL_refuses wsL_of := goodIn_ca (goodIn_ca (goodIn_r _ [226, 7, 61, 1, 2, 227, 228, 229, 11, 230, 66, 67, 211, 212, 213, 214, 17, 18, 215, 216, 217, 218, 36, 37, 38, 219, 220, 221, 222, 223, 231, 232, 233, 234, 235, 236, 237, 238, 239, 283, 284, 285, 286, 287, 288, 289, 290] (by decide +kernel) (by decide +kernel)) (goodIn_sub (fun _ h => List.mem_cons_of_mem _ (List.mem_append_left _ (List.mem_append_right _ h))) (by decide +kernel))) (goodIn_sub (fun _ h => List.mem_cons_of_mem _ (List.mem_append_left _ (List.mem_append_left _ (List.mem_append_right _ h)))) (by decide +kernel))
set_option maxRecDepth 20000 in
theorem gL_refuses_L_of : GoodIn wsL_refuses (va_wsS RL 119 yL_of wsL_of) := goodIn_app (goodIn_of _ (by decide +kernel)) ggL_refuses_L_of
set_option maxRecDepth 20000 in
theorem ggL_refuses_L_ranked : GoodIn wsL_refuses wsL_ranked := goodIn_ca (goodIn_r _ [242, 7, 1, 243, 244, 245, 11, 246, 17, 18, 211, 212, 213, 214, 215, 247, 220, 248, 249, 239, 219, 221, 222, 223, 37, 38, 235, 236, 237, 238, 234, 283, 284, 285, 286, 287, 288, 289, 290] (by decide +kernel) (by decide +kernel)) (goodIn_sub (fun _ h => List.mem_cons_of_mem _ (List.mem_append_left _ (List.mem_append_left _ (List.mem_append_right _ h)))) (by decide +kernel))
set_option maxRecDepth 20000 in
theorem gL_refuses_L_ranked : GoodIn wsL_refuses (va_wsS RL 125 yL_ranked wsL_ranked) := goodIn_app (goodIn_of _ (by decide +kernel)) ggL_refuses_L_ranked
set_option maxRecDepth 20000 in
theorem ggL_refuses_L_best : GoodIn wsL_refuses wsL_best := goodIn_ca (goodIn_r _ [252, 7, 1, 253, 254, 255, 11, 256, 13, 14, 15, 16, 17, 18, 19, 257, 28, 258, 259, 84, 27, 29, 30, 31, 32, 33, 34, 35, 36, 37, 38, 39, 40, 41, 42, 43, 44, 45, 46, 47, 48, 49, 50, 51, 52, 53, 54, 55, 56, 57, 283, 284, 285, 286, 287, 275, 276, 277, 278, 279, 280, 281, 282] (by decide +kernel) (by decide +kernel)) (goodIn_sub (fun _ h => List.mem_cons_of_mem _ (List.mem_append_left _ (List.mem_append_left _ (List.mem_append_right _ h)))) (by decide +kernel))
set_option maxRecDepth 20000 in
theorem gL_refuses_L_best : GoodIn wsL_refuses (va_wsS RL 109 yL_best wsL_best) := goodIn_app (goodIn_of _ (by decide +kernel)) ggL_refuses_L_best
set_option maxRecDepth 20000 in
theorem ggL_refuses_L_timeAnew : GoodIn wsL_refuses wsL_timeAnew := goodIn_ca (goodIn_r _ [262, 7, 1, 263, 264, 265, 11, 266, 267, 13, 14, 15, 16, 17, 18, 19, 268, 28, 269, 270, 32, 31, 33, 271, 272, 273, 274, 37, 38, 125, 126, 122, 123, 36, 124, 91, 92, 43, 44, 45, 46, 47, 48, 49, 50, 51, 52, 53, 54, 55, 56, 57, 283, 284, 285, 286, 287, 275, 276, 277, 278, 279, 280, 281, 282] (by decide +kernel) (by decide +kernel)) (goodIn_sub (fun _ h => List.mem_cons_of_mem _ (List.mem_append_left _ (List.mem_append_left _ (List.mem_append_right _ h)))) (by decide +kernel))
set_option maxRecDepth 20000 in
theorem gL_refuses_L_timeAnew : GoodIn wsL_refuses (va_wsS RL 93 yL_timeAnew wsL_timeAnew) := goodIn_app (goodIn_of _ (by decide +kernel)) ggL_refuses_L_timeAnew
theorem dL_refuses_0 : decode cL_refuses 0 = .ok (.aload_n 0, 1) := by decide +kernel
theorem dL_refuses_1 : decode cL_refuses 1 = .ok (.iconst 0, 1) := by decide +kernel
theorem dL_refuses_2 : decode cL_refuses 2 = .ok (.invokestatic 105, 3) := by decide +kernel
theorem dL_refuses_5 : decode cL_refuses 5 = .ok (.lstore_n 1, 1) := by decide +kernel
theorem dL_refuses_6 : decode cL_refuses 6 = .ok (.aload_n 0, 1) := by decide +kernel
theorem dL_refuses_7 : decode cL_refuses 7 = .ok (.iconst 0, 1) := by decide +kernel
theorem dL_refuses_8 : decode cL_refuses 8 = .ok (.invokestatic 88, 3) := by decide +kernel
theorem dL_refuses_11 : decode cL_refuses 11 = .ok (.lstore_n 3, 1) := by decide +kernel
theorem dL_refuses_12 : decode cL_refuses 12 = .ok (.aload_n 0, 1) := by decide +kernel
theorem dL_refuses_13 : decode cL_refuses 13 = .ok (.iconst 5, 1) := by decide +kernel
theorem dL_refuses_14 : decode cL_refuses 14 = .ok (.iconst 0, 1) := by decide +kernel
theorem dL_refuses_15 : decode cL_refuses 15 = .ok (.invokestatic 129, 3) := by decide +kernel
theorem dL_refuses_18 : decode cL_refuses 18 = .ok (.ldc2_w 25, 3) := by decide +kernel
theorem dL_refuses_21 : decode cL_refuses 21 = .ok (.lcmp, 1) := by decide +kernel
theorem dL_refuses_22 : decode cL_refuses 22 = .ok (.ifCond .ne 217, 3) := by decide +kernel
theorem dL_refuses_25 : decode cL_refuses 25 = .ok (.aload_n 0, 1) := by decide +kernel
theorem dL_refuses_26 : decode cL_refuses 26 = .ok (.iconst 0, 1) := by decide +kernel
theorem dL_refuses_27 : decode cL_refuses 27 = .ok (.iconst 2, 1) := by decide +kernel
theorem dL_refuses_28 : decode cL_refuses 28 = .ok (.invokestatic 129, 3) := by decide +kernel
theorem dL_refuses_31 : decode cL_refuses 31 = .ok (.ldc2_w 29, 3) := by decide +kernel
theorem dL_refuses_34 : decode cL_refuses 34 = .ok (.lcmp, 1) := by decide +kernel
theorem dL_refuses_35 : decode cL_refuses 35 = .ok (.ifCond .ne 204, 3) := by decide +kernel
theorem dL_refuses_38 : decode cL_refuses 38 = .ok (.aload_n 0, 1) := by decide +kernel
theorem dL_refuses_39 : decode cL_refuses 39 = .ok (.iconst (-1), 1) := by decide +kernel
theorem dL_refuses_40 : decode cL_refuses 40 = .ok (.iconst 0, 1) := by decide +kernel
theorem dL_refuses_41 : decode cL_refuses 41 = .ok (.iconst 1, 1) := by decide +kernel
theorem dL_refuses_42 : decode cL_refuses 42 = .ok (.invokestatic 131, 3) := by decide +kernel
theorem dL_refuses_45 : decode cL_refuses 45 = .ok (.ldc2_w 25, 3) := by decide +kernel
theorem dL_refuses_48 : decode cL_refuses 48 = .ok (.lcmp, 1) := by decide +kernel
theorem dL_refuses_49 : decode cL_refuses 49 = .ok (.ifCond .ne 190, 3) := by decide +kernel
theorem dL_refuses_52 : decode cL_refuses 52 = .ok (.aload_n 0, 1) := by decide +kernel
theorem dL_refuses_53 : decode cL_refuses 53 = .ok (.iconst 0, 1) := by decide +kernel
theorem dL_refuses_54 : decode cL_refuses 54 = .ok (.bipush 12, 2) := by decide +kernel
theorem dL_refuses_56 : decode cL_refuses 56 = .ok (.iconst 1, 1) := by decide +kernel
theorem dL_refuses_57 : decode cL_refuses 57 = .ok (.invokestatic 131, 3) := by decide +kernel
theorem dL_refuses_60 : decode cL_refuses 60 = .ok (.ldc2_w 25, 3) := by decide +kernel
theorem dL_refuses_63 : decode cL_refuses 63 = .ok (.lcmp, 1) := by decide +kernel
theorem dL_refuses_64 : decode cL_refuses 64 = .ok (.ifCond .ne 175, 3) := by decide +kernel
theorem dL_refuses_67 : decode cL_refuses 67 = .ok (.aload_n 0, 1) := by decide +kernel
theorem dL_refuses_68 : decode cL_refuses 68 = .ok (.iconst 0, 1) := by decide +kernel
theorem dL_refuses_69 : decode cL_refuses 69 = .ok (.iconst 3, 1) := by decide +kernel
theorem dL_refuses_70 : decode cL_refuses 70 = .ok (.iconst 3, 1) := by decide +kernel
theorem dL_refuses_71 : decode cL_refuses 71 = .ok (.invokestatic 131, 3) := by decide +kernel
theorem dL_refuses_74 : decode cL_refuses 74 = .ok (.ldc2_w 29, 3) := by decide +kernel
theorem dL_refuses_77 : decode cL_refuses 77 = .ok (.lcmp, 1) := by decide +kernel
theorem dL_refuses_78 : decode cL_refuses 78 = .ok (.ifCond .ne 161, 3) := by decide +kernel
theorem dL_refuses_81 : decode cL_refuses 81 = .ok (.aload_n 0, 1) := by decide +kernel
theorem dL_refuses_82 : decode cL_refuses 82 = .ok (.iconst 0, 1) := by decide +kernel
theorem dL_refuses_83 : decode cL_refuses 83 = .ok (.bipush 12, 2) := by decide +kernel
theorem dL_refuses_85 : decode cL_refuses 85 = .ok (.invokestatic 95, 3) := by decide +kernel
theorem dL_refuses_88 : decode cL_refuses 88 = .ok (.ldc2_w 25, 3) := by decide +kernel
theorem dL_refuses_91 : decode cL_refuses 91 = .ok (.lcmp, 1) := by decide +kernel
theorem dL_refuses_92 : decode cL_refuses 92 = .ok (.ifCond .ne 147, 3) := by decide +kernel
theorem dL_refuses_95 : decode cL_refuses 95 = .ok (.aload_n 0, 1) := by decide +kernel
theorem dL_refuses_96 : decode cL_refuses 96 = .ok (.iconst 0, 1) := by decide +kernel
theorem dL_refuses_97 : decode cL_refuses 97 = .ok (.iconst (-1), 1) := by decide +kernel
theorem dL_refuses_98 : decode cL_refuses 98 = .ok (.invokestatic 103, 3) := by decide +kernel
theorem dL_refuses_101 : decode cL_refuses 101 = .ok (.ldc2_w 25, 3) := by decide +kernel
theorem dL_refuses_104 : decode cL_refuses 104 = .ok (.lcmp, 1) := by decide +kernel
theorem dL_refuses_105 : decode cL_refuses 105 = .ok (.ifCond .ne 134, 3) := by decide +kernel
theorem dL_refuses_108 : decode cL_refuses 108 = .ok (.aload_n 0, 1) := by decide +kernel
theorem dL_refuses_109 : decode cL_refuses 109 = .ok (.iconst 0, 1) := by decide +kernel
theorem dL_refuses_110 : decode cL_refuses 110 = .ok (.bipush 12, 2) := by decide +kernel
theorem dL_refuses_112 : decode cL_refuses 112 = .ok (.iconst 0, 1) := by decide +kernel
theorem dL_refuses_113 : decode cL_refuses 113 = .ok (.invokestatic 133, 3) := by decide +kernel
theorem dL_refuses_116 : decode cL_refuses 116 = .ok (.ldc2_w 25, 3) := by decide +kernel
theorem dL_refuses_119 : decode cL_refuses 119 = .ok (.lcmp, 1) := by decide +kernel
theorem dL_refuses_120 : decode cL_refuses 120 = .ok (.ifCond .ne 119, 3) := by decide +kernel
theorem dL_refuses_123 : decode cL_refuses 123 = .ok (.aload_n 0, 1) := by decide +kernel
theorem dL_refuses_124 : decode cL_refuses 124 = .ok (.iconst 0, 1) := by decide +kernel
theorem dL_refuses_125 : decode cL_refuses 125 = .ok (.iconst 0, 1) := by decide +kernel
theorem dL_refuses_126 : decode cL_refuses 126 = .ok (.iconst (-1), 1) := by decide +kernel
theorem dL_refuses_127 : decode cL_refuses 127 = .ok (.invokestatic 133, 3) := by decide +kernel
theorem dL_refuses_130 : decode cL_refuses 130 = .ok (.ldc2_w 25, 3) := by decide +kernel
theorem dL_refuses_133 : decode cL_refuses 133 = .ok (.lcmp, 1) := by decide +kernel
theorem dL_refuses_134 : decode cL_refuses 134 = .ok (.ifCond .ne 105, 3) := by decide +kernel
theorem dL_refuses_137 : decode cL_refuses 137 = .ok (.aload_n 0, 1) := by decide +kernel
theorem dL_refuses_138 : decode cL_refuses 138 = .ok (.iconst 0, 1) := by decide +kernel
theorem dL_refuses_139 : decode cL_refuses 139 = .ok (.iconst 4, 1) := by decide +kernel
theorem dL_refuses_140 : decode cL_refuses 140 = .ok (.iconst 0, 1) := by decide +kernel
theorem dL_refuses_141 : decode cL_refuses 141 = .ok (.invokestatic 98, 3) := by decide +kernel
theorem dL_refuses_144 : decode cL_refuses 144 = .ok (.ldc2_w 29, 3) := by decide +kernel
theorem dL_refuses_147 : decode cL_refuses 147 = .ok (.lcmp, 1) := by decide +kernel
theorem dL_refuses_148 : decode cL_refuses 148 = .ok (.ifCond .ne 91, 3) := by decide +kernel
theorem dL_refuses_151 : decode cL_refuses 151 = .ok (.aload_n 0, 1) := by decide +kernel
theorem dL_refuses_152 : decode cL_refuses 152 = .ok (.iconst 0, 1) := by decide +kernel
theorem dL_refuses_153 : decode cL_refuses 153 = .ok (.iconst 1, 1) := by decide +kernel
theorem dL_refuses_154 : decode cL_refuses 154 = .ok (.bipush 6, 2) := by decide +kernel
theorem dL_refuses_156 : decode cL_refuses 156 = .ok (.invokestatic 98, 3) := by decide +kernel
theorem dL_refuses_159 : decode cL_refuses 159 = .ok (.ldc2_w 29, 3) := by decide +kernel
theorem dL_refuses_162 : decode cL_refuses 162 = .ok (.lcmp, 1) := by decide +kernel
theorem dL_refuses_163 : decode cL_refuses 163 = .ok (.ifCond .ne 76, 3) := by decide +kernel
theorem dL_refuses_166 : decode cL_refuses 166 = .ok (.aload_n 0, 1) := by decide +kernel
theorem dL_refuses_167 : decode cL_refuses 167 = .ok (.iconst 0, 1) := by decide +kernel
theorem dL_refuses_168 : decode cL_refuses 168 = .ok (.iconst 3, 1) := by decide +kernel
theorem dL_refuses_169 : decode cL_refuses 169 = .ok (.iconst 1, 1) := by decide +kernel
theorem dL_refuses_170 : decode cL_refuses 170 = .ok (.invokestatic 98, 3) := by decide +kernel
theorem dL_refuses_173 : decode cL_refuses 173 = .ok (.ldc2_w 29, 3) := by decide +kernel
theorem dL_refuses_176 : decode cL_refuses 176 = .ok (.lcmp, 1) := by decide +kernel
theorem dL_refuses_177 : decode cL_refuses 177 = .ok (.ifCond .ne 62, 3) := by decide +kernel
theorem dL_refuses_180 : decode cL_refuses 180 = .ok (.aload_n 0, 1) := by decide +kernel
theorem dL_refuses_181 : decode cL_refuses 181 = .ok (.iconst 0, 1) := by decide +kernel
theorem dL_refuses_182 : decode cL_refuses 182 = .ok (.bipush 12, 2) := by decide +kernel
theorem dL_refuses_184 : decode cL_refuses 184 = .ok (.iconst 0, 1) := by decide +kernel
theorem dL_refuses_185 : decode cL_refuses 185 = .ok (.invokestatic 107, 3) := by decide +kernel
theorem dL_refuses_188 : decode cL_refuses 188 = .ok (.ldc2_w 25, 3) := by decide +kernel
theorem dL_refuses_191 : decode cL_refuses 191 = .ok (.lcmp, 1) := by decide +kernel
theorem dL_refuses_192 : decode cL_refuses 192 = .ok (.ifCond .ne 47, 3) := by decide +kernel
theorem dL_refuses_195 : decode cL_refuses 195 = .ok (.aload_n 0, 1) := by decide +kernel
theorem dL_refuses_196 : decode cL_refuses 196 = .ok (.iconst 0, 1) := by decide +kernel
theorem dL_refuses_197 : decode cL_refuses 197 = .ok (.iconst (-1), 1) := by decide +kernel
theorem dL_refuses_198 : decode cL_refuses 198 = .ok (.invokestatic 135, 3) := by decide +kernel
theorem dL_refuses_201 : decode cL_refuses 201 = .ok (.ldc2_w 25, 3) := by decide +kernel
theorem dL_refuses_204 : decode cL_refuses 204 = .ok (.lcmp, 1) := by decide +kernel
theorem dL_refuses_205 : decode cL_refuses 205 = .ok (.ifCond .ne 34, 3) := by decide +kernel
theorem dL_refuses_208 : decode cL_refuses 208 = .ok (.aload_n 0, 1) := by decide +kernel
theorem dL_refuses_209 : decode cL_refuses 209 = .ok (.iconst 0, 1) := by decide +kernel
theorem dL_refuses_210 : decode cL_refuses 210 = .ok (.iconst (-1), 1) := by decide +kernel
theorem dL_refuses_211 : decode cL_refuses 211 = .ok (.invokestatic 117, 3) := by decide +kernel
theorem dL_refuses_214 : decode cL_refuses 214 = .ok (.ldc2_w 25, 3) := by decide +kernel
theorem dL_refuses_217 : decode cL_refuses 217 = .ok (.lcmp, 1) := by decide +kernel
theorem dL_refuses_218 : decode cL_refuses 218 = .ok (.ifCond .ne 21, 3) := by decide +kernel
theorem dL_refuses_221 : decode cL_refuses 221 = .ok (.aload_n 0, 1) := by decide +kernel
theorem dL_refuses_222 : decode cL_refuses 222 = .ok (.iconst 0, 1) := by decide +kernel
theorem dL_refuses_223 : decode cL_refuses 223 = .ok (.iconst 1, 1) := by decide +kernel
theorem dL_refuses_224 : decode cL_refuses 224 = .ok (.iconst 1, 1) := by decide +kernel
theorem dL_refuses_225 : decode cL_refuses 225 = .ok (.invokestatic 111, 3) := by decide +kernel
theorem dL_refuses_228 : decode cL_refuses 228 = .ok (.ldc2_w 29, 3) := by decide +kernel
theorem dL_refuses_231 : decode cL_refuses 231 = .ok (.lcmp, 1) := by decide +kernel
theorem dL_refuses_232 : decode cL_refuses 232 = .ok (.ifCond .ne 7, 3) := by decide +kernel
theorem dL_refuses_235 : decode cL_refuses 235 = .ok (.iconst 1, 1) := by decide +kernel
theorem dL_refuses_236 : decode cL_refuses 236 = .ok (.goto 4, 3) := by decide +kernel
theorem dL_refuses_239 : decode cL_refuses 239 = .ok (.iconst 0, 1) := by decide +kernel
theorem dL_refuses_240 : decode cL_refuses 240 = .ok (.istore 5, 2) := by decide +kernel
theorem dL_refuses_242 : decode cL_refuses 242 = .ok (.iload 5, 2) := by decide +kernel
theorem dL_refuses_244 : decode cL_refuses 244 = .ok (.ifCond .eq 107, 3) := by decide +kernel
theorem dL_refuses_247 : decode cL_refuses 247 = .ok (.aload_n 0, 1) := by decide +kernel
theorem dL_refuses_248 : decode cL_refuses 248 = .ok (.bipush 12, 2) := by decide +kernel
theorem dL_refuses_250 : decode cL_refuses 250 = .ok (.invokestatic 137, 3) := by decide +kernel
theorem dL_refuses_253 : decode cL_refuses 253 = .ok (.ldc2_w 25, 3) := by decide +kernel
theorem dL_refuses_256 : decode cL_refuses 256 = .ok (.lcmp, 1) := by decide +kernel
theorem dL_refuses_257 : decode cL_refuses 257 = .ok (.ifCond .ne 94, 3) := by decide +kernel
theorem dL_refuses_260 : decode cL_refuses 260 = .ok (.aload_n 0, 1) := by decide +kernel
theorem dL_refuses_261 : decode cL_refuses 261 = .ok (.bipush 6, 2) := by decide +kernel
theorem dL_refuses_263 : decode cL_refuses 263 = .ok (.iconst 0, 1) := by decide +kernel
theorem dL_refuses_264 : decode cL_refuses 264 = .ok (.iconst 1, 1) := by decide +kernel
theorem dL_refuses_265 : decode cL_refuses 265 = .ok (.invokestatic 139, 3) := by decide +kernel
theorem dL_refuses_268 : decode cL_refuses 268 = .ok (.ldc2_w 25, 3) := by decide +kernel
theorem dL_refuses_271 : decode cL_refuses 271 = .ok (.lcmp, 1) := by decide +kernel
theorem dL_refuses_272 : decode cL_refuses 272 = .ok (.ifCond .ne 79, 3) := by decide +kernel
theorem dL_refuses_275 : decode cL_refuses 275 = .ok (.aload_n 0, 1) := by decide +kernel
theorem dL_refuses_276 : decode cL_refuses 276 = .ok (.iconst (-1), 1) := by decide +kernel
theorem dL_refuses_277 : decode cL_refuses 277 = .ok (.iconst 0, 1) := by decide +kernel
theorem dL_refuses_278 : decode cL_refuses 278 = .ok (.iconst 0, 1) := by decide +kernel
theorem dL_refuses_279 : decode cL_refuses 279 = .ok (.invokestatic 119, 3) := by decide +kernel
theorem dL_refuses_282 : decode cL_refuses 282 = .ok (.ldc2_w 25, 3) := by decide +kernel
theorem dL_refuses_285 : decode cL_refuses 285 = .ok (.lcmp, 1) := by decide +kernel
theorem dL_refuses_286 : decode cL_refuses 286 = .ok (.ifCond .ne 65, 3) := by decide +kernel
theorem dL_refuses_289 : decode cL_refuses 289 = .ok (.aload_n 0, 1) := by decide +kernel
theorem dL_refuses_290 : decode cL_refuses 290 = .ok (.bipush 6, 2) := by decide +kernel
theorem dL_refuses_292 : decode cL_refuses 292 = .ok (.iconst 0, 1) := by decide +kernel
theorem dL_refuses_293 : decode cL_refuses 293 = .ok (.invokestatic 125, 3) := by decide +kernel
theorem dL_refuses_296 : decode cL_refuses 296 = .ok (.ldc2_w 25, 3) := by decide +kernel
theorem dL_refuses_299 : decode cL_refuses 299 = .ok (.lcmp, 1) := by decide +kernel
theorem dL_refuses_300 : decode cL_refuses 300 = .ok (.ifCond .ne 51, 3) := by decide +kernel
theorem dL_refuses_303 : decode cL_refuses 303 = .ok (.aload_n 0, 1) := by decide +kernel
theorem dL_refuses_304 : decode cL_refuses 304 = .ok (.iconst 5, 1) := by decide +kernel
theorem dL_refuses_305 : decode cL_refuses 305 = .ok (.invokestatic 109, 3) := by decide +kernel
theorem dL_refuses_308 : decode cL_refuses 308 = .ok (.ldc2_w 25, 3) := by decide +kernel
theorem dL_refuses_311 : decode cL_refuses 311 = .ok (.lcmp, 1) := by decide +kernel
theorem dL_refuses_312 : decode cL_refuses 312 = .ok (.ifCond .ne 39, 3) := by decide +kernel
theorem dL_refuses_315 : decode cL_refuses 315 = .ok (.aload_n 0, 1) := by decide +kernel
theorem dL_refuses_316 : decode cL_refuses 316 = .ok (.iconst (-1), 1) := by decide +kernel
theorem dL_refuses_317 : decode cL_refuses 317 = .ok (.invokestatic 93, 3) := by decide +kernel
theorem dL_refuses_320 : decode cL_refuses 320 = .ok (.ldc2_w 25, 3) := by decide +kernel
theorem dL_refuses_323 : decode cL_refuses 323 = .ok (.lcmp, 1) := by decide +kernel
theorem dL_refuses_324 : decode cL_refuses 324 = .ok (.ifCond .ne 27, 3) := by decide +kernel
theorem dL_refuses_327 : decode cL_refuses 327 = .ok (.aload_n 0, 1) := by decide +kernel
theorem dL_refuses_328 : decode cL_refuses 328 = .ok (.iconst 0, 1) := by decide +kernel
theorem dL_refuses_329 : decode cL_refuses 329 = .ok (.invokestatic 105, 3) := by decide +kernel
theorem dL_refuses_332 : decode cL_refuses 332 = .ok (.lload_n 1, 1) := by decide +kernel
theorem dL_refuses_333 : decode cL_refuses 333 = .ok (.lcmp, 1) := by decide +kernel
theorem dL_refuses_334 : decode cL_refuses 334 = .ok (.ifCond .ne 17, 3) := by decide +kernel
theorem dL_refuses_337 : decode cL_refuses 337 = .ok (.aload_n 0, 1) := by decide +kernel
theorem dL_refuses_338 : decode cL_refuses 338 = .ok (.iconst 0, 1) := by decide +kernel
theorem dL_refuses_339 : decode cL_refuses 339 = .ok (.invokestatic 88, 3) := by decide +kernel
theorem dL_refuses_342 : decode cL_refuses 342 = .ok (.lload_n 3, 1) := by decide +kernel
theorem dL_refuses_343 : decode cL_refuses 343 = .ok (.lcmp, 1) := by decide +kernel
theorem dL_refuses_344 : decode cL_refuses 344 = .ok (.ifCond .ne 7, 3) := by decide +kernel
theorem dL_refuses_347 : decode cL_refuses 347 = .ok (.iconst 1, 1) := by decide +kernel
theorem dL_refuses_348 : decode cL_refuses 348 = .ok (.goto 4, 3) := by decide +kernel
theorem dL_refuses_351 : decode cL_refuses 351 = .ok (.iconst 0, 1) := by decide +kernel
theorem dL_refuses_352 : decode cL_refuses 352 = .ok (.ireturn, 1) := by decide +kernel
set_option maxRecDepth 20000 in
theorem ggL_law_X2_init : GoodIn wsL_law wsX2_init := goodIn_r _ [9, 10, 11, 12, 13, 14, 15, 16, 3, 17, 18, 19, 339, 340, 341, 342, 343] (by decide +kernel) (by decide +kernel)
set_option maxRecDepth 20000 in
theorem gL_law_X2_init : GoodIn wsL_law (wsX2_init) := ggL_law_X2_init
set_option maxRecDepth 20000 in
theorem ggL_law_L_student : GoodIn wsL_law wsL_student := goodIn_ca (goodIn_r _ [23, 24, 5, 25, 26, 27, 2, 28, 29, 30, 14, 13, 31, 32, 33, 34, 35, 11, 12, 3, 36, 37, 38, 39, 40, 41, 42, 43, 44, 45, 339, 340, 341, 342, 343, 344, 345, 346, 347, 348, 349, 350, 351] (by decide +kernel) (by decide +kernel)) (goodIn_sub (fun _ h => List.mem_append_left _ (List.mem_append_left _ (List.mem_append_right _ h))) (by decide +kernel))
set_option maxRecDepth 20000 in
theorem gL_law_L_student : GoodIn wsL_law (va_wsS RL 142 yL_student wsL_student) := goodIn_app (goodIn_of _ (by decide +kernel)) ggL_law_L_student
set_option maxRecDepth 20000 in
theorem ggL_law_L_draw : GoodIn wsL_law wsL_draw := goodIn_r _ [48, 49, 50] (by decide +kernel) (by decide +kernel)
set_option maxRecDepth 20000 in
theorem gL_law_L_draw : GoodIn wsL_law (va_wsS RL 145 yL_draw wsL_draw) := goodIn_app (goodIn_of _ (by decide +kernel)) ggL_law_L_draw
set_option maxRecDepth 20000 in
theorem ggL_law_L_keyOf : GoodIn wsL_law wsL_keyOf := goodIn_ca (goodIn_r _ [53, 54, 55, 56, 57, 58, 2, 59, 60, 61, 62, 63, 64, 65, 14, 66, 67, 68, 69, 70, 71, 344, 345, 346, 347, 348, 349, 350, 351, 339, 340, 341, 342, 343] (by decide +kernel) (by decide +kernel)) (goodIn_sub (fun _ h => List.mem_append_left _ (List.mem_append_right _ h)) (by decide +kernel))
set_option maxRecDepth 20000 in
theorem gL_law_L_keyOf : GoodIn wsL_law (va_wsS RL 95 yL_keyOf wsL_keyOf) := goodIn_app (goodIn_of _ (by decide +kernel)) ggL_law_L_keyOf
set_option maxRecDepth 20000 in
theorem ggL_law_L_press : GoodIn wsL_law wsL_press := goodIn_ca (goodIn_r _ [74, 54, 55, 75, 76, 77, 2, 78, 60, 61, 62, 63, 64, 65, 14, 66, 67, 68, 79, 80, 81, 82, 32, 83, 84, 36, 39, 42, 40, 41, 43, 70, 71, 85, 86, 69, 87, 44, 45, 88, 89, 90, 91, 92, 93, 94, 95, 96, 97, 339, 340, 341, 342, 343, 344, 345, 346, 347, 348, 349, 350, 351] (by decide +kernel) (by decide +kernel)) (goodIn_sub (fun _ h => List.mem_append_left _ (List.mem_append_right _ h)) (by decide +kernel))
set_option maxRecDepth 20000 in
theorem gL_law_L_press : GoodIn wsL_law (va_wsS RL 133 yL_press wsL_press) := goodIn_app (goodIn_of _ (by decide +kernel)) ggL_law_L_press
set_option maxRecDepth 20000 in
theorem ggL_law_L_time : GoodIn wsL_law wsL_time := goodIn_ca (goodIn_r _ [100, 54, 55, 101, 102, 103, 2, 104, 60, 61, 62, 63, 64, 65, 14, 105, 32, 106, 107, 41, 42, 36, 108, 109, 69, 70, 71, 110, 111, 112, 113, 114, 115, 116, 117, 118, 119, 120, 121, 122, 123, 124, 125, 126, 127, 128, 339, 340, 341, 342, 343, 344, 345, 346, 347, 348, 349, 350, 351] (by decide +kernel) (by decide +kernel)) (goodIn_sub (fun _ h => List.mem_append_left _ (List.mem_append_right _ h)) (by decide +kernel))
set_option maxRecDepth 20000 in
theorem gL_law_L_time : GoodIn wsL_law (va_wsS RL 88 yL_time wsL_time) := goodIn_app (goodIn_of _ (by decide +kernel)) ggL_law_L_time
set_option maxRecDepth 20000 in
theorem ggL_law_L_letterOn : GoodIn wsL_law wsL_letterOn := goodIn_ca (goodIn_r _ [131, 54, 55, 132, 133, 134, 2, 135, 60, 61, 62, 63, 64, 65, 14, 79, 80, 81, 69, 70, 71, 344, 345, 346, 347, 348, 349, 350, 351, 339, 340, 341, 342, 343] (by decide +kernel) (by decide +kernel)) (goodIn_sub (fun _ h => List.mem_append_left _ (List.mem_append_right _ h)) (by decide +kernel))
set_option maxRecDepth 20000 in
theorem gL_law_L_letterOn : GoodIn wsL_law (va_wsS RL 103 yL_letterOn wsL_letterOn) := goodIn_app (goodIn_of _ (by decide +kernel)) ggL_law_L_letterOn
set_option maxRecDepth 20000 in
theorem ggL_law_L_slips : GoodIn wsL_law wsL_slips := goodIn_ca (goodIn_ca (goodIn_r _ [138, 54, 139, 55, 140, 141, 142, 143, 2, 144, 145, 146, 60, 61, 62, 63, 64, 65, 14, 147, 148, 149, 150, 32, 151, 152, 39, 153, 154, 120, 121, 122, 126, 127, 128, 70, 71, 339, 340, 341, 342, 343, 344, 345, 346, 347, 348, 349, 350, 351] (by decide +kernel) (by decide +kernel)) (goodIn_sub (fun _ h => List.mem_append_right _ h) (by decide +kernel))) (goodIn_sub (fun _ h => List.mem_append_left _ (List.mem_append_right _ h)) (by decide +kernel))
set_option maxRecDepth 20000 in
theorem gL_law_L_slips : GoodIn wsL_law (va_wsS RL 98 yL_slips wsL_slips) := goodIn_app (goodIn_of _ (by decide +kernel)) ggL_law_L_slips
set_option maxRecDepth 20000 in
theorem ggL_law_L_saves : GoodIn wsL_law wsL_saves := goodIn_ca (goodIn_ca (goodIn_r _ [157, 54, 139, 55, 140, 158, 159, 160, 2, 161, 60, 61, 62, 63, 64, 65, 14, 162, 163, 164, 145, 146, 79, 80, 81, 165, 32, 166, 167, 168, 105, 106, 107, 41, 42, 36, 108, 109, 69, 70, 71, 110, 111, 112, 113, 114, 115, 116, 117, 118, 119, 120, 121, 122, 123, 124, 125, 126, 127, 128, 339, 340, 341, 342, 343, 344, 345, 346, 347, 348, 349, 350, 351] (by decide +kernel) (by decide +kernel)) (goodIn_sub (fun _ h => List.mem_append_left _ (List.mem_append_right _ h)) (by decide +kernel))) (goodIn_sub (fun _ h => List.mem_append_right _ h) (by decide +kernel))
set_option maxRecDepth 20000 in
theorem gL_law_L_saves : GoodIn wsL_law (va_wsS RL 111 yL_saves wsL_saves) := goodIn_app (goodIn_of _ (by decide +kernel)) ggL_law_L_saves
set_option maxRecDepth 20000 in
theorem ggL_law_L_swap : GoodIn wsL_law wsL_swap := goodIn_ca (goodIn_ca (goodIn_r _ [171, 54, 139, 55, 140, 172, 173, 174, 2, 175, 60, 61, 62, 63, 64, 65, 14, 162, 163, 164, 145, 146, 79, 80, 81, 165, 32, 166, 167, 168, 105, 106, 107, 41, 42, 36, 108, 109, 69, 70, 71, 110, 111, 112, 113, 114, 115, 116, 117, 118, 119, 120, 121, 122, 123, 124, 125, 126, 127, 128, 176, 177, 178, 37, 38, 39, 44, 45, 339, 340, 341, 342, 343, 344, 345, 346, 347, 348, 349, 350, 351] (by decide +kernel) (by decide +kernel)) (goodIn_sub (fun _ h => List.mem_append_left _ (List.mem_append_right _ h)) (by decide +kernel))) (goodIn_sub (fun _ h => List.mem_append_right _ h) (by decide +kernel))
set_option maxRecDepth 20000 in
theorem gL_law_L_swap : GoodIn wsL_law (va_wsS RL 131 yL_swap wsL_swap) := goodIn_app (goodIn_of _ (by decide +kernel)) ggL_law_L_swap
set_option maxRecDepth 20000 in
theorem ggL_law_L_carry : GoodIn wsL_law wsL_carry := goodIn_ca (goodIn_ca (goodIn_r _ [181, 54, 139, 55, 140, 182, 183, 184, 2, 185, 145, 146, 60, 61, 62, 63, 64, 65, 14, 344, 345, 346, 347, 348, 349, 350, 351, 339, 340, 341, 342, 343] (by decide +kernel) (by decide +kernel)) (goodIn_sub (fun _ h => List.mem_append_right _ h) (by decide +kernel))) (goodIn_sub (fun _ h => List.mem_append_left _ (List.mem_append_right _ h)) (by decide +kernel))
set_option maxRecDepth 20000 in
theorem gL_law_L_carry : GoodIn wsL_law (va_wsS RL 129 yL_carry wsL_carry) := goodIn_app (goodIn_of _ (by decide +kernel)) ggL_law_L_carry
set_option maxRecDepth 20000 in
theorem ggL_law_L_best : GoodIn wsL_law wsL_best := goodIn_ca (goodIn_r _ [188, 54, 55, 189, 190, 191, 2, 192, 60, 61, 62, 63, 64, 65, 14, 193, 32, 194, 195, 168, 105, 106, 107, 41, 42, 36, 108, 109, 69, 70, 71, 110, 111, 112, 113, 114, 115, 116, 117, 118, 119, 120, 121, 122, 123, 124, 125, 126, 127, 128, 339, 340, 341, 342, 343, 344, 345, 346, 347, 348, 349, 350, 351] (by decide +kernel) (by decide +kernel)) (goodIn_sub (fun _ h => List.mem_append_left _ (List.mem_append_right _ h)) (by decide +kernel))
set_option maxRecDepth 20000 in
theorem gL_law_L_best : GoodIn wsL_law (va_wsS RL 109 yL_best wsL_best) := goodIn_app (goodIn_of _ (by decide +kernel)) ggL_law_L_best
set_option maxRecDepth 20000 in
theorem ggL_law_X2_clear : GoodIn wsL_law wsX2_clear := goodIn_r _ [199, 18, 339, 340, 341, 342, 343] (by decide +kernel) (by decide +kernel)
set_option maxRecDepth 20000 in
theorem gL_law_X2_clear : GoodIn wsL_law (wsV RL 149 RX2 yX2_clear wsX2_clear) := goodIn_app (goodIn_of _ (by decide +kernel)) ggL_law_X2_clear
set_option maxRecDepth 20000 in
theorem ggL_law_L_draft : GoodIn wsL_law wsL_draft := goodIn_ca (goodIn_ca (goodIn_r _ [202, 54, 24, 55, 5, 203, 204, 205, 2, 206, 29, 30, 18, 17, 66, 67, 68, 64, 65, 87, 44, 45, 339, 340, 341, 342, 343] (by decide +kernel) (by decide +kernel)) (goodIn_sub (fun _ h => List.mem_append_left _ (List.mem_append_left _ (List.mem_append_right _ h))) (by decide +kernel))) (goodIn_sub (fun _ h => List.mem_append_left _ (List.mem_append_right _ h)) (by decide +kernel))
set_option maxRecDepth 20000 in
theorem gL_law_L_draft : GoodIn wsL_law (va_wsS RL 137 yL_draft wsL_draft) := goodIn_app (goodIn_of _ (by decide +kernel)) ggL_law_L_draft
set_option maxRecDepth 20000 in
theorem ggL_law_L_contest : GoodIn wsL_law wsL_contest := goodIn_ca (goodIn_r _ [209, 24, 5, 210, 211, 212, 2, 213, 29, 30, 18, 14, 16, 214, 215, 216, 217, 15, 218, 219, 17, 220, 221, 222, 11, 12, 3, 223, 224, 225, 226, 108, 109, 69, 70, 71, 110, 111, 112, 113, 114, 115, 116, 117, 118, 119, 120, 121, 122, 123, 124, 125, 126, 127, 128, 87, 44, 45, 339, 340, 341, 342, 343, 352, 353, 354, 344, 345, 346, 347, 348, 349, 350, 351] (by decide +kernel) (by decide +kernel)) (goodIn_sub (fun _ h => List.mem_append_left _ (List.mem_append_left _ (List.mem_append_right _ h))) (by decide +kernel))
set_option maxRecDepth 20000 in
theorem gL_law_L_contest : GoodIn wsL_law (va_wsS RL 152 yL_contest wsL_contest) := goodIn_app (goodIn_of _ (by decide +kernel)) ggL_law_L_contest
set_option maxRecDepth 20000 in
theorem ggL_law_L_of : GoodIn wsL_law wsL_of := goodIn_ca (goodIn_ca (goodIn_r _ [229, 54, 139, 55, 140, 230, 231, 232, 2, 233, 145, 146, 234, 235, 236, 237, 64, 65, 16, 238, 239, 240, 69, 70, 71, 241, 219, 242, 243, 224, 244, 245, 246, 225, 247, 248, 249, 250, 251, 339, 340, 341, 342, 343, 352, 353, 354] (by decide +kernel) (by decide +kernel)) (goodIn_sub (fun _ h => List.mem_append_right _ h) (by decide +kernel))) (goodIn_sub (fun _ h => List.mem_append_left _ (List.mem_append_right _ h)) (by decide +kernel))
set_option maxRecDepth 20000 in
theorem gL_law_L_of : GoodIn wsL_law (va_wsS RL 119 yL_of wsL_of) := goodIn_app (goodIn_of _ (by decide +kernel)) ggL_law_L_of
set_option maxRecDepth 20000 in
theorem ggL_law_L_result : GoodIn wsL_law wsL_result := goodIn_ca (goodIn_ca (goodIn_ca (goodIn_r _ [254, 54, 139, 24, 55, 140, 5, 255, 256, 257, 2, 258, 145, 146, 29, 30, 259, 234, 235, 236, 237, 64, 65, 16, 238, 239, 240, 69, 70, 71, 241, 219, 242, 243, 224, 87, 44, 45, 352, 353, 354, 339, 340, 341, 342, 343] (by decide +kernel) (by decide +kernel)) (goodIn_sub (fun _ h => List.mem_append_right _ h) (by decide +kernel))) (goodIn_sub (fun _ h => List.mem_append_left _ (List.mem_append_left _ (List.mem_append_right _ h))) (by decide +kernel))) (goodIn_sub (fun _ h => List.mem_append_left _ (List.mem_append_right _ h)) (by decide +kernel))
set_option maxRecDepth 20000 in
theorem gL_law_L_result : GoodIn wsL_law (va_wsS RL 139 yL_result wsL_result) := goodIn_app (goodIn_of _ (by decide +kernel)) ggL_law_L_result
set_option maxRecDepth 20000 in
theorem ggL_law_L_studentHolds : GoodIn wsL_law wsL_studentHolds := goodIn_ca (goodIn_ca (goodIn_r _ [262, 263, 98, 99, 22, 100, 54, 55, 101, 102, 103, 2, 104, 60, 61, 62, 63, 64, 65, 14, 105, 32, 106, 107, 41, 42, 36, 108, 109, 69, 70, 71, 110, 111, 112, 113, 114, 115, 116, 117, 118, 119, 120, 121, 122, 123, 124, 125, 126, 127, 128, 264, 265, 266, 267, 268, 269, 270, 19, 271, 272, 273, 274, 275, 276, 277, 88, 89, 85, 86, 87, 44, 45, 51, 52, 53, 56, 57, 58, 59, 66, 67, 68, 136, 137, 138, 139, 140, 141, 142, 143, 144, 145, 146, 147, 148, 149, 150, 151, 152, 39, 153, 154, 129, 130, 131, 132, 133, 134, 135, 79, 80, 81, 278, 279, 280, 281, 282, 283, 284, 285, 286, 287, 288, 289, 290, 291, 292, 186, 187, 188, 189, 190, 191, 192, 193, 194, 195, 168, 155, 156, 157, 158, 159, 160, 161, 162, 163, 164, 165, 166, 167, 293, 294, 295, 296, 297, 298, 299, 300, 301, 302, 303, 304, 305, 306, 307, 308, 309, 310, 311, 312, 313, 339, 340, 341, 342, 343, 344, 345, 346, 347, 348, 349, 350, 351] (by decide +kernel) (by decide +kernel)) (goodIn_sub (fun _ h => List.mem_append_left _ (List.mem_append_right _ h)) (by decide +kernel))) (goodIn_sub (fun _ h => List.mem_append_right _ h) (by decide +kernel))
set_option maxRecDepth 20000 in
theorem gL_law_L_studentHolds : GoodIn wsL_law (va_wsS RL 155 yL_studentHolds wsL_studentHolds) := goodIn_app (goodIn_of _ (by decide +kernel)) ggL_law_L_studentHolds
set_option maxRecDepth 20000 in
theorem ggL_law_L_contestHolds : GoodIn wsL_law wsL_contestHolds := goodIn_ca (goodIn_ca (goodIn_r _ [316, 55, 317, 318, 4, 227, 228, 22, 229, 54, 139, 140, 230, 231, 232, 2, 233, 145, 146, 234, 235, 236, 237, 64, 65, 16, 238, 239, 240, 69, 70, 71, 241, 219, 242, 243, 224, 244, 245, 246, 225, 247, 248, 249, 250, 251, 319, 320, 321, 322, 323, 324, 325, 326, 327, 328, 339, 340, 341, 342, 343, 352, 353, 354] (by decide +kernel) (by decide +kernel)) (goodIn_sub (fun _ h => List.mem_append_right _ h) (by decide +kernel))) (goodIn_sub (fun _ h => List.mem_append_left _ (List.mem_append_right _ h)) (by decide +kernel))
set_option maxRecDepth 20000 in
theorem gL_law_L_contestHolds : GoodIn wsL_law (va_wsS RL 158 yL_contestHolds wsL_contestHolds) := goodIn_app (goodIn_of _ (by decide +kernel)) ggL_law_L_contestHolds
set_option maxRecDepth 20000 in
theorem ggL_law_L_refuses : GoodIn wsL_law wsL_refuses := goodIn_ca (goodIn_ca (goodIn_ca (goodIn_r _ [331, 55, 140, 278, 279, 22, 280, 54, 281, 282, 283, 2, 284, 60, 61, 62, 63, 64, 65, 14, 98, 99, 100, 101, 102, 103, 104, 105, 32, 106, 107, 41, 42, 36, 108, 109, 69, 70, 71, 110, 111, 112, 113, 114, 115, 116, 117, 118, 119, 120, 121, 122, 123, 124, 125, 126, 127, 128, 179, 180, 181, 139, 182, 183, 184, 185, 145, 146, 169, 170, 171, 172, 173, 174, 175, 162, 163, 164, 79, 80, 81, 165, 166, 167, 168, 176, 177, 178, 37, 38, 39, 44, 45, 51, 52, 53, 56, 57, 58, 59, 66, 67, 68, 129, 130, 131, 132, 133, 134, 135, 72, 73, 74, 75, 76, 77, 78, 82, 83, 84, 40, 43, 85, 86, 87, 88, 89, 90, 91, 92, 93, 94, 95, 96, 97, 136, 137, 138, 141, 142, 143, 144, 147, 148, 149, 150, 151, 152, 153, 154, 285, 286, 287, 288, 289, 290, 291, 292, 332, 333, 334, 335, 336, 337, 338, 296, 297, 298, 299, 300, 301, 302, 303, 304, 305, 306, 307, 308, 309, 310, 311, 312, 313, 155, 156, 157, 158, 159, 160, 161, 200, 201, 202, 24, 5, 203, 204, 205, 206, 29, 30, 18, 17, 252, 253, 254, 255, 256, 257, 258, 259, 234, 235, 236, 237, 16, 238, 239, 240, 241, 219, 242, 243, 224, 227, 228, 229, 230, 231, 232, 233, 244, 245, 246, 225, 247, 248, 249, 250, 251, 319, 320, 321, 322, 323, 324, 325, 326, 327, 328, 186, 187, 188, 189, 190, 191, 192, 193, 194, 195, 264, 265, 266, 267, 268, 269, 270, 19, 271, 272, 273, 274, 275, 276, 277, 344, 345, 346, 347, 348, 349, 350, 351, 339, 340, 341, 342, 343, 352, 353, 354] (by decide +kernel) (by decide +kernel)) (goodIn_sub (fun _ h => List.mem_append_left _ (List.mem_append_right _ h)) (by decide +kernel))) (goodIn_sub (fun _ h => List.mem_append_right _ h) (by decide +kernel))) (goodIn_sub (fun _ h => List.mem_append_left _ (List.mem_append_left _ (List.mem_append_right _ h))) (by decide +kernel))
set_option maxRecDepth 20000 in
theorem gL_law_L_refuses : GoodIn wsL_law (va_wsS RL 162 yL_refuses wsL_refuses) := goodIn_app (goodIn_of _ (by decide +kernel)) ggL_law_L_refuses
theorem dL_law_0 : decode cL_law 0 = .ok (.new 10, 3) := by decide +kernel
theorem dL_law_3 : decode cL_law 3 = .ok (.dup, 1) := by decide +kernel
theorem dL_law_4 : decode cL_law 4 = .ok (.invokespecial 141, 3) := by decide +kernel
theorem dL_law_7 : decode cL_law 7 = .ok (.astore_n 1, 1) := by decide +kernel
theorem dL_law_8 : decode cL_law 8 = .ok (.aload_n 1, 1) := by decide +kernel
theorem dL_law_9 : decode cL_law 9 = .ok (.invokestatic 142, 3) := by decide +kernel
theorem dL_law_12 : decode cL_law 12 = .ok (.lconst 0, 1) := by decide +kernel
theorem dL_law_13 : decode cL_law 13 = .ok (.lcmp, 1) := by decide +kernel
theorem dL_law_14 : decode cL_law 14 = .ok (.ifCond .ne 7, 3) := by decide +kernel
theorem dL_law_17 : decode cL_law 17 = .ok (.iconst 1, 1) := by decide +kernel
theorem dL_law_18 : decode cL_law 18 = .ok (.goto 4, 3) := by decide +kernel
theorem dL_law_21 : decode cL_law 21 = .ok (.iconst 0, 1) := by decide +kernel
theorem dL_law_22 : decode cL_law 22 = .ok (.istore_n 2, 1) := by decide +kernel
theorem dL_law_23 : decode cL_law 23 = .ok (.iconst 1, 1) := by decide +kernel
theorem dL_law_24 : decode cL_law 24 = .ok (.istore_n 3, 1) := by decide +kernel
theorem dL_law_25 : decode cL_law 25 = .ok (.iconst 0, 1) := by decide +kernel
theorem dL_law_26 : decode cL_law 26 = .ok (.istore 4, 2) := by decide +kernel
theorem dL_law_28 : decode cL_law 28 = .ok (.bipush 6, 2) := by decide +kernel
theorem dL_law_30 : decode cL_law 30 = .ok (.newarray .int, 2) := by decide +kernel
theorem dL_law_32 : decode cL_law 32 = .ok (.astore 5, 2) := by decide +kernel
theorem dL_law_34 : decode cL_law 34 = .ok (.iconst 0, 1) := by decide +kernel
theorem dL_law_35 : decode cL_law 35 = .ok (.istore 6, 2) := by decide +kernel
theorem dL_law_37 : decode cL_law 37 = .ok (.iload 6, 2) := by decide +kernel
theorem dL_law_39 : decode cL_law 39 = .ok (.bipush 50, 2) := by decide +kernel
theorem dL_law_41 : decode cL_law 41 = .ok (.if_icmp .ge 760, 3) := by decide +kernel
theorem dL_law_44 : decode cL_law 44 = .ok (.iload_n 2, 1) := by decide +kernel
theorem dL_law_45 : decode cL_law 45 = .ok (.ifCond .eq 756, 3) := by decide +kernel
theorem dL_law_48 : decode cL_law 48 = .ok (.aload_n 0, 1) := by decide +kernel
theorem dL_law_49 : decode cL_law 49 = .ok (.iconst 2, 1) := by decide +kernel
theorem dL_law_50 : decode cL_law 50 = .ok (.iload 6, 2) := by decide +kernel
theorem dL_law_52 : decode cL_law 52 = .ok (.imul, 1) := by decide +kernel
theorem dL_law_53 : decode cL_law 53 = .ok (.invokestatic 145, 3) := by decide +kernel
theorem dL_law_56 : decode cL_law 56 = .ok (.istore 7, 2) := by decide +kernel
theorem dL_law_58 : decode cL_law 58 = .ok (.aload_n 0, 1) := by decide +kernel
theorem dL_law_59 : decode cL_law 59 = .ok (.iconst 2, 1) := by decide +kernel
theorem dL_law_60 : decode cL_law 60 = .ok (.iload 6, 2) := by decide +kernel
theorem dL_law_62 : decode cL_law 62 = .ok (.imul, 1) := by decide +kernel
theorem dL_law_63 : decode cL_law 63 = .ok (.iconst 1, 1) := by decide +kernel
theorem dL_law_64 : decode cL_law 64 = .ok (.iadd, 1) := by decide +kernel
theorem dL_law_65 : decode cL_law 65 = .ok (.invokestatic 145, 3) := by decide +kernel
theorem dL_law_68 : decode cL_law 68 = .ok (.istore 8, 2) := by decide +kernel
theorem dL_law_70 : decode cL_law 70 = .ok (.iload 7, 2) := by decide +kernel
theorem dL_law_72 : decode cL_law 72 = .ok (.bipush 16, 2) := by decide +kernel
theorem dL_law_74 : decode cL_law 74 = .ok (.idiv, 1) := by decide +kernel
theorem dL_law_75 : decode cL_law 75 = .ok (.iload_n 3, 1) := by decide +kernel
theorem dL_law_76 : decode cL_law 76 = .ok (.irem, 1) := by decide +kernel
theorem dL_law_77 : decode cL_law 77 = .ok (.istore 9, 2) := by decide +kernel
theorem dL_law_79 : decode cL_law 79 = .ok (.iload 7, 2) := by decide +kernel
theorem dL_law_81 : decode cL_law 81 = .ok (.bipush 12, 2) := by decide +kernel
theorem dL_law_83 : decode cL_law 83 = .ok (.irem, 1) := by decide +kernel
theorem dL_law_84 : decode cL_law 84 = .ok (.istore 10, 2) := by decide +kernel
theorem dL_law_86 : decode cL_law 86 = .ok (.iload 10, 2) := by decide +kernel
theorem dL_law_88 : decode cL_law 88 = .ok (.bipush 6, 2) := by decide +kernel
theorem dL_law_90 : decode cL_law 90 = .ok (.if_icmp .ge 137, 3) := by decide +kernel
theorem dL_law_93 : decode cL_law 93 = .ok (.iconst 0, 1) := by decide +kernel
theorem dL_law_94 : decode cL_law 94 = .ok (.istore 11, 2) := by decide +kernel
theorem dL_law_96 : decode cL_law 96 = .ok (.iload 11, 2) := by decide +kernel
theorem dL_law_98 : decode cL_law 98 = .ok (.iconst 3, 1) := by decide +kernel
theorem dL_law_99 : decode cL_law 99 = .ok (.if_icmp .ge 125, 3) := by decide +kernel
theorem dL_law_102 : decode cL_law 102 = .ok (.iload_n 2, 1) := by decide +kernel
theorem dL_law_103 : decode cL_law 103 = .ok (.ifCond .eq 121, 3) := by decide +kernel
theorem dL_law_106 : decode cL_law 106 = .ok (.iload 8, 2) := by decide +kernel
theorem dL_law_108 : decode cL_law 108 = .ok (.iload 11, 2) := by decide +kernel
theorem dL_law_110 : decode cL_law 110 = .ok (.ifCond .ne 7, 3) := by decide +kernel
theorem dL_law_113 : decode cL_law 113 = .ok (.iconst 1, 1) := by decide +kernel
theorem dL_law_114 : decode cL_law 114 = .ok (.goto 17, 3) := by decide +kernel
theorem dL_law_117 : decode cL_law 117 = .ok (.iload 11, 2) := by decide +kernel
theorem dL_law_119 : decode cL_law 119 = .ok (.iconst 1, 1) := by decide +kernel
theorem dL_law_120 : decode cL_law 120 = .ok (.if_icmp .ne 8, 3) := by decide +kernel
theorem dL_law_123 : decode cL_law 123 = .ok (.bipush 12, 2) := by decide +kernel
theorem dL_law_125 : decode cL_law 125 = .ok (.goto 6, 3) := by decide +kernel
theorem dL_law_128 : decode cL_law 128 = .ok (.sipush 144, 3) := by decide +kernel
theorem dL_law_131 : decode cL_law 131 = .ok (.idiv, 1) := by decide +kernel
theorem dL_law_132 : decode cL_law 132 = .ok (.bipush 12, 2) := by decide +kernel
theorem dL_law_134 : decode cL_law 134 = .ok (.irem, 1) := by decide +kernel
theorem dL_law_135 : decode cL_law 135 = .ok (.istore 12, 2) := by decide +kernel
theorem dL_law_137 : decode cL_law 137 = .ok (.iload 11, 2) := by decide +kernel
theorem dL_law_139 : decode cL_law 139 = .ok (.iconst 2, 1) := by decide +kernel
theorem dL_law_140 : decode cL_law 140 = .ok (.if_icmp .ne 15, 3) := by decide +kernel
theorem dL_law_143 : decode cL_law 143 = .ok (.iload 8, 2) := by decide +kernel
theorem dL_law_145 : decode cL_law 145 = .ok (.sipush 2048, 3) := by decide +kernel
theorem dL_law_148 : decode cL_law 148 = .ok (.idiv, 1) := by decide +kernel
theorem dL_law_149 : decode cL_law 149 = .ok (.bipush 12, 2) := by decide +kernel
theorem dL_law_151 : decode cL_law 151 = .ok (.irem, 1) := by decide +kernel
theorem dL_law_152 : decode cL_law 152 = .ok (.goto 12, 3) := by decide +kernel
theorem dL_law_155 : decode cL_law 155 = .ok (.aload_n 1, 1) := by decide +kernel
theorem dL_law_156 : decode cL_law 156 = .ok (.iload 9, 2) := by decide +kernel
theorem dL_law_158 : decode cL_law 158 = .ok (.iload 12, 2) := by decide +kernel
theorem dL_law_160 : decode cL_law 160 = .ok (.invokestatic 95, 3) := by decide +kernel
theorem dL_law_163 : decode cL_law 163 = .ok (.l2i, 1) := by decide +kernel
theorem dL_law_164 : decode cL_law 164 = .ok (.istore 13, 2) := by decide +kernel
theorem dL_law_166 : decode cL_law 166 = .ok (.aload_n 1, 1) := by decide +kernel
theorem dL_law_167 : decode cL_law 167 = .ok (.iload 9, 2) := by decide +kernel
theorem dL_law_169 : decode cL_law 169 = .ok (.iload 12, 2) := by decide +kernel
theorem dL_law_171 : decode cL_law 171 = .ok (.invokestatic 95, 3) := by decide +kernel
theorem dL_law_174 : decode cL_law 174 = .ok (.iload 13, 2) := by decide +kernel
theorem dL_law_176 : decode cL_law 176 = .ok (.i2l, 1) := by decide +kernel
theorem dL_law_177 : decode cL_law 177 = .ok (.lcmp, 1) := by decide +kernel
theorem dL_law_178 : decode cL_law 178 = .ok (.ifCond .ne 7, 3) := by decide +kernel
theorem dL_law_181 : decode cL_law 181 = .ok (.iconst 1, 1) := by decide +kernel
theorem dL_law_182 : decode cL_law 182 = .ok (.goto 4, 3) := by decide +kernel
theorem dL_law_185 : decode cL_law 185 = .ok (.iconst 0, 1) := by decide +kernel
theorem dL_law_186 : decode cL_law 186 = .ok (.istore 14, 2) := by decide +kernel
theorem dL_law_188 : decode cL_law 188 = .ok (.aload_n 1, 1) := by decide +kernel
theorem dL_law_189 : decode cL_law 189 = .ok (.iload 9, 2) := by decide +kernel
theorem dL_law_191 : decode cL_law 191 = .ok (.iload 12, 2) := by decide +kernel
theorem dL_law_193 : decode cL_law 193 = .ok (.iload 13, 2) := by decide +kernel
theorem dL_law_195 : decode cL_law 195 = .ok (.invokestatic 133, 3) := by decide +kernel
theorem dL_law_198 : decode cL_law 198 = .ok (.iload 14, 2) := by decide +kernel
theorem dL_law_200 : decode cL_law 200 = .ok (.ifCond .eq 7, 3) := by decide +kernel
theorem dL_law_203 : decode cL_law 203 = .ok (.lconst 0, 1) := by decide +kernel
theorem dL_law_204 : decode cL_law 204 = .ok (.goto 4, 3) := by decide +kernel
theorem dL_law_207 : decode cL_law 207 = .ok (.lconst 1, 1) := by decide +kernel
theorem dL_law_208 : decode cL_law 208 = .ok (.lcmp, 1) := by decide +kernel
theorem dL_law_209 : decode cL_law 209 = .ok (.ifCond .ne 7, 3) := by decide +kernel
theorem dL_law_212 : decode cL_law 212 = .ok (.iconst 1, 1) := by decide +kernel
theorem dL_law_213 : decode cL_law 213 = .ok (.goto 4, 3) := by decide +kernel
theorem dL_law_216 : decode cL_law 216 = .ok (.iconst 0, 1) := by decide +kernel
theorem dL_law_217 : decode cL_law 217 = .ok (.istore_n 2, 1) := by decide +kernel
theorem dL_law_218 : decode cL_law 218 = .ok (.iinc 11 1, 3) := by decide +kernel
theorem dL_law_221 : decode cL_law 221 = .ok (.goto (-125), 3) := by decide +kernel
theorem dL_law_224 : decode cL_law 224 = .ok (.goto 490, 3) := by decide +kernel
theorem dL_law_227 : decode cL_law 227 = .ok (.iload 10, 2) := by decide +kernel
theorem dL_law_229 : decode cL_law 229 = .ok (.bipush 9, 2) := by decide +kernel
theorem dL_law_231 : decode cL_law 231 = .ok (.if_icmp .ge 138, 3) := by decide +kernel
theorem dL_law_234 : decode cL_law 234 = .ok (.iload 8, 2) := by decide +kernel
theorem dL_law_236 : decode cL_law 236 = .ok (.bipush 12, 2) := by decide +kernel
theorem dL_law_238 : decode cL_law 238 = .ok (.irem, 1) := by decide +kernel
theorem dL_law_239 : decode cL_law 239 = .ok (.istore 11, 2) := by decide +kernel
theorem dL_law_241 : decode cL_law 241 = .ok (.iload 11, 2) := by decide +kernel
theorem dL_law_243 : decode cL_law 243 = .ok (.iconst 1, 1) := by decide +kernel
theorem dL_law_244 : decode cL_law 244 = .ok (.iadd, 1) := by decide +kernel
theorem dL_law_245 : decode cL_law 245 = .ok (.iload 8, 2) := by decide +kernel
theorem dL_law_247 : decode cL_law 247 = .ok (.bipush 16, 2) := by decide +kernel
theorem dL_law_249 : decode cL_law 249 = .ok (.idiv, 1) := by decide +kernel
theorem dL_law_250 : decode cL_law 250 = .ok (.bipush 11, 2) := by decide +kernel
theorem dL_law_252 : decode cL_law 252 = .ok (.irem, 1) := by decide +kernel
theorem dL_law_253 : decode cL_law 253 = .ok (.iadd, 1) := by decide +kernel
theorem dL_law_254 : decode cL_law 254 = .ok (.bipush 12, 2) := by decide +kernel
theorem dL_law_256 : decode cL_law 256 = .ok (.irem, 1) := by decide +kernel
theorem dL_law_257 : decode cL_law 257 = .ok (.istore 12, 2) := by decide +kernel
theorem dL_law_259 : decode cL_law 259 = .ok (.aload_n 1, 1) := by decide +kernel
theorem dL_law_260 : decode cL_law 260 = .ok (.iload 9, 2) := by decide +kernel
theorem dL_law_262 : decode cL_law 262 = .ok (.invokestatic 88, 3) := by decide +kernel
theorem dL_law_265 : decode cL_law 265 = .ok (.lstore 13, 2) := by decide +kernel
theorem dL_law_267 : decode cL_law 267 = .ok (.aload_n 1, 1) := by decide +kernel
theorem dL_law_268 : decode cL_law 268 = .ok (.iload 9, 2) := by decide +kernel
theorem dL_law_270 : decode cL_law 270 = .ok (.iload 11, 2) := by decide +kernel
theorem dL_law_272 : decode cL_law 272 = .ok (.invokestatic 103, 3) := by decide +kernel
theorem dL_law_275 : decode cL_law 275 = .ok (.lstore 15, 2) := by decide +kernel
theorem dL_law_277 : decode cL_law 277 = .ok (.aload_n 1, 1) := by decide +kernel
theorem dL_law_278 : decode cL_law 278 = .ok (.iload 9, 2) := by decide +kernel
theorem dL_law_280 : decode cL_law 280 = .ok (.iconst 3, 1) := by decide +kernel
theorem dL_law_281 : decode cL_law 281 = .ok (.iconst 0, 1) := by decide +kernel
theorem dL_law_282 : decode cL_law 282 = .ok (.invokestatic 98, 3) := by decide +kernel
theorem dL_law_285 : decode cL_law 285 = .ok (.lstore 17, 2) := by decide +kernel
theorem dL_law_287 : decode cL_law 287 = .ok (.aload_n 1, 1) := by decide +kernel
theorem dL_law_288 : decode cL_law 288 = .ok (.iload 9, 2) := by decide +kernel
theorem dL_law_290 : decode cL_law 290 = .ok (.iload 11, 2) := by decide +kernel
theorem dL_law_292 : decode cL_law 292 = .ok (.iload 12, 2) := by decide +kernel
theorem dL_law_294 : decode cL_law 294 = .ok (.invokestatic 111, 3) := by decide +kernel
theorem dL_law_297 : decode cL_law 297 = .ok (.lstore 19, 2) := by decide +kernel
theorem dL_law_299 : decode cL_law 299 = .ok (.aload_n 1, 1) := by decide +kernel
theorem dL_law_300 : decode cL_law 300 = .ok (.iload 9, 2) := by decide +kernel
theorem dL_law_302 : decode cL_law 302 = .ok (.iload 11, 2) := by decide +kernel
theorem dL_law_304 : decode cL_law 304 = .ok (.iload 12, 2) := by decide +kernel
theorem dL_law_306 : decode cL_law 306 = .ok (.invokestatic 131, 3) := by decide +kernel
theorem dL_law_309 : decode cL_law 309 = .ok (.lload 19, 2) := by decide +kernel
theorem dL_law_311 : decode cL_law 311 = .ok (.lcmp, 1) := by decide +kernel
