theorem dL_texts_194 : decode cL_texts 194 = .ok (.ldc2_w 144, 3) := by decide +kernel
theorem dL_texts_197 : decode cL_texts 197 = .ok (.lconst 0, 1) := by decide +kernel
theorem dL_texts_198 : decode cL_texts 198 = .ok (.invokestatic 110, 3) := by decide +kernel
theorem dL_texts_201 : decode cL_texts 201 = .ok (.bipush (-105), 2) := by decide +kernel
theorem dL_texts_203 : decode cL_texts 203 = .ok (.if_icmp .ne 15, 3) := by decide +kernel
theorem dL_texts_206 : decode cL_texts 206 = .ok (.ldc2_w 146, 3) := by decide +kernel
theorem dL_texts_209 : decode cL_texts 209 = .ok (.lconst 0, 1) := by decide +kernel
theorem dL_texts_210 : decode cL_texts 210 = .ok (.invokestatic 110, 3) := by decide +kernel
theorem dL_texts_213 : decode cL_texts 213 = .ok (.bipush (-106), 2) := by decide +kernel
theorem dL_texts_215 : decode cL_texts 215 = .ok (.if_icmp .eq 5, 3) := by decide +kernel
theorem dL_texts_218 : decode cL_texts 218 = .ok (.iconst 0, 1) := by decide +kernel
theorem dL_texts_219 : decode cL_texts 219 = .ok (.ireturn, 1) := by decide +kernel
theorem dL_texts_220 : decode cL_texts 220 = .ok (.new 14, 3) := by decide +kernel
theorem dL_texts_223 : decode cL_texts 223 = .ok (.dup, 1) := by decide +kernel
theorem dL_texts_224 : decode cL_texts 224 = .ok (.invokespecial 74, 3) := by decide +kernel
theorem dL_texts_227 : decode cL_texts 227 = .ok (.astore_n 0, 1) := by decide +kernel
theorem dL_texts_228 : decode cL_texts 228 = .ok (.aload_n 0, 1) := by decide +kernel
theorem dL_texts_229 : decode cL_texts 229 = .ok (.ldc2_w 148, 3) := by decide +kernel
theorem dL_texts_232 : decode cL_texts 232 = .ok (.invokestatic 101, 3) := by decide +kernel
theorem dL_texts_235 : decode cL_texts 235 = .ok (.ifCond .eq 157, 3) := by decide +kernel
theorem dL_texts_238 : decode cL_texts 238 = .ok (.aload_n 0, 1) := by decide +kernel
theorem dL_texts_239 : decode cL_texts 239 = .ok (.ldc2_w 150, 3) := by decide +kernel
theorem dL_texts_242 : decode cL_texts 242 = .ok (.invokestatic 101, 3) := by decide +kernel
theorem dL_texts_245 : decode cL_texts 245 = .ok (.ifCond .eq 147, 3) := by decide +kernel
theorem dL_texts_248 : decode cL_texts 248 = .ok (.aload_n 0, 1) := by decide +kernel
theorem dL_texts_249 : decode cL_texts 249 = .ok (.ldc2_w 152, 3) := by decide +kernel
theorem dL_texts_252 : decode cL_texts 252 = .ok (.invokestatic 101, 3) := by decide +kernel
theorem dL_texts_255 : decode cL_texts 255 = .ok (.ifCond .eq 137, 3) := by decide +kernel
theorem dL_texts_258 : decode cL_texts 258 = .ok (.aload_n 0, 1) := by decide +kernel
theorem dL_texts_259 : decode cL_texts 259 = .ok (.ldc2_w 154, 3) := by decide +kernel
theorem dL_texts_262 : decode cL_texts 262 = .ok (.invokestatic 101, 3) := by decide +kernel
theorem dL_texts_265 : decode cL_texts 265 = .ok (.ifCond .eq 127, 3) := by decide +kernel
theorem dL_texts_268 : decode cL_texts 268 = .ok (.aload_n 0, 1) := by decide +kernel
theorem dL_texts_269 : decode cL_texts 269 = .ok (.invokevirtual 105, 3) := by decide +kernel
theorem dL_texts_272 : decode cL_texts 272 = .ok (.bipush (-6), 2) := by decide +kernel
theorem dL_texts_274 : decode cL_texts 274 = .ok (.if_icmp .ne 118, 3) := by decide +kernel
theorem dL_texts_277 : decode cL_texts 277 = .ok (.aload_n 0, 1) := by decide +kernel
theorem dL_texts_278 : decode cL_texts 278 = .ok (.iconst 0, 1) := by decide +kernel
theorem dL_texts_279 : decode cL_texts 279 = .ok (.invokevirtual 13, 3) := by decide +kernel
theorem dL_texts_282 : decode cL_texts 282 = .ok (.ifCond .ne 110, 3) := by decide +kernel
theorem dL_texts_285 : decode cL_texts 285 = .ok (.aload_n 0, 1) := by decide +kernel
theorem dL_texts_286 : decode cL_texts 286 = .ok (.iconst 1, 1) := by decide +kernel
theorem dL_texts_287 : decode cL_texts 287 = .ok (.invokevirtual 13, 3) := by decide +kernel
theorem dL_texts_290 : decode cL_texts 290 = .ok (.ifCond .ne 102, 3) := by decide +kernel
theorem dL_texts_293 : decode cL_texts 293 = .ok (.aload_n 0, 1) := by decide +kernel
theorem dL_texts_294 : decode cL_texts 294 = .ok (.iconst 5, 1) := by decide +kernel
theorem dL_texts_295 : decode cL_texts 295 = .ok (.invokevirtual 13, 3) := by decide +kernel
theorem dL_texts_298 : decode cL_texts 298 = .ok (.ifCond .ne 94, 3) := by decide +kernel
theorem dL_texts_301 : decode cL_texts 301 = .ok (.aload_n 0, 1) := by decide +kernel
theorem dL_texts_302 : decode cL_texts 302 = .ok (.invokevirtual 156, 3) := by decide +kernel
theorem dL_texts_305 : decode cL_texts 305 = .ok (.bipush 31, 2) := by decide +kernel
theorem dL_texts_307 : decode cL_texts 307 = .ok (.if_icmp .ne 85, 3) := by decide +kernel
theorem dL_texts_310 : decode cL_texts 310 = .ok (.aload_n 0, 1) := by decide +kernel
theorem dL_texts_311 : decode cL_texts 311 = .ok (.ldc2_w 148, 3) := by decide +kernel
theorem dL_texts_314 : decode cL_texts 314 = .ok (.invokestatic 101, 3) := by decide +kernel
theorem dL_texts_317 : decode cL_texts 317 = .ok (.ifCond .eq 75, 3) := by decide +kernel
theorem dL_texts_320 : decode cL_texts 320 = .ok (.aload_n 0, 1) := by decide +kernel
theorem dL_texts_321 : decode cL_texts 321 = .ok (.ldc2_w 159, 3) := by decide +kernel
theorem dL_texts_324 : decode cL_texts 324 = .ok (.invokestatic 101, 3) := by decide +kernel
theorem dL_texts_327 : decode cL_texts 327 = .ok (.ifCond .eq 65, 3) := by decide +kernel
theorem dL_texts_330 : decode cL_texts 330 = .ok (.aload_n 0, 1) := by decide +kernel
theorem dL_texts_331 : decode cL_texts 331 = .ok (.invokevirtual 105, 3) := by decide +kernel
theorem dL_texts_334 : decode cL_texts 334 = .ok (.iconst 3, 1) := by decide +kernel
theorem dL_texts_335 : decode cL_texts 335 = .ok (.if_icmp .ne 57, 3) := by decide +kernel
theorem dL_texts_338 : decode cL_texts 338 = .ok (.aload_n 0, 1) := by decide +kernel
theorem dL_texts_339 : decode cL_texts 339 = .ok (.iconst 0, 1) := by decide +kernel
theorem dL_texts_340 : decode cL_texts 340 = .ok (.iconst 1, 1) := by decide +kernel
theorem dL_texts_341 : decode cL_texts 341 = .ok (.invokevirtual 19, 3) := by decide +kernel
theorem dL_texts_344 : decode cL_texts 344 = .ok (.bipush 60, 2) := by decide +kernel
theorem dL_texts_346 : decode cL_texts 346 = .ok (.if_icmp .ne 46, 3) := by decide +kernel
theorem dL_texts_349 : decode cL_texts 349 = .ok (.aload_n 0, 1) := by decide +kernel
theorem dL_texts_350 : decode cL_texts 350 = .ok (.iconst 2, 1) := by decide +kernel
theorem dL_texts_351 : decode cL_texts 351 = .ok (.iconst 1, 1) := by decide +kernel
theorem dL_texts_352 : decode cL_texts 352 = .ok (.invokevirtual 19, 3) := by decide +kernel
theorem dL_texts_355 : decode cL_texts 355 = .ok (.sipush 200, 3) := by decide +kernel
theorem dL_texts_358 : decode cL_texts 358 = .ok (.if_icmp .ne 34, 3) := by decide +kernel
theorem dL_texts_361 : decode cL_texts 361 = .ok (.aload_n 0, 1) := by decide +kernel
theorem dL_texts_362 : decode cL_texts 362 = .ok (.iconst 2, 1) := by decide +kernel
theorem dL_texts_363 : decode cL_texts 363 = .ok (.bipush 6, 2) := by decide +kernel
theorem dL_texts_365 : decode cL_texts 365 = .ok (.invokevirtual 19, 3) := by decide +kernel
theorem dL_texts_368 : decode cL_texts 368 = .ok (.iconst 2, 1) := by decide +kernel
theorem dL_texts_369 : decode cL_texts 369 = .ok (.if_icmp .ne 23, 3) := by decide +kernel
theorem dL_texts_372 : decode cL_texts 372 = .ok (.aload_n 0, 1) := by decide +kernel
theorem dL_texts_373 : decode cL_texts 373 = .ok (.bipush 13, 2) := by decide +kernel
theorem dL_texts_375 : decode cL_texts 375 = .ok (.invokevirtual 13, 3) := by decide +kernel
theorem dL_texts_378 : decode cL_texts 378 = .ok (.bipush 15, 2) := by decide +kernel
theorem dL_texts_380 : decode cL_texts 380 = .ok (.if_icmp .ne 12, 3) := by decide +kernel
theorem dL_texts_383 : decode cL_texts 383 = .ok (.aload_n 0, 1) := by decide +kernel
theorem dL_texts_384 : decode cL_texts 384 = .ok (.invokevirtual 105, 3) := by decide +kernel
theorem dL_texts_387 : decode cL_texts 387 = .ok (.bipush (-4), 2) := by decide +kernel
theorem dL_texts_389 : decode cL_texts 389 = .ok (.if_icmp .eq 5, 3) := by decide +kernel
theorem dL_texts_392 : decode cL_texts 392 = .ok (.iconst 0, 1) := by decide +kernel
theorem dL_texts_393 : decode cL_texts 393 = .ok (.ireturn, 1) := by decide +kernel
theorem dL_texts_394 : decode cL_texts 394 = .ok (.bipush 15, 2) := by decide +kernel
theorem dL_texts_396 : decode cL_texts 396 = .ok (.istore_n 1, 1) := by decide +kernel
theorem dL_texts_397 : decode cL_texts 397 = .ok (.iload_n 1, 1) := by decide +kernel
theorem dL_texts_398 : decode cL_texts 398 = .ok (.bipush 80, 2) := by decide +kernel
theorem dL_texts_400 : decode cL_texts 400 = .ok (.if_icmp .ge 23, 3) := by decide +kernel
theorem dL_texts_403 : decode cL_texts 403 = .ok (.aload_n 0, 1) := by decide +kernel
theorem dL_texts_404 : decode cL_texts 404 = .ok (.iload_n 1, 1) := by decide +kernel
theorem dL_texts_405 : decode cL_texts 405 = .ok (.i2c, 1) := by decide +kernel
theorem dL_texts_406 : decode cL_texts 406 = .ok (.invokevirtual 97, 3) := by decide +kernel
theorem dL_texts_409 : decode cL_texts 409 = .ok (.iload_n 1, 1) := by decide +kernel
theorem dL_texts_410 : decode cL_texts 410 = .ok (.iconst 1, 1) := by decide +kernel
theorem dL_texts_411 : decode cL_texts 411 = .ok (.iadd, 1) := by decide +kernel
