theorem dL_wires_280 : decode cL_wires 280 = .ok (.bipush 64, 2) := by decide +kernel
theorem dL_wires_282 : decode cL_wires 282 = .ok (.if_icmp .ne 65, 3) := by decide +kernel
theorem dL_wires_285 : decode cL_wires 285 = .ok (.aload_n 0, 1) := by decide +kernel
theorem dL_wires_286 : decode cL_wires 286 = .ok (.iconst 1, 1) := by decide +kernel
theorem dL_wires_287 : decode cL_wires 287 = .ok (.bipush 100, 2) := by decide +kernel
theorem dL_wires_289 : decode cL_wires 289 = .ok (.invokevirtual 53, 3) := by decide +kernel
theorem dL_wires_292 : decode cL_wires 292 = .ok (.bipush 100, 2) := by decide +kernel
theorem dL_wires_294 : decode cL_wires 294 = .ok (.if_icmp .ne 53, 3) := by decide +kernel
theorem dL_wires_297 : decode cL_wires 297 = .ok (.aload_n 0, 1) := by decide +kernel
theorem dL_wires_298 : decode cL_wires 298 = .ok (.iconst 1, 1) := by decide +kernel
theorem dL_wires_299 : decode cL_wires 299 = .ok (.sipush 200, 3) := by decide +kernel
theorem dL_wires_302 : decode cL_wires 302 = .ok (.invokevirtual 53, 3) := by decide +kernel
theorem dL_wires_305 : decode cL_wires 305 = .ok (.ifCond .ne 42, 3) := by decide +kernel
theorem dL_wires_308 : decode cL_wires 308 = .ok (.aload_n 0, 1) := by decide +kernel
theorem dL_wires_309 : decode cL_wires 309 = .ok (.bipush 10, 2) := by decide +kernel
theorem dL_wires_311 : decode cL_wires 311 = .ok (.invokevirtual 13, 3) := by decide +kernel
theorem dL_wires_314 : decode cL_wires 314 = .ok (.sipush 289, 3) := by decide +kernel
theorem dL_wires_317 : decode cL_wires 317 = .ok (.if_icmp .ne 30, 3) := by decide +kernel
theorem dL_wires_320 : decode cL_wires 320 = .ok (.aload_n 0, 1) := by decide +kernel
theorem dL_wires_321 : decode cL_wires 321 = .ok (.bipush 9, 2) := by decide +kernel
theorem dL_wires_323 : decode cL_wires 323 = .ok (.invokevirtual 13, 3) := by decide +kernel
theorem dL_wires_326 : decode cL_wires 326 = .ok (.ifCond .ne 21, 3) := by decide +kernel
theorem dL_wires_329 : decode cL_wires 329 = .ok (.aload_n 0, 1) := by decide +kernel
theorem dL_wires_330 : decode cL_wires 330 = .ok (.iconst 2, 1) := by decide +kernel
theorem dL_wires_331 : decode cL_wires 331 = .ok (.bipush 6, 2) := by decide +kernel
theorem dL_wires_333 : decode cL_wires 333 = .ok (.invokevirtual 19, 3) := by decide +kernel
theorem dL_wires_336 : decode cL_wires 336 = .ok (.iconst 2, 1) := by decide +kernel
theorem dL_wires_337 : decode cL_wires 337 = .ok (.if_icmp .ne 10, 3) := by decide +kernel
theorem dL_wires_340 : decode cL_wires 340 = .ok (.aload_n 0, 1) := by decide +kernel
theorem dL_wires_341 : decode cL_wires 341 = .ok (.invokestatic 88, 3) := by decide +kernel
theorem dL_wires_344 : decode cL_wires 344 = .ok (.ifCond .ne 5, 3) := by decide +kernel
theorem dL_wires_347 : decode cL_wires 347 = .ok (.iconst 0, 1) := by decide +kernel
theorem dL_wires_348 : decode cL_wires 348 = .ok (.ireturn, 1) := by decide +kernel
theorem dL_wires_349 : decode cL_wires 349 = .ok (.aload_n 0, 1) := by decide +kernel
theorem dL_wires_350 : decode cL_wires 350 = .ok (.bipush 50, 2) := by decide +kernel
theorem dL_wires_352 : decode cL_wires 352 = .ok (.invokevirtual 44, 3) := by decide +kernel
theorem dL_wires_355 : decode cL_wires 355 = .ok (.bipush 10, 2) := by decide +kernel
theorem dL_wires_357 : decode cL_wires 357 = .ok (.if_icmp .ne 307, 3) := by decide +kernel
theorem dL_wires_360 : decode cL_wires 360 = .ok (.aload_n 0, 1) := by decide +kernel
theorem dL_wires_361 : decode cL_wires 361 = .ok (.bipush 50, 2) := by decide +kernel
theorem dL_wires_363 : decode cL_wires 363 = .ok (.invokevirtual 44, 3) := by decide +kernel
theorem dL_wires_366 : decode cL_wires 366 = .ok (.bipush (-5), 2) := by decide +kernel
theorem dL_wires_368 : decode cL_wires 368 = .ok (.if_icmp .ne 296, 3) := by decide +kernel
theorem dL_wires_371 : decode cL_wires 371 = .ok (.aload_n 0, 1) := by decide +kernel
theorem dL_wires_372 : decode cL_wires 372 = .ok (.iconst 3, 1) := by decide +kernel
theorem dL_wires_373 : decode cL_wires 373 = .ok (.invokevirtual 13, 3) := by decide +kernel
theorem dL_wires_376 : decode cL_wires 376 = .ok (.ifCond .ne 288, 3) := by decide +kernel
theorem dL_wires_379 : decode cL_wires 379 = .ok (.aload_n 0, 1) := by decide +kernel
theorem dL_wires_380 : decode cL_wires 380 = .ok (.iconst 2, 1) := by decide +kernel
theorem dL_wires_381 : decode cL_wires 381 = .ok (.bipush 120, 2) := by decide +kernel
theorem dL_wires_383 : decode cL_wires 383 = .ok (.invokevirtual 38, 3) := by decide +kernel
theorem dL_wires_386 : decode cL_wires 386 = .ok (.sipush 200, 3) := by decide +kernel
theorem dL_wires_389 : decode cL_wires 389 = .ok (.if_icmp .ne 275, 3) := by decide +kernel
theorem dL_wires_392 : decode cL_wires 392 = .ok (.aload_n 0, 1) := by decide +kernel
theorem dL_wires_393 : decode cL_wires 393 = .ok (.iconst 2, 1) := by decide +kernel
theorem dL_wires_394 : decode cL_wires 394 = .ok (.bipush 120, 2) := by decide +kernel
theorem dL_wires_396 : decode cL_wires 396 = .ok (.invokevirtual 38, 3) := by decide +kernel
theorem dL_wires_399 : decode cL_wires 399 = .ok (.bipush (-5), 2) := by decide +kernel
theorem dL_wires_401 : decode cL_wires 401 = .ok (.if_icmp .ne 263, 3) := by decide +kernel
theorem dL_wires_404 : decode cL_wires 404 = .ok (.aload_n 0, 1) := by decide +kernel
theorem dL_wires_405 : decode cL_wires 405 = .ok (.iconst 1, 1) := by decide +kernel
theorem dL_wires_406 : decode cL_wires 406 = .ok (.iconst 2, 1) := by decide +kernel
theorem dL_wires_407 : decode cL_wires 407 = .ok (.iconst 1, 1) := by decide +kernel
theorem dL_wires_408 : decode cL_wires 408 = .ok (.invokevirtual 56, 3) := by decide +kernel
theorem dL_wires_411 : decode cL_wires 411 = .ok (.bipush 12, 2) := by decide +kernel
theorem dL_wires_413 : decode cL_wires 413 = .ok (.if_icmp .ne 251, 3) := by decide +kernel
theorem dL_wires_416 : decode cL_wires 416 = .ok (.aload_n 0, 1) := by decide +kernel
theorem dL_wires_417 : decode cL_wires 417 = .ok (.iconst 2, 1) := by decide +kernel
theorem dL_wires_418 : decode cL_wires 418 = .ok (.iconst 1, 1) := by decide +kernel
theorem dL_wires_419 : decode cL_wires 419 = .ok (.iconst 2, 1) := by decide +kernel
