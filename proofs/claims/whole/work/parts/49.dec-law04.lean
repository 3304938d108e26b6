theorem dLa_law_342 : decode cLa_law 342 = .ok (.iconst 2, 1) := by decide +kernel
theorem dLa_law_343 : decode cLa_law 343 = .ok (.iadd, 1) := by decide +kernel
theorem dLa_law_344 : decode cLa_law 344 = .ok (.iaload, 1) := by decide +kernel
theorem dLa_law_345 : decode cLa_law 345 = .ok (.aload_n 3, 1) := by decide +kernel
theorem dLa_law_346 : decode cLa_law 346 = .ok (.invokestatic 83, 3) := by decide +kernel
theorem dLa_law_349 : decode cLa_law 349 = .ok (.istore 5, 2) := by decide +kernel
theorem dLa_law_351 : decode cLa_law 351 = .ok (.aload_n 2, 1) := by decide +kernel
theorem dLa_law_352 : decode cLa_law 352 = .ok (.aload_n 0, 1) := by decide +kernel
theorem dLa_law_353 : decode cLa_law 353 = .ok (.iload 4, 2) := by decide +kernel
theorem dLa_law_355 : decode cLa_law 355 = .ok (.iconst 1, 1) := by decide +kernel
theorem dLa_law_356 : decode cLa_law 356 = .ok (.iadd, 1) := by decide +kernel
theorem dLa_law_357 : decode cLa_law 357 = .ok (.iaload, 1) := by decide +kernel
theorem dLa_law_358 : decode cLa_law 358 = .ok (.aload_n 0, 1) := by decide +kernel
theorem dLa_law_359 : decode cLa_law 359 = .ok (.iload 4, 2) := by decide +kernel
theorem dLa_law_361 : decode cLa_law 361 = .ok (.iconst 2, 1) := by decide +kernel
theorem dLa_law_362 : decode cLa_law 362 = .ok (.iadd, 1) := by decide +kernel
theorem dLa_law_363 : decode cLa_law 363 = .ok (.iaload, 1) := by decide +kernel
theorem dLa_law_364 : decode cLa_law 364 = .ok (.invokevirtual 85, 3) := by decide +kernel
theorem dLa_law_367 : decode cLa_law 367 = .ok (.istore 6, 2) := by decide +kernel
theorem dLa_law_369 : decode cLa_law 369 = .ok (.aload_n 2, 1) := by decide +kernel
theorem dLa_law_370 : decode cLa_law 370 = .ok (.invokevirtual 68, 3) := by decide +kernel
theorem dLa_law_373 : decode cLa_law 373 = .ok (.iload 5, 2) := by decide +kernel
theorem dLa_law_375 : decode cLa_law 375 = .ok (.if_icmp .eq 5, 3) := by decide +kernel
theorem dLa_law_378 : decode cLa_law 378 = .ok (.iconst 0, 1) := by decide +kernel
theorem dLa_law_379 : decode cLa_law 379 = .ok (.ireturn, 1) := by decide +kernel
theorem dLa_law_380 : decode cLa_law 380 = .ok (.iload 5, 2) := by decide +kernel
theorem dLa_law_382 : decode cLa_law 382 = .ok (.ifCond .ne 15, 3) := by decide +kernel
theorem dLa_law_385 : decode cLa_law 385 = .ok (.aload_n 3, 1) := by decide +kernel
theorem dLa_law_386 : decode cLa_law 386 = .ok (.iconst 0, 1) := by decide +kernel
theorem dLa_law_387 : decode cLa_law 387 = .ok (.laload, 1) := by decide +kernel
theorem dLa_law_388 : decode cLa_law 388 = .ok (.iload 6, 2) := by decide +kernel
theorem dLa_law_390 : decode cLa_law 390 = .ok (.i2l, 1) := by decide +kernel
theorem dLa_law_391 : decode cLa_law 391 = .ok (.lcmp, 1) := by decide +kernel
theorem dLa_law_392 : decode cLa_law 392 = .ok (.ifCond .eq 5, 3) := by decide +kernel
theorem dLa_law_395 : decode cLa_law 395 = .ok (.iconst 0, 1) := by decide +kernel
theorem dLa_law_396 : decode cLa_law 396 = .ok (.ireturn, 1) := by decide +kernel
theorem dLa_law_397 : decode cLa_law 397 = .ok (.goto 583, 3) := by decide +kernel
theorem dLa_law_400 : decode cLa_law 400 = .ok (.aload_n 1, 1) := by decide +kernel
theorem dLa_law_401 : decode cLa_law 401 = .ok (.aload_n 0, 1) := by decide +kernel
theorem dLa_law_402 : decode cLa_law 402 = .ok (.iload 4, 2) := by decide +kernel
theorem dLa_law_404 : decode cLa_law 404 = .ok (.iconst 1, 1) := by decide +kernel
theorem dLa_law_405 : decode cLa_law 405 = .ok (.iadd, 1) := by decide +kernel
theorem dLa_law_406 : decode cLa_law 406 = .ok (.iaload, 1) := by decide +kernel
theorem dLa_law_407 : decode cLa_law 407 = .ok (.aload_n 0, 1) := by decide +kernel
theorem dLa_law_408 : decode cLa_law 408 = .ok (.iload 4, 2) := by decide +kernel
theorem dLa_law_410 : decode cLa_law 410 = .ok (.iconst 2, 1) := by decide +kernel
theorem dLa_law_411 : decode cLa_law 411 = .ok (.iadd, 1) := by decide +kernel
theorem dLa_law_412 : decode cLa_law 412 = .ok (.iaload, 1) := by decide +kernel
theorem dLa_law_413 : decode cLa_law 413 = .ok (.aload_n 3, 1) := by decide +kernel
theorem dLa_law_414 : decode cLa_law 414 = .ok (.invokestatic 86, 3) := by decide +kernel
theorem dLa_law_417 : decode cLa_law 417 = .ok (.istore 5, 2) := by decide +kernel
theorem dLa_law_419 : decode cLa_law 419 = .ok (.aload_n 2, 1) := by decide +kernel
theorem dLa_law_420 : decode cLa_law 420 = .ok (.aload_n 0, 1) := by decide +kernel
theorem dLa_law_421 : decode cLa_law 421 = .ok (.iload 4, 2) := by decide +kernel
theorem dLa_law_423 : decode cLa_law 423 = .ok (.iconst 1, 1) := by decide +kernel
theorem dLa_law_424 : decode cLa_law 424 = .ok (.iadd, 1) := by decide +kernel
theorem dLa_law_425 : decode cLa_law 425 = .ok (.iaload, 1) := by decide +kernel
theorem dLa_law_426 : decode cLa_law 426 = .ok (.aload_n 0, 1) := by decide +kernel
theorem dLa_law_427 : decode cLa_law 427 = .ok (.iload 4, 2) := by decide +kernel
theorem dLa_law_429 : decode cLa_law 429 = .ok (.iconst 2, 1) := by decide +kernel
