/-! decode rows of the law (written by wip/whole/mk_law2.py) -/
theorem d_Law_law_320 : decode code 320 = .ok (.iconst 3, 1) := by decide +kernel
theorem d_Law_law_321 : decode code 321 = .ok (.iadd, 1) := by decide +kernel
theorem d_Law_law_322 : decode code 322 = .ok (.iaload, 1) := by decide +kernel
theorem d_Law_law_323 : decode code 323 = .ok (.invokevirtual 83, 3) := by decide +kernel
theorem d_Law_law_326 : decode code 326 = .ok (.aload_n 2, 1) := by decide +kernel
theorem d_Law_law_327 : decode code 327 = .ok (.invokevirtual 69, 3) := by decide +kernel
theorem d_Law_law_330 : decode code 330 = .ok (.iload 5, 2) := by decide +kernel
theorem d_Law_law_332 : decode code 332 = .ok (.if_icmp .eq 5, 3) := by decide +kernel
theorem d_Law_law_335 : decode code 335 = .ok (.iconst 0, 1) := by decide +kernel
theorem d_Law_law_336 : decode code 336 = .ok (.ireturn, 1) := by decide +kernel
theorem d_Law_law_337 : decode code 337 = .ok (.goto 504, 3) := by decide +kernel
theorem d_Law_law_340 : decode code 340 = .ok (.aload_n 1, 1) := by decide +kernel
theorem d_Law_law_341 : decode code 341 = .ok (.aload_n 0, 1) := by decide +kernel
theorem d_Law_law_342 : decode code 342 = .ok (.iload 4, 2) := by decide +kernel
theorem d_Law_law_344 : decode code 344 = .ok (.iconst 1, 1) := by decide +kernel
theorem d_Law_law_345 : decode code 345 = .ok (.iadd, 1) := by decide +kernel
theorem d_Law_law_346 : decode code 346 = .ok (.iaload, 1) := by decide +kernel
theorem d_Law_law_347 : decode code 347 = .ok (.aload_n 0, 1) := by decide +kernel
theorem d_Law_law_348 : decode code 348 = .ok (.iload 4, 2) := by decide +kernel
theorem d_Law_law_350 : decode code 350 = .ok (.iconst 2, 1) := by decide +kernel
theorem d_Law_law_351 : decode code 351 = .ok (.iadd, 1) := by decide +kernel
theorem d_Law_law_352 : decode code 352 = .ok (.iaload, 1) := by decide +kernel
theorem d_Law_law_353 : decode code 353 = .ok (.invokestatic 84, 3) := by decide +kernel
theorem d_Law_law_356 : decode code 356 = .ok (.istore 5, 2) := by decide +kernel
theorem d_Law_law_358 : decode code 358 = .ok (.aload_n 2, 1) := by decide +kernel
theorem d_Law_law_359 : decode code 359 = .ok (.aload_n 0, 1) := by decide +kernel
theorem d_Law_law_360 : decode code 360 = .ok (.iload 4, 2) := by decide +kernel
theorem d_Law_law_362 : decode code 362 = .ok (.iconst 1, 1) := by decide +kernel
theorem d_Law_law_363 : decode code 363 = .ok (.iadd, 1) := by decide +kernel
theorem d_Law_law_364 : decode code 364 = .ok (.iaload, 1) := by decide +kernel
theorem d_Law_law_365 : decode code 365 = .ok (.aload_n 0, 1) := by decide +kernel
theorem d_Law_law_366 : decode code 366 = .ok (.iload 4, 2) := by decide +kernel
theorem d_Law_law_368 : decode code 368 = .ok (.iconst 2, 1) := by decide +kernel
theorem d_Law_law_369 : decode code 369 = .ok (.iadd, 1) := by decide +kernel
theorem d_Law_law_370 : decode code 370 = .ok (.iaload, 1) := by decide +kernel
theorem d_Law_law_371 : decode code 371 = .ok (.invokevirtual 86, 3) := by decide +kernel
theorem d_Law_law_374 : decode code 374 = .ok (.aload_n 2, 1) := by decide +kernel
theorem d_Law_law_375 : decode code 375 = .ok (.invokevirtual 69, 3) := by decide +kernel
theorem d_Law_law_378 : decode code 378 = .ok (.iload 5, 2) := by decide +kernel
theorem d_Law_law_380 : decode code 380 = .ok (.if_icmp .eq 5, 3) := by decide +kernel
theorem d_Law_law_383 : decode code 383 = .ok (.iconst 0, 1) := by decide +kernel
theorem d_Law_law_384 : decode code 384 = .ok (.ireturn, 1) := by decide +kernel
theorem d_Law_law_385 : decode code 385 = .ok (.goto 456, 3) := by decide +kernel
theorem d_Law_law_388 : decode code 388 = .ok (.aload_n 1, 1) := by decide +kernel
theorem d_Law_law_389 : decode code 389 = .ok (.aload_n 0, 1) := by decide +kernel
theorem d_Law_law_390 : decode code 390 = .ok (.iload 4, 2) := by decide +kernel
theorem d_Law_law_392 : decode code 392 = .ok (.iconst 1, 1) := by decide +kernel
theorem d_Law_law_393 : decode code 393 = .ok (.iadd, 1) := by decide +kernel
theorem d_Law_law_394 : decode code 394 = .ok (.iaload, 1) := by decide +kernel
theorem d_Law_law_395 : decode code 395 = .ok (.aload_n 0, 1) := by decide +kernel
theorem d_Law_law_396 : decode code 396 = .ok (.iload 4, 2) := by decide +kernel
theorem d_Law_law_398 : decode code 398 = .ok (.iconst 2, 1) := by decide +kernel
theorem d_Law_law_399 : decode code 399 = .ok (.iadd, 1) := by decide +kernel
theorem d_Law_law_400 : decode code 400 = .ok (.iaload, 1) := by decide +kernel
theorem d_Law_law_401 : decode code 401 = .ok (.aload_n 3, 1) := by decide +kernel
theorem d_Law_law_402 : decode code 402 = .ok (.invokestatic 87, 3) := by decide +kernel
theorem d_Law_law_405 : decode code 405 = .ok (.istore 5, 2) := by decide +kernel
theorem d_Law_law_407 : decode code 407 = .ok (.aload_n 2, 1) := by decide +kernel
theorem d_Law_law_408 : decode code 408 = .ok (.aload_n 0, 1) := by decide +kernel
theorem d_Law_law_409 : decode code 409 = .ok (.iload 4, 2) := by decide +kernel
theorem d_Law_law_411 : decode code 411 = .ok (.iconst 1, 1) := by decide +kernel
theorem d_Law_law_412 : decode code 412 = .ok (.iadd, 1) := by decide +kernel
theorem d_Law_law_413 : decode code 413 = .ok (.iaload, 1) := by decide +kernel
theorem d_Law_law_414 : decode code 414 = .ok (.aload_n 0, 1) := by decide +kernel
theorem d_Law_law_415 : decode code 415 = .ok (.iload 4, 2) := by decide +kernel
theorem d_Law_law_417 : decode code 417 = .ok (.iconst 2, 1) := by decide +kernel
theorem d_Law_law_418 : decode code 418 = .ok (.iadd, 1) := by decide +kernel
theorem d_Law_law_419 : decode code 419 = .ok (.iaload, 1) := by decide +kernel
theorem d_Law_law_420 : decode code 420 = .ok (.invokevirtual 89, 3) := by decide +kernel
theorem d_Law_law_423 : decode code 423 = .ok (.istore 6, 2) := by decide +kernel
theorem d_Law_law_425 : decode code 425 = .ok (.aload_n 2, 1) := by decide +kernel
theorem d_Law_law_426 : decode code 426 = .ok (.invokevirtual 69, 3) := by decide +kernel
theorem d_Law_law_429 : decode code 429 = .ok (.iload 5, 2) := by decide +kernel
theorem d_Law_law_431 : decode code 431 = .ok (.if_icmp .eq 5, 3) := by decide +kernel
theorem d_Law_law_434 : decode code 434 = .ok (.iconst 0, 1) := by decide +kernel
theorem d_Law_law_435 : decode code 435 = .ok (.ireturn, 1) := by decide +kernel
theorem d_Law_law_436 : decode code 436 = .ok (.iload 5, 2) := by decide +kernel
theorem d_Law_law_438 : decode code 438 = .ok (.ifCond .ne 15, 3) := by decide +kernel
theorem d_Law_law_441 : decode code 441 = .ok (.aload_n 3, 1) := by decide +kernel
theorem d_Law_law_442 : decode code 442 = .ok (.iconst 0, 1) := by decide +kernel
theorem d_Law_law_443 : decode code 443 = .ok (.laload, 1) := by decide +kernel
theorem d_Law_law_444 : decode code 444 = .ok (.iload 6, 2) := by decide +kernel
theorem d_Law_law_446 : decode code 446 = .ok (.i2l, 1) := by decide +kernel
theorem d_Law_law_447 : decode code 447 = .ok (.lcmp, 1) := by decide +kernel
