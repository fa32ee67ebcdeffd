theorem d_Lw_law_345 : decode code 345 = .ok (.iconst 2, 1) := by decide +kernel
theorem d_Lw_law_346 : decode code 346 = .ok (.iadd, 1) := by decide +kernel
theorem d_Lw_law_347 : decode code 347 = .ok (.iaload, 1) := by decide +kernel
theorem d_Lw_law_348 : decode code 348 = .ok (.i2l, 1) := by decide +kernel
theorem d_Lw_law_349 : decode code 349 = .ok (.ldc2_w 50, 3) := by decide +kernel
theorem d_Lw_law_352 : decode code 352 = .ok (.land, 1) := by decide +kernel
theorem d_Lw_law_353 : decode code 353 = .ok (.lor, 1) := by decide +kernel
theorem d_Lw_law_354 : decode code 354 = .ok (.invokevirtual 64, 3) := by decide +kernel
theorem d_Lw_law_357 : decode code 357 = .ok (.istore 6, 2) := by decide +kernel
theorem d_Lw_law_359 : decode code 359 = .ok (.aload_n 2, 1) := by decide +kernel
theorem d_Lw_law_360 : decode code 360 = .ok (.invokevirtual 58, 3) := by decide +kernel
theorem d_Lw_law_363 : decode code 363 = .ok (.iload 5, 2) := by decide +kernel
theorem d_Lw_law_365 : decode code 365 = .ok (.if_icmp .eq 5, 3) := by decide +kernel
theorem d_Lw_law_368 : decode code 368 = .ok (.iconst 0, 1) := by decide +kernel
theorem d_Lw_law_369 : decode code 369 = .ok (.ireturn, 1) := by decide +kernel
theorem d_Lw_law_370 : decode code 370 = .ok (.iload 5, 2) := by decide +kernel
theorem d_Lw_law_372 : decode code 372 = .ok (.ifCond .ne 15, 3) := by decide +kernel
theorem d_Lw_law_375 : decode code 375 = .ok (.aload_n 3, 1) := by decide +kernel
theorem d_Lw_law_376 : decode code 376 = .ok (.iconst 0, 1) := by decide +kernel
theorem d_Lw_law_377 : decode code 377 = .ok (.laload, 1) := by decide +kernel
theorem d_Lw_law_378 : decode code 378 = .ok (.iload 6, 2) := by decide +kernel
theorem d_Lw_law_380 : decode code 380 = .ok (.i2l, 1) := by decide +kernel
theorem d_Lw_law_381 : decode code 381 = .ok (.lcmp, 1) := by decide +kernel
theorem d_Lw_law_382 : decode code 382 = .ok (.ifCond .eq 5, 3) := by decide +kernel
theorem d_Lw_law_385 : decode code 385 = .ok (.iconst 0, 1) := by decide +kernel
theorem d_Lw_law_386 : decode code 386 = .ok (.ireturn, 1) := by decide +kernel
theorem d_Lw_law_387 : decode code 387 = .ok (.goto 358, 3) := by decide +kernel
theorem d_Lw_law_390 : decode code 390 = .ok (.aload_n 1, 1) := by decide +kernel
theorem d_Lw_law_391 : decode code 391 = .ok (.aload_n 0, 1) := by decide +kernel
theorem d_Lw_law_392 : decode code 392 = .ok (.iload 4, 2) := by decide +kernel
theorem d_Lw_law_394 : decode code 394 = .ok (.iconst 1, 1) := by decide +kernel
theorem d_Lw_law_395 : decode code 395 = .ok (.iadd, 1) := by decide +kernel
theorem d_Lw_law_396 : decode code 396 = .ok (.iaload, 1) := by decide +kernel
theorem d_Lw_law_397 : decode code 397 = .ok (.aload_n 0, 1) := by decide +kernel
theorem d_Lw_law_398 : decode code 398 = .ok (.iload 4, 2) := by decide +kernel
theorem d_Lw_law_400 : decode code 400 = .ok (.iconst 2, 1) := by decide +kernel
theorem d_Lw_law_401 : decode code 401 = .ok (.iadd, 1) := by decide +kernel
theorem d_Lw_law_402 : decode code 402 = .ok (.iaload, 1) := by decide +kernel
theorem d_Lw_law_403 : decode code 403 = .ok (.aload_n 3, 1) := by decide +kernel
theorem d_Lw_law_404 : decode code 404 = .ok (.invokestatic 65, 3) := by decide +kernel
theorem d_Lw_law_407 : decode code 407 = .ok (.istore 5, 2) := by decide +kernel
theorem d_Lw_law_409 : decode code 409 = .ok (.aload_n 2, 1) := by decide +kernel
theorem d_Lw_law_410 : decode code 410 = .ok (.aload_n 0, 1) := by decide +kernel
theorem d_Lw_law_411 : decode code 411 = .ok (.iload 4, 2) := by decide +kernel
theorem d_Lw_law_413 : decode code 413 = .ok (.iconst 1, 1) := by decide +kernel
theorem d_Lw_law_414 : decode code 414 = .ok (.iadd, 1) := by decide +kernel
theorem d_Lw_law_415 : decode code 415 = .ok (.iaload, 1) := by decide +kernel
theorem d_Lw_law_416 : decode code 416 = .ok (.aload_n 0, 1) := by decide +kernel
theorem d_Lw_law_417 : decode code 417 = .ok (.iload 4, 2) := by decide +kernel
theorem d_Lw_law_419 : decode code 419 = .ok (.iconst 2, 1) := by decide +kernel
theorem d_Lw_law_420 : decode code 420 = .ok (.iadd, 1) := by decide +kernel
theorem d_Lw_law_421 : decode code 421 = .ok (.iaload, 1) := by decide +kernel
theorem d_Lw_law_422 : decode code 422 = .ok (.invokevirtual 68, 3) := by decide +kernel
theorem d_Lw_law_425 : decode code 425 = .ok (.lstore 6, 2) := by decide +kernel
theorem d_Lw_law_427 : decode code 427 = .ok (.aload_n 2, 1) := by decide +kernel
theorem d_Lw_law_428 : decode code 428 = .ok (.invokevirtual 58, 3) := by decide +kernel
theorem d_Lw_law_431 : decode code 431 = .ok (.iload 5, 2) := by decide +kernel
theorem d_Lw_law_433 : decode code 433 = .ok (.if_icmp .eq 5, 3) := by decide +kernel
theorem d_Lw_law_436 : decode code 436 = .ok (.iconst 0, 1) := by decide +kernel
theorem d_Lw_law_437 : decode code 437 = .ok (.ireturn, 1) := by decide +kernel
theorem d_Lw_law_438 : decode code 438 = .ok (.iload 5, 2) := by decide +kernel
theorem d_Lw_law_440 : decode code 440 = .ok (.ifCond .ne 14, 3) := by decide +kernel
theorem d_Lw_law_443 : decode code 443 = .ok (.aload_n 3, 1) := by decide +kernel
theorem d_Lw_law_444 : decode code 444 = .ok (.iconst 0, 1) := by decide +kernel
theorem d_Lw_law_445 : decode code 445 = .ok (.laload, 1) := by decide +kernel
theorem d_Lw_law_446 : decode code 446 = .ok (.lload 6, 2) := by decide +kernel
theorem d_Lw_law_448 : decode code 448 = .ok (.lcmp, 1) := by decide +kernel
theorem d_Lw_law_449 : decode code 449 = .ok (.ifCond .eq 5, 3) := by decide +kernel
theorem d_Lw_law_452 : decode code 452 = .ok (.iconst 0, 1) := by decide +kernel
theorem d_Lw_law_453 : decode code 453 = .ok (.ireturn, 1) := by decide +kernel
theorem d_Lw_law_454 : decode code 454 = .ok (.goto 291, 3) := by decide +kernel
theorem d_Lw_law_457 : decode code 457 = .ok (.aload_n 1, 1) := by decide +kernel
theorem d_Lw_law_458 : decode code 458 = .ok (.aload_n 0, 1) := by decide +kernel
theorem d_Lw_law_459 : decode code 459 = .ok (.iload 4, 2) := by decide +kernel
theorem d_Lw_law_461 : decode code 461 = .ok (.iconst 1, 1) := by decide +kernel
theorem d_Lw_law_462 : decode code 462 = .ok (.iadd, 1) := by decide +kernel
theorem d_Lw_law_463 : decode code 463 = .ok (.iaload, 1) := by decide +kernel
theorem d_Lw_law_464 : decode code 464 = .ok (.invokevirtual 69, 3) := by decide +kernel
theorem d_Lw_law_467 : decode code 467 = .ok (.aload_n 2, 1) := by decide +kernel
theorem d_Lw_law_468 : decode code 468 = .ok (.aload_n 0, 1) := by decide +kernel
theorem d_Lw_law_469 : decode code 469 = .ok (.iload 4, 2) := by decide +kernel
theorem d_Lw_law_471 : decode code 471 = .ok (.iconst 1, 1) := by decide +kernel
theorem d_Lw_law_472 : decode code 472 = .ok (.iadd, 1) := by decide +kernel
theorem d_Lw_law_473 : decode code 473 = .ok (.iaload, 1) := by decide +kernel
theorem d_Lw_law_474 : decode code 474 = .ok (.invokevirtual 72, 3) := by decide +kernel
theorem d_Lw_law_477 : decode code 477 = .ok (.if_icmp .eq 268, 3) := by decide +kernel
theorem d_Lw_law_480 : decode code 480 = .ok (.iconst 0, 1) := by decide +kernel
theorem d_Lw_law_481 : decode code 481 = .ok (.ireturn, 1) := by decide +kernel
theorem d_Lw_law_482 : decode code 482 = .ok (.aload_n 1, 1) := by decide +kernel
theorem d_Lw_law_483 : decode code 483 = .ok (.aload_n 0, 1) := by decide +kernel
