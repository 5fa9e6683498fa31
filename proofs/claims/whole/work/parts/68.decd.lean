theorem d_LA_law_362 : decode code 362 = .ok (.iload 4, 2) := by decide +kernel
theorem d_LA_law_364 : decode code 364 = .ok (.iconst 1, 1) := by decide +kernel
theorem d_LA_law_365 : decode code 365 = .ok (.iadd, 1) := by decide +kernel
theorem d_LA_law_366 : decode code 366 = .ok (.iaload, 1) := by decide +kernel
theorem d_LA_law_367 : decode code 367 = .ok (.aload_n 0, 1) := by decide +kernel
theorem d_LA_law_368 : decode code 368 = .ok (.iload 4, 2) := by decide +kernel
theorem d_LA_law_370 : decode code 370 = .ok (.iconst 2, 1) := by decide +kernel
theorem d_LA_law_371 : decode code 371 = .ok (.iadd, 1) := by decide +kernel
theorem d_LA_law_372 : decode code 372 = .ok (.iaload, 1) := by decide +kernel
theorem d_LA_law_373 : decode code 373 = .ok (.ifCond .eq 7, 3) := by decide +kernel
theorem d_LA_law_376 : decode code 376 = .ok (.iconst 1, 1) := by decide +kernel
theorem d_LA_law_377 : decode code 377 = .ok (.goto 4, 3) := by decide +kernel
theorem d_LA_law_380 : decode code 380 = .ok (.iconst 0, 1) := by decide +kernel
theorem d_LA_law_381 : decode code 381 = .ok (.aload_n 3, 1) := by decide +kernel
theorem d_LA_law_382 : decode code 382 = .ok (.invokestatic 86, 3) := by decide +kernel
theorem d_LA_law_385 : decode code 385 = .ok (.istore 5, 2) := by decide +kernel
theorem d_LA_law_387 : decode code 387 = .ok (.aload_n 2, 1) := by decide +kernel
theorem d_LA_law_388 : decode code 388 = .ok (.aload_n 0, 1) := by decide +kernel
theorem d_LA_law_389 : decode code 389 = .ok (.iload 4, 2) := by decide +kernel
theorem d_LA_law_391 : decode code 391 = .ok (.iconst 1, 1) := by decide +kernel
theorem d_LA_law_392 : decode code 392 = .ok (.iadd, 1) := by decide +kernel
theorem d_LA_law_393 : decode code 393 = .ok (.iaload, 1) := by decide +kernel
theorem d_LA_law_394 : decode code 394 = .ok (.aload_n 0, 1) := by decide +kernel
theorem d_LA_law_395 : decode code 395 = .ok (.iload 4, 2) := by decide +kernel
theorem d_LA_law_397 : decode code 397 = .ok (.iconst 2, 1) := by decide +kernel
theorem d_LA_law_398 : decode code 398 = .ok (.iadd, 1) := by decide +kernel
theorem d_LA_law_399 : decode code 399 = .ok (.iaload, 1) := by decide +kernel
theorem d_LA_law_400 : decode code 400 = .ok (.ifCond .eq 7, 3) := by decide +kernel
theorem d_LA_law_403 : decode code 403 = .ok (.iconst 1, 1) := by decide +kernel
theorem d_LA_law_404 : decode code 404 = .ok (.goto 4, 3) := by decide +kernel
theorem d_LA_law_407 : decode code 407 = .ok (.iconst 0, 1) := by decide +kernel
theorem d_LA_law_408 : decode code 408 = .ok (.invokevirtual 89, 3) := by decide +kernel
theorem d_LA_law_411 : decode code 411 = .ok (.istore 6, 2) := by decide +kernel
theorem d_LA_law_413 : decode code 413 = .ok (.aload_n 2, 1) := by decide +kernel
theorem d_LA_law_414 : decode code 414 = .ok (.invokevirtual 74, 3) := by decide +kernel
theorem d_LA_law_417 : decode code 417 = .ok (.iload 5, 2) := by decide +kernel
theorem d_LA_law_419 : decode code 419 = .ok (.if_icmp .eq 5, 3) := by decide +kernel
theorem d_LA_law_424 : decode code 424 = .ok (.iload 5, 2) := by decide +kernel
theorem d_LA_law_426 : decode code 426 = .ok (.ifCond .ne 22, 3) := by decide +kernel
theorem d_LA_law_429 : decode code 429 = .ok (.aload_n 3, 1) := by decide +kernel
theorem d_LA_law_430 : decode code 430 = .ok (.iconst 0, 1) := by decide +kernel
theorem d_LA_law_431 : decode code 431 = .ok (.laload, 1) := by decide +kernel
theorem d_LA_law_432 : decode code 432 = .ok (.iload 6, 2) := by decide +kernel
theorem d_LA_law_434 : decode code 434 = .ok (.ifCond .eq 7, 3) := by decide +kernel
theorem d_LA_law_437 : decode code 437 = .ok (.lconst 1, 1) := by decide +kernel
theorem d_LA_law_438 : decode code 438 = .ok (.goto 4, 3) := by decide +kernel
theorem d_LA_law_441 : decode code 441 = .ok (.lconst 0, 1) := by decide +kernel
theorem d_LA_law_442 : decode code 442 = .ok (.lcmp, 1) := by decide +kernel
theorem d_LA_law_443 : decode code 443 = .ok (.ifCond .eq 5, 3) := by decide +kernel
theorem d_LA_law_448 : decode code 448 = .ok (.goto 660, 3) := by decide +kernel
theorem d_LA_law_451 : decode code 451 = .ok (.aload_n 1, 1) := by decide +kernel
theorem d_LA_law_452 : decode code 452 = .ok (.invokevirtual 90, 3) := by decide +kernel
theorem d_LA_law_455 : decode code 455 = .ok (.aload_n 2, 1) := by decide +kernel
theorem d_LA_law_456 : decode code 456 = .ok (.invokevirtual 93, 3) := by decide +kernel
theorem d_LA_law_459 : decode code 459 = .ok (.if_icmp .eq 649, 3) := by decide +kernel
theorem d_LA_law_464 : decode code 464 = .ok (.aload_n 1, 1) := by decide +kernel
theorem d_LA_law_465 : decode code 465 = .ok (.aload_n 0, 1) := by decide +kernel
theorem d_LA_law_466 : decode code 466 = .ok (.iload 4, 2) := by decide +kernel
theorem d_LA_law_468 : decode code 468 = .ok (.iconst 1, 1) := by decide +kernel
theorem d_LA_law_469 : decode code 469 = .ok (.iadd, 1) := by decide +kernel
