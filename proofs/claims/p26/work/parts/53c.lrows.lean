theorem dL_tells_345 : decode cL_tells 345 = .ok (.lconst 1, 1) := by decide +kernel
theorem dL_tells_346 : decode cL_tells 346 = .ok (.iload 12, 2) := by decide +kernel
theorem dL_tells_348 : decode cL_tells 348 = .ok (.lshl, 1) := by decide +kernel
theorem dL_tells_349 : decode cL_tells 349 = .ok (.goto 4, 3) := by decide +kernel
theorem dL_tells_352 : decode cL_tells 352 = .ok (.lconst 0, 1) := by decide +kernel
theorem dL_tells_353 : decode cL_tells 353 = .ok (.lor, 1) := by decide +kernel
theorem dL_tells_354 : decode cL_tells 354 = .ok (.lstore 10, 2) := by decide +kernel
theorem dL_tells_356 : decode cL_tells 356 = .ok (.iinc 12 1, 3) := by decide +kernel
theorem dL_tells_359 : decode cL_tells 359 = .ok (.goto (-279), 3) := by decide +kernel
theorem dL_tells_362 : decode cL_tells 362 = .ok (.iconst 0, 1) := by decide +kernel
theorem dL_tells_363 : decode cL_tells 363 = .ok (.istore 12, 2) := by decide +kernel
theorem dL_tells_365 : decode cL_tells 365 = .ok (.iload 12, 2) := by decide +kernel
theorem dL_tells_367 : decode cL_tells 367 = .ok (.bipush 12, 2) := by decide +kernel
theorem dL_tells_369 : decode cL_tells 369 = .ok (.if_icmp .ge 36, 3) := by decide +kernel
theorem dL_tells_372 : decode cL_tells 372 = .ok (.aload_n 0, 1) := by decide +kernel
theorem dL_tells_373 : decode cL_tells 373 = .ok (.iconst 1, 1) := by decide +kernel
theorem dL_tells_374 : decode cL_tells 374 = .ok (.iload 12, 2) := by decide +kernel
theorem dL_tells_376 : decode cL_tells 376 = .ok (.iconst 3, 1) := by decide +kernel
theorem dL_tells_377 : decode cL_tells 377 = .ok (.idiv, 1) := by decide +kernel
theorem dL_tells_378 : decode cL_tells 378 = .ok (.iadd, 1) := by decide +kernel
theorem dL_tells_379 : decode cL_tells 379 = .ok (.iload 12, 2) := by decide +kernel
theorem dL_tells_381 : decode cL_tells 381 = .ok (.iconst 3, 1) := by decide +kernel
theorem dL_tells_382 : decode cL_tells 382 = .ok (.irem, 1) := by decide +kernel
theorem dL_tells_383 : decode cL_tells 383 = .ok (.invokestatic 101, 3) := by decide +kernel
theorem dL_tells_386 : decode cL_tells 386 = .ok (.aload 7, 2) := by decide +kernel
theorem dL_tells_388 : decode cL_tells 388 = .ok (.bipush 42, 2) := by decide +kernel
theorem dL_tells_390 : decode cL_tells 390 = .ok (.iload 12, 2) := by decide +kernel
theorem dL_tells_392 : decode cL_tells 392 = .ok (.iadd, 1) := by decide +kernel
theorem dL_tells_393 : decode cL_tells 393 = .ok (.iaload, 1) := by decide +kernel
theorem dL_tells_394 : decode cL_tells 394 = .ok (.if_icmp .eq 5, 3) := by decide +kernel
theorem dL_tells_397 : decode cL_tells 397 = .ok (.iconst 0, 1) := by decide +kernel
theorem dL_tells_398 : decode cL_tells 398 = .ok (.ireturn, 1) := by decide +kernel
theorem dL_tells_399 : decode cL_tells 399 = .ok (.iinc 12 1, 3) := by decide +kernel
theorem dL_tells_402 : decode cL_tells 402 = .ok (.goto (-37), 3) := by decide +kernel
theorem dL_tells_405 : decode cL_tells 405 = .ok (.iconst 0, 1) := by decide +kernel
theorem dL_tells_406 : decode cL_tells 406 = .ok (.istore 12, 2) := by decide +kernel
theorem dL_tells_408 : decode cL_tells 408 = .ok (.iload 12, 2) := by decide +kernel
theorem dL_tells_410 : decode cL_tells 410 = .ok (.aload_n 1, 1) := by decide +kernel
theorem dL_tells_411 : decode cL_tells 411 = .ok (.iconst 0, 1) := by decide +kernel
theorem dL_tells_412 : decode cL_tells 412 = .ok (.iaload, 1) := by decide +kernel
theorem dL_tells_413 : decode cL_tells 413 = .ok (.if_icmp .gt 105, 3) := by decide +kernel
theorem dL_tells_416 : decode cL_tells 416 = .ok (.iconst 0, 1) := by decide +kernel
theorem dL_tells_417 : decode cL_tells 417 = .ok (.istore 13, 2) := by decide +kernel
theorem dL_tells_419 : decode cL_tells 419 = .ok (.iconst 0, 1) := by decide +kernel
theorem dL_tells_420 : decode cL_tells 420 = .ok (.istore 14, 2) := by decide +kernel
theorem dL_tells_422 : decode cL_tells 422 = .ok (.iload 14, 2) := by decide +kernel
theorem dL_tells_424 : decode cL_tells 424 = .ok (.aload_n 1, 1) := by decide +kernel
theorem dL_tells_425 : decode cL_tells 425 = .ok (.iconst 1, 1) := by decide +kernel
theorem dL_tells_426 : decode cL_tells 426 = .ok (.iaload, 1) := by decide +kernel
theorem dL_tells_427 : decode cL_tells 427 = .ok (.if_icmp .ge 57, 3) := by decide +kernel
theorem dL_tells_430 : decode cL_tells 430 = .ok (.iload 13, 2) := by decide +kernel
theorem dL_tells_432 : decode cL_tells 432 = .ok (.aload 7, 2) := by decide +kernel
theorem dL_tells_434 : decode cL_tells 434 = .ok (.iload 14, 2) := by decide +kernel
theorem dL_tells_436 : decode cL_tells 436 = .ok (.iaload, 1) := by decide +kernel
theorem dL_tells_437 : decode cL_tells 437 = .ok (.aload 8, 2) := by decide +kernel
theorem dL_tells_439 : decode cL_tells 439 = .ok (.iload 14, 2) := by decide +kernel
theorem dL_tells_441 : decode cL_tells 441 = .ok (.iaload, 1) := by decide +kernel
theorem dL_tells_442 : decode cL_tells 442 = .ok (.ixor, 1) := by decide +kernel
theorem dL_tells_443 : decode cL_tells 443 = .ok (.aload 7, 2) := by decide +kernel
theorem dL_tells_445 : decode cL_tells 445 = .ok (.bipush 14, 2) := by decide +kernel
theorem dL_tells_447 : decode cL_tells 447 = .ok (.iload 14, 2) := by decide +kernel
theorem dL_tells_449 : decode cL_tells 449 = .ok (.iadd, 1) := by decide +kernel
theorem dL_tells_450 : decode cL_tells 450 = .ok (.iaload, 1) := by decide +kernel
theorem dL_tells_451 : decode cL_tells 451 = .ok (.aload 8, 2) := by decide +kernel
theorem dL_tells_453 : decode cL_tells 453 = .ok (.bipush 14, 2) := by decide +kernel
theorem dL_tells_455 : decode cL_tells 455 = .ok (.iload 14, 2) := by decide +kernel
theorem dL_tells_457 : decode cL_tells 457 = .ok (.iadd, 1) := by decide +kernel
theorem dL_tells_458 : decode cL_tells 458 = .ok (.iaload, 1) := by decide +kernel
theorem dL_tells_459 : decode cL_tells 459 = .ok (.ixor, 1) := by decide +kernel
theorem dL_tells_460 : decode cL_tells 460 = .ok (.ior, 1) := by decide +kernel
theorem dL_tells_461 : decode cL_tells 461 = .ok (.iload 12, 2) := by decide +kernel
theorem dL_tells_463 : decode cL_tells 463 = .ok (.ishr, 1) := by decide +kernel
theorem dL_tells_464 : decode cL_tells 464 = .ok (.iconst 1, 1) := by decide +kernel
theorem dL_tells_465 : decode cL_tells 465 = .ok (.iand, 1) := by decide +kernel
theorem dL_tells_466 : decode cL_tells 466 = .ok (.iconst 1, 1) := by decide +kernel
theorem dL_tells_467 : decode cL_tells 467 = .ok (.if_icmp .ne 7, 3) := by decide +kernel
theorem dL_tells_470 : decode cL_tells 470 = .ok (.iconst 1, 1) := by decide +kernel
theorem dL_tells_471 : decode cL_tells 471 = .ok (.goto 4, 3) := by decide +kernel
theorem dL_tells_474 : decode cL_tells 474 = .ok (.iconst 0, 1) := by decide +kernel
theorem dL_tells_475 : decode cL_tells 475 = .ok (.iadd, 1) := by decide +kernel
theorem dL_tells_476 : decode cL_tells 476 = .ok (.istore 13, 2) := by decide +kernel
theorem dL_tells_478 : decode cL_tells 478 = .ok (.iinc 14 1, 3) := by decide +kernel
theorem dL_tells_481 : decode cL_tells 481 = .ok (.goto (-59), 3) := by decide +kernel
theorem dL_tells_484 : decode cL_tells 484 = .ok (.aload_n 0, 1) := by decide +kernel
theorem dL_tells_485 : decode cL_tells 485 = .ok (.bipush 6, 2) := by decide +kernel
theorem dL_tells_487 : decode cL_tells 487 = .ok (.iload 12, 2) := by decide +kernel
theorem dL_tells_489 : decode cL_tells 489 = .ok (.invokestatic 98, 3) := by decide +kernel
theorem dL_tells_492 : decode cL_tells 492 = .ok (.iload 12, 2) := by decide +kernel
theorem dL_tells_494 : decode cL_tells 494 = .ok (.aload_n 1, 1) := by decide +kernel
theorem dL_tells_495 : decode cL_tells 495 = .ok (.iconst 0, 1) := by decide +kernel
theorem dL_tells_496 : decode cL_tells 496 = .ok (.iaload, 1) := by decide +kernel
theorem dL_tells_497 : decode cL_tells 497 = .ok (.if_icmp .ge 8, 3) := by decide +kernel
theorem dL_tells_500 : decode cL_tells 500 = .ok (.iload 13, 2) := by decide +kernel
theorem dL_tells_502 : decode cL_tells 502 = .ok (.goto 5, 3) := by decide +kernel
theorem dL_tells_505 : decode cL_tells 505 = .ok (.bipush (-101), 2) := by decide +kernel
theorem dL_tells_507 : decode cL_tells 507 = .ok (.if_icmp .eq 5, 3) := by decide +kernel
theorem dL_tells_510 : decode cL_tells 510 = .ok (.iconst 0, 1) := by decide +kernel
theorem dL_tells_511 : decode cL_tells 511 = .ok (.ireturn, 1) := by decide +kernel
