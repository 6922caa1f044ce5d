theorem dL_run_341 : decode cL_run 341 = .ok (.iload 6, 2) := by decide +kernel
theorem dL_run_343 : decode cL_run 343 = .ok (.if_icmp .eq 7, 3) := by decide +kernel
theorem dL_run_346 : decode cL_run 346 = .ok (.iconst 1, 1) := by decide +kernel
theorem dL_run_347 : decode cL_run 347 = .ok (.goto 34, 3) := by decide +kernel
theorem dL_run_350 : decode cL_run 350 = .ok (.iconst 0, 1) := by decide +kernel
theorem dL_run_351 : decode cL_run 351 = .ok (.goto 30, 3) := by decide +kernel
theorem dL_run_354 : decode cL_run 354 = .ok (.iload 16, 2) := by decide +kernel
theorem dL_run_356 : decode cL_run 356 = .ok (.iload 6, 2) := by decide +kernel
theorem dL_run_358 : decode cL_run 358 = .ok (.if_icmp .eq 22, 3) := by decide +kernel
theorem dL_run_361 : decode cL_run 361 = .ok (.aload_n 1, 1) := by decide +kernel
theorem dL_run_362 : decode cL_run 362 = .ok (.iload 16, 2) := by decide +kernel
theorem dL_run_364 : decode cL_run 364 = .ok (.iaload, 1) := by decide +kernel
theorem dL_run_365 : decode cL_run 365 = .ok (.iload 11, 2) := by decide +kernel
theorem dL_run_367 : decode cL_run 367 = .ok (.iconst 1, 1) := by decide +kernel
theorem dL_run_368 : decode cL_run 368 = .ok (.isub, 1) := by decide +kernel
theorem dL_run_369 : decode cL_run 369 = .ok (.ishr, 1) := by decide +kernel
theorem dL_run_370 : decode cL_run 370 = .ok (.iconst 1, 1) := by decide +kernel
theorem dL_run_371 : decode cL_run 371 = .ok (.iand, 1) := by decide +kernel
theorem dL_run_372 : decode cL_run 372 = .ok (.iconst 1, 1) := by decide +kernel
theorem dL_run_373 : decode cL_run 373 = .ok (.if_icmp .ne 7, 3) := by decide +kernel
theorem dL_run_376 : decode cL_run 376 = .ok (.iconst 1, 1) := by decide +kernel
theorem dL_run_377 : decode cL_run 377 = .ok (.goto 4, 3) := by decide +kernel
theorem dL_run_380 : decode cL_run 380 = .ok (.iconst 0, 1) := by decide +kernel
theorem dL_run_381 : decode cL_run 381 = .ok (.istore 17, 2) := by decide +kernel
theorem dL_run_383 : decode cL_run 383 = .ok (.iload 15, 2) := by decide +kernel
theorem dL_run_385 : decode cL_run 385 = .ok (.iload 17, 2) := by decide +kernel
theorem dL_run_387 : decode cL_run 387 = .ok (.ifCond .eq 7, 3) := by decide +kernel
theorem dL_run_390 : decode cL_run 390 = .ok (.iconst 1, 1) := by decide +kernel
theorem dL_run_391 : decode cL_run 391 = .ok (.goto 4, 3) := by decide +kernel
theorem dL_run_394 : decode cL_run 394 = .ok (.iconst 0, 1) := by decide +kernel
theorem dL_run_395 : decode cL_run 395 = .ok (.iadd, 1) := by decide +kernel
theorem dL_run_396 : decode cL_run 396 = .ok (.istore 15, 2) := by decide +kernel
theorem dL_run_398 : decode cL_run 398 = .ok (.iload 17, 2) := by decide +kernel
theorem dL_run_400 : decode cL_run 400 = .ok (.ifCond .eq 74, 3) := by decide +kernel
theorem dL_run_403 : decode cL_run 403 = .ok (.aload_n 3, 1) := by decide +kernel
theorem dL_run_404 : decode cL_run 404 = .ok (.iload 16, 2) := by decide +kernel
theorem dL_run_406 : decode cL_run 406 = .ok (.iaload, 1) := by decide +kernel
theorem dL_run_407 : decode cL_run 407 = .ok (.iconst 1, 1) := by decide +kernel
theorem dL_run_408 : decode cL_run 408 = .ok (.iand, 1) := by decide +kernel
theorem dL_run_409 : decode cL_run 409 = .ok (.ifCond .ne 65, 3) := by decide +kernel
theorem dL_run_412 : decode cL_run 412 = .ok (.aload 4, 2) := by decide +kernel
theorem dL_run_414 : decode cL_run 414 = .ok (.iload 5, 2) := by decide +kernel
theorem dL_run_416 : decode cL_run 416 = .ok (.dup2, 1) := by decide +kernel
theorem dL_run_417 : decode cL_run 417 = .ok (.iaload, 1) := by decide +kernel
theorem dL_run_418 : decode cL_run 418 = .ok (.iconst 1, 1) := by decide +kernel
theorem dL_run_419 : decode cL_run 419 = .ok (.iload 16, 2) := by decide +kernel
theorem dL_run_421 : decode cL_run 421 = .ok (.ishl, 1) := by decide +kernel
theorem dL_run_422 : decode cL_run 422 = .ok (.iadd, 1) := by decide +kernel
theorem dL_run_423 : decode cL_run 423 = .ok (.iastore, 1) := by decide +kernel
theorem dL_run_424 : decode cL_run 424 = .ok (.aload 4, 2) := by decide +kernel
theorem dL_run_426 : decode cL_run 426 = .ok (.bipush 14, 2) := by decide +kernel
theorem dL_run_428 : decode cL_run 428 = .ok (.iload 5, 2) := by decide +kernel
theorem dL_run_430 : decode cL_run 430 = .ok (.iadd, 1) := by decide +kernel
theorem dL_run_431 : decode cL_run 431 = .ok (.dup2, 1) := by decide +kernel
theorem dL_run_432 : decode cL_run 432 = .ok (.iaload, 1) := by decide +kernel
theorem dL_run_433 : decode cL_run 433 = .ok (.aload_n 1, 1) := by decide +kernel
theorem dL_run_434 : decode cL_run 434 = .ok (.bipush 8, 2) := by decide +kernel
theorem dL_run_436 : decode cL_run 436 = .ok (.iload 16, 2) := by decide +kernel
theorem dL_run_438 : decode cL_run 438 = .ok (.iadd, 1) := by decide +kernel
theorem dL_run_439 : decode cL_run 439 = .ok (.iaload, 1) := by decide +kernel
theorem dL_run_440 : decode cL_run 440 = .ok (.iconst 1, 1) := by decide +kernel
theorem dL_run_441 : decode cL_run 441 = .ok (.if_icmp .ne 30, 3) := by decide +kernel
theorem dL_run_444 : decode cL_run 444 = .ok (.aload_n 1, 1) := by decide +kernel
theorem dL_run_445 : decode cL_run 445 = .ok (.iconst 4, 1) := by decide +kernel
theorem dL_run_446 : decode cL_run 446 = .ok (.iload 16, 2) := by decide +kernel
theorem dL_run_448 : decode cL_run 448 = .ok (.iadd, 1) := by decide +kernel
theorem dL_run_449 : decode cL_run 449 = .ok (.iaload, 1) := by decide +kernel
theorem dL_run_450 : decode cL_run 450 = .ok (.iload 11, 2) := by decide +kernel
theorem dL_run_452 : decode cL_run 452 = .ok (.if_icmp .eq 19, 3) := by decide +kernel
theorem dL_run_455 : decode cL_run 455 = .ok (.aload_n 3, 1) := by decide +kernel
theorem dL_run_456 : decode cL_run 456 = .ok (.iload 16, 2) := by decide +kernel
theorem dL_run_458 : decode cL_run 458 = .ok (.iaload, 1) := by decide +kernel
theorem dL_run_459 : decode cL_run 459 = .ok (.iconst 4, 1) := by decide +kernel
theorem dL_run_460 : decode cL_run 460 = .ok (.iand, 1) := by decide +kernel
theorem dL_run_461 : decode cL_run 461 = .ok (.ifCond .ne 10, 3) := by decide +kernel
theorem dL_run_464 : decode cL_run 464 = .ok (.iconst 1, 1) := by decide +kernel
theorem dL_run_465 : decode cL_run 465 = .ok (.iload 16, 2) := by decide +kernel
theorem dL_run_467 : decode cL_run 467 = .ok (.ishl, 1) := by decide +kernel
theorem dL_run_468 : decode cL_run 468 = .ok (.goto 4, 3) := by decide +kernel
theorem dL_run_471 : decode cL_run 471 = .ok (.iconst 0, 1) := by decide +kernel
theorem dL_run_472 : decode cL_run 472 = .ok (.iadd, 1) := by decide +kernel
theorem dL_run_473 : decode cL_run 473 = .ok (.iastore, 1) := by decide +kernel
theorem dL_run_474 : decode cL_run 474 = .ok (.iinc 16 1, 3) := by decide +kernel
theorem dL_run_477 : decode cL_run 477 = .ok (.goto (-158), 3) := by decide +kernel
theorem dL_run_480 : decode cL_run 480 = .ok (.aload 4, 2) := by decide +kernel
theorem dL_run_482 : decode cL_run 482 = .ok (.bipush 28, 2) := by decide +kernel
theorem dL_run_484 : decode cL_run 484 = .ok (.iload 5, 2) := by decide +kernel
theorem dL_run_486 : decode cL_run 486 = .ok (.iadd, 1) := by decide +kernel
theorem dL_run_487 : decode cL_run 487 = .ok (.iload 15, 2) := by decide +kernel
theorem dL_run_489 : decode cL_run 489 = .ok (.ifCond .le 7, 3) := by decide +kernel
theorem dL_run_492 : decode cL_run 492 = .ok (.iconst 0, 1) := by decide +kernel
theorem dL_run_493 : decode cL_run 493 = .ok (.goto 13, 3) := by decide +kernel
theorem dL_run_496 : decode cL_run 496 = .ok (.iload 14, 2) := by decide +kernel
theorem dL_run_498 : decode cL_run 498 = .ok (.ifCond .lt 7, 3) := by decide +kernel
theorem dL_run_501 : decode cL_run 501 = .ok (.iconst 4, 1) := by decide +kernel
theorem dL_run_502 : decode cL_run 502 = .ok (.goto 4, 3) := by decide +kernel
theorem dL_run_505 : decode cL_run 505 = .ok (.iconst 5, 1) := by decide +kernel
theorem dL_run_506 : decode cL_run 506 = .ok (.iastore, 1) := by decide +kernel
theorem dL_run_507 : decode cL_run 507 = .ok (.iinc 5 1, 3) := by decide +kernel
theorem dL_run_510 : decode cL_run 510 = .ok (.goto (-484), 3) := by decide +kernel
theorem dL_run_513 : decode cL_run 513 = .ok (.return_, 1) := by decide +kernel
