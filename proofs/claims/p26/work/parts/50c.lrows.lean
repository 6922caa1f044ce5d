theorem dL_acts_416 : decode cL_acts 416 = .ok (.ishr, 1) := by decide +kernel
theorem dL_acts_417 : decode cL_acts 417 = .ok (.iconst 1, 1) := by decide +kernel
theorem dL_acts_418 : decode cL_acts 418 = .ok (.iand, 1) := by decide +kernel
theorem dL_acts_419 : decode cL_acts 419 = .ok (.iconst 1, 1) := by decide +kernel
theorem dL_acts_420 : decode cL_acts 420 = .ok (.if_icmp .ne 7, 3) := by decide +kernel
theorem dL_acts_423 : decode cL_acts 423 = .ok (.iconst 1, 1) := by decide +kernel
theorem dL_acts_424 : decode cL_acts 424 = .ok (.goto 4, 3) := by decide +kernel
theorem dL_acts_427 : decode cL_acts 427 = .ok (.iconst 0, 1) := by decide +kernel
theorem dL_acts_428 : decode cL_acts 428 = .ok (.istore 10, 2) := by decide +kernel
theorem dL_acts_430 : decode cL_acts 430 = .ok (.iload 7, 2) := by decide +kernel
theorem dL_acts_432 : decode cL_acts 432 = .ok (.ifCond .eq 33, 3) := by decide +kernel
theorem dL_acts_435 : decode cL_acts 435 = .ok (.iload 10, 2) := by decide +kernel
theorem dL_acts_437 : decode cL_acts 437 = .ok (.ifCond .eq 28, 3) := by decide +kernel
theorem dL_acts_440 : decode cL_acts 440 = .ok (.aload 4, 2) := by decide +kernel
theorem dL_acts_442 : decode cL_acts 442 = .ok (.iload 6, 2) := by decide +kernel
theorem dL_acts_444 : decode cL_acts 444 = .ok (.iload 8, 2) := by decide +kernel
theorem dL_acts_446 : decode cL_acts 446 = .ok (.iastore, 1) := by decide +kernel
theorem dL_acts_447 : decode cL_acts 447 = .ok (.aload 4, 2) := by decide +kernel
theorem dL_acts_449 : decode cL_acts 449 = .ok (.iconst 4, 1) := by decide +kernel
theorem dL_acts_450 : decode cL_acts 450 = .ok (.iload 6, 2) := by decide +kernel
theorem dL_acts_452 : decode cL_acts 452 = .ok (.iadd, 1) := by decide +kernel
theorem dL_acts_453 : decode cL_acts 453 = .ok (.iload 9, 2) := by decide +kernel
theorem dL_acts_455 : decode cL_acts 455 = .ok (.iastore, 1) := by decide +kernel
theorem dL_acts_456 : decode cL_acts 456 = .ok (.aload 4, 2) := by decide +kernel
theorem dL_acts_458 : decode cL_acts 458 = .ok (.bipush 8, 2) := by decide +kernel
theorem dL_acts_460 : decode cL_acts 460 = .ok (.iload 6, 2) := by decide +kernel
theorem dL_acts_462 : decode cL_acts 462 = .ok (.iadd, 1) := by decide +kernel
theorem dL_acts_463 : decode cL_acts 463 = .ok (.iconst 1, 1) := by decide +kernel
theorem dL_acts_464 : decode cL_acts 464 = .ok (.iastore, 1) := by decide +kernel
theorem dL_acts_465 : decode cL_acts 465 = .ok (.aload_n 0, 1) := by decide +kernel
theorem dL_acts_466 : decode cL_acts 466 = .ok (.iload 6, 2) := by decide +kernel
theorem dL_acts_468 : decode cL_acts 468 = .ok (.iload 8, 2) := by decide +kernel
theorem dL_acts_470 : decode cL_acts 470 = .ok (.iload 9, 2) := by decide +kernel
theorem dL_acts_472 : decode cL_acts 472 = .ok (.invokestatic 86, 3) := by decide +kernel
theorem dL_acts_475 : decode cL_acts 475 = .ok (.iload 7, 2) := by decide +kernel
theorem dL_acts_477 : decode cL_acts 477 = .ok (.ifCond .ne 8, 3) := by decide +kernel
theorem dL_acts_480 : decode cL_acts 480 = .ok (.bipush (-101), 2) := by decide +kernel
theorem dL_acts_482 : decode cL_acts 482 = .ok (.goto 14, 3) := by decide +kernel
theorem dL_acts_485 : decode cL_acts 485 = .ok (.iload 10, 2) := by decide +kernel
theorem dL_acts_487 : decode cL_acts 487 = .ok (.ifCond .eq 7, 3) := by decide +kernel
theorem dL_acts_490 : decode cL_acts 490 = .ok (.iconst 0, 1) := by decide +kernel
theorem dL_acts_491 : decode cL_acts 491 = .ok (.goto 5, 3) := by decide +kernel
theorem dL_acts_494 : decode cL_acts 494 = .ok (.bipush (-102), 2) := by decide +kernel
theorem dL_acts_496 : decode cL_acts 496 = .ok (.if_icmp .ne 7, 3) := by decide +kernel
theorem dL_acts_499 : decode cL_acts 499 = .ok (.iconst 1, 1) := by decide +kernel
theorem dL_acts_500 : decode cL_acts 500 = .ok (.goto 4, 3) := by decide +kernel
theorem dL_acts_503 : decode cL_acts 503 = .ok (.iconst 0, 1) := by decide +kernel
theorem dL_acts_504 : decode cL_acts 504 = .ok (.ireturn, 1) := by decide +kernel
theorem dL_acts_505 : decode cL_acts 505 = .ok (.iload_n 1, 1) := by decide +kernel
theorem dL_acts_506 : decode cL_acts 506 = .ok (.bipush 8, 2) := by decide +kernel
theorem dL_acts_508 : decode cL_acts 508 = .ok (.if_icmp .ge 115, 3) := by decide +kernel
theorem dL_acts_511 : decode cL_acts 511 = .ok (.iload_n 2, 1) := by decide +kernel
theorem dL_acts_512 : decode cL_acts 512 = .ok (.iconst 5, 1) := by decide +kernel
theorem dL_acts_513 : decode cL_acts 513 = .ok (.ishr, 1) := by decide +kernel
theorem dL_acts_514 : decode cL_acts 514 = .ok (.bipush 40, 2) := by decide +kernel
theorem dL_acts_516 : decode cL_acts 516 = .ok (.invokestatic 76, 3) := by decide +kernel
theorem dL_acts_519 : decode cL_acts 519 = .ok (.ifCond .ne 7, 3) := by decide +kernel
theorem dL_acts_522 : decode cL_acts 522 = .ok (.iconst 5, 1) := by decide +kernel
theorem dL_acts_523 : decode cL_acts 523 = .ok (.goto 10, 3) := by decide +kernel
theorem dL_acts_526 : decode cL_acts 526 = .ok (.iload_n 2, 1) := by decide +kernel
theorem dL_acts_527 : decode cL_acts 527 = .ok (.iconst 5, 1) := by decide +kernel
theorem dL_acts_528 : decode cL_acts 528 = .ok (.ishr, 1) := by decide +kernel
theorem dL_acts_529 : decode cL_acts 529 = .ok (.iconst 5, 1) := by decide +kernel
theorem dL_acts_530 : decode cL_acts 530 = .ok (.invokestatic 76, 3) := by decide +kernel
theorem dL_acts_533 : decode cL_acts 533 = .ok (.istore 8, 2) := by decide +kernel
theorem dL_acts_535 : decode cL_acts 535 = .ok (.iload 8, 2) := by decide +kernel
theorem dL_acts_537 : decode cL_acts 537 = .ok (.iconst 5, 1) := by decide +kernel
theorem dL_acts_538 : decode cL_acts 538 = .ok (.if_icmp .ge 7, 3) := by decide +kernel
theorem dL_acts_541 : decode cL_acts 541 = .ok (.iconst 1, 1) := by decide +kernel
theorem dL_acts_542 : decode cL_acts 542 = .ok (.goto 4, 3) := by decide +kernel
theorem dL_acts_545 : decode cL_acts 545 = .ok (.iconst 0, 1) := by decide +kernel
theorem dL_acts_546 : decode cL_acts 546 = .ok (.istore 9, 2) := by decide +kernel
theorem dL_acts_548 : decode cL_acts 548 = .ok (.iload 7, 2) := by decide +kernel
theorem dL_acts_550 : decode cL_acts 550 = .ok (.ifCond .eq 23, 3) := by decide +kernel
theorem dL_acts_553 : decode cL_acts 553 = .ok (.iload 9, 2) := by decide +kernel
theorem dL_acts_555 : decode cL_acts 555 = .ok (.ifCond .eq 18, 3) := by decide +kernel
theorem dL_acts_558 : decode cL_acts 558 = .ok (.aload 4, 2) := by decide +kernel
theorem dL_acts_560 : decode cL_acts 560 = .ok (.bipush 12, 2) := by decide +kernel
theorem dL_acts_562 : decode cL_acts 562 = .ok (.iload 6, 2) := by decide +kernel
theorem dL_acts_564 : decode cL_acts 564 = .ok (.iadd, 1) := by decide +kernel
theorem dL_acts_565 : decode cL_acts 565 = .ok (.dup2, 1) := by decide +kernel
theorem dL_acts_566 : decode cL_acts 566 = .ok (.iaload, 1) := by decide +kernel
theorem dL_acts_567 : decode cL_acts 567 = .ok (.iconst 1, 1) := by decide +kernel
theorem dL_acts_568 : decode cL_acts 568 = .ok (.iload 8, 2) := by decide +kernel
theorem dL_acts_570 : decode cL_acts 570 = .ok (.ishl, 1) := by decide +kernel
theorem dL_acts_571 : decode cL_acts 571 = .ok (.ixor, 1) := by decide +kernel
theorem dL_acts_572 : decode cL_acts 572 = .ok (.iastore, 1) := by decide +kernel
theorem dL_acts_573 : decode cL_acts 573 = .ok (.aload_n 0, 1) := by decide +kernel
theorem dL_acts_574 : decode cL_acts 574 = .ok (.iload 6, 2) := by decide +kernel
theorem dL_acts_576 : decode cL_acts 576 = .ok (.iload 8, 2) := by decide +kernel
theorem dL_acts_578 : decode cL_acts 578 = .ok (.invokestatic 89, 3) := by decide +kernel
theorem dL_acts_581 : decode cL_acts 581 = .ok (.iload 7, 2) := by decide +kernel
theorem dL_acts_583 : decode cL_acts 583 = .ok (.ifCond .ne 8, 3) := by decide +kernel
theorem dL_acts_586 : decode cL_acts 586 = .ok (.bipush (-101), 2) := by decide +kernel
theorem dL_acts_588 : decode cL_acts 588 = .ok (.goto 26, 3) := by decide +kernel
theorem dL_acts_591 : decode cL_acts 591 = .ok (.iload 9, 2) := by decide +kernel
theorem dL_acts_593 : decode cL_acts 593 = .ok (.ifCond .eq 19, 3) := by decide +kernel
theorem dL_acts_596 : decode cL_acts 596 = .ok (.aload 4, 2) := by decide +kernel
theorem dL_acts_598 : decode cL_acts 598 = .ok (.bipush 12, 2) := by decide +kernel
theorem dL_acts_600 : decode cL_acts 600 = .ok (.iload 6, 2) := by decide +kernel
theorem dL_acts_602 : decode cL_acts 602 = .ok (.iadd, 1) := by decide +kernel
theorem dL_acts_603 : decode cL_acts 603 = .ok (.iaload, 1) := by decide +kernel
theorem dL_acts_604 : decode cL_acts 604 = .ok (.iload 8, 2) := by decide +kernel
theorem dL_acts_606 : decode cL_acts 606 = .ok (.ishr, 1) := by decide +kernel
theorem dL_acts_607 : decode cL_acts 607 = .ok (.iconst 1, 1) := by decide +kernel
theorem dL_acts_608 : decode cL_acts 608 = .ok (.iand, 1) := by decide +kernel
theorem dL_acts_609 : decode cL_acts 609 = .ok (.goto 5, 3) := by decide +kernel
theorem dL_acts_612 : decode cL_acts 612 = .ok (.bipush (-102), 2) := by decide +kernel
theorem dL_acts_614 : decode cL_acts 614 = .ok (.if_icmp .ne 7, 3) := by decide +kernel
theorem dL_acts_617 : decode cL_acts 617 = .ok (.iconst 1, 1) := by decide +kernel
theorem dL_acts_618 : decode cL_acts 618 = .ok (.goto 4, 3) := by decide +kernel
theorem dL_acts_621 : decode cL_acts 621 = .ok (.iconst 0, 1) := by decide +kernel
theorem dL_acts_622 : decode cL_acts 622 = .ok (.ireturn, 1) := by decide +kernel
theorem dL_acts_623 : decode cL_acts 623 = .ok (.iload_n 1, 1) := by decide +kernel
theorem dL_acts_624 : decode cL_acts 624 = .ok (.bipush 8, 2) := by decide +kernel
theorem dL_acts_626 : decode cL_acts 626 = .ok (.if_icmp .ne 21, 3) := by decide +kernel
theorem dL_acts_629 : decode cL_acts 629 = .ok (.iload_n 2, 1) := by decide +kernel
theorem dL_acts_630 : decode cL_acts 630 = .ok (.iconst 4, 1) := by decide +kernel
theorem dL_acts_631 : decode cL_acts 631 = .ok (.invokestatic 76, 3) := by decide +kernel
