theorem dL_tells_512 : decode cL_tells 512 = .ok (.iinc 12 1, 3) := by decide +kernel
theorem dL_tells_515 : decode cL_tells 515 = .ok (.goto (-107), 3) := by decide +kernel
theorem dL_tells_518 : decode cL_tells 518 = .ok (.aload_n 0, 1) := by decide +kernel
theorem dL_tells_519 : decode cL_tells 519 = .ok (.invokevirtual 103, 3) := by decide +kernel
theorem dL_tells_522 : decode cL_tells 522 = .ok (.lload 10, 2) := by decide +kernel
theorem dL_tells_524 : decode cL_tells 524 = .ok (.lcmp, 1) := by decide +kernel
theorem dL_tells_525 : decode cL_tells 525 = .ok (.ifCond .ne 51, 3) := by decide +kernel
theorem dL_tells_528 : decode cL_tells 528 = .ok (.aload_n 0, 1) := by decide +kernel
theorem dL_tells_529 : decode cL_tells 529 = .ok (.invokevirtual 107, 3) := by decide +kernel
theorem dL_tells_532 : decode cL_tells 532 = .ok (.aload_n 1, 1) := by decide +kernel
theorem dL_tells_533 : decode cL_tells 533 = .ok (.iconst 1, 1) := by decide +kernel
theorem dL_tells_534 : decode cL_tells 534 = .ok (.iaload, 1) := by decide +kernel
theorem dL_tells_535 : decode cL_tells 535 = .ok (.if_icmp .ne 41, 3) := by decide +kernel
theorem dL_tells_538 : decode cL_tells 538 = .ok (.aload_n 0, 1) := by decide +kernel
theorem dL_tells_539 : decode cL_tells 539 = .ok (.invokevirtual 111, 3) := by decide +kernel
theorem dL_tells_542 : decode cL_tells 542 = .ok (.aload_n 1, 1) := by decide +kernel
theorem dL_tells_543 : decode cL_tells 543 = .ok (.iconst 0, 1) := by decide +kernel
theorem dL_tells_544 : decode cL_tells 544 = .ok (.iaload, 1) := by decide +kernel
theorem dL_tells_545 : decode cL_tells 545 = .ok (.if_icmp .ne 31, 3) := by decide +kernel
theorem dL_tells_548 : decode cL_tells 548 = .ok (.aload_n 0, 1) := by decide +kernel
theorem dL_tells_549 : decode cL_tells 549 = .ok (.invokevirtual 114, 3) := by decide +kernel
theorem dL_tells_552 : decode cL_tells 552 = .ok (.bipush 12, 2) := by decide +kernel
theorem dL_tells_554 : decode cL_tells 554 = .ok (.aload_n 1, 1) := by decide +kernel
theorem dL_tells_555 : decode cL_tells 555 = .ok (.iconst 0, 1) := by decide +kernel
theorem dL_tells_556 : decode cL_tells 556 = .ok (.iaload, 1) := by decide +kernel
theorem dL_tells_557 : decode cL_tells 557 = .ok (.imul, 1) := by decide +kernel
theorem dL_tells_558 : decode cL_tells 558 = .ok (.bipush 47, 2) := by decide +kernel
theorem dL_tells_560 : decode cL_tells 560 = .ok (.iadd, 1) := by decide +kernel
theorem dL_tells_561 : decode cL_tells 561 = .ok (.if_icmp .ne 15, 3) := by decide +kernel
theorem dL_tells_564 : decode cL_tells 564 = .ok (.aload_n 0, 1) := by decide +kernel
theorem dL_tells_565 : decode cL_tells 565 = .ok (.invokevirtual 117, 3) := by decide +kernel
theorem dL_tells_568 : decode cL_tells 568 = .ok (.aload_n 1, 1) := by decide +kernel
theorem dL_tells_569 : decode cL_tells 569 = .ok (.aload_n 3, 1) := by decide +kernel
theorem dL_tells_570 : decode cL_tells 570 = .ok (.invokestatic 120, 3) := by decide +kernel
theorem dL_tells_573 : decode cL_tells 573 = .ok (.if_icmp .eq 5, 3) := by decide +kernel
theorem dL_tells_576 : decode cL_tells 576 = .ok (.iconst 0, 1) := by decide +kernel
theorem dL_tells_577 : decode cL_tells 577 = .ok (.ireturn, 1) := by decide +kernel
theorem dL_tells_578 : decode cL_tells 578 = .ok (.iload 4, 2) := by decide +kernel
theorem dL_tells_580 : decode cL_tells 580 = .ok (.ifCond .ne 5, 3) := by decide +kernel
theorem dL_tells_583 : decode cL_tells 583 = .ok (.iconst 1, 1) := by decide +kernel
theorem dL_tells_584 : decode cL_tells 584 = .ok (.ireturn, 1) := by decide +kernel
theorem dL_tells_585 : decode cL_tells 585 = .ok (.aload_n 1, 1) := by decide +kernel
theorem dL_tells_586 : decode cL_tells 586 = .ok (.aload_n 2, 1) := by decide +kernel
theorem dL_tells_587 : decode cL_tells 587 = .ok (.aload_n 3, 1) := by decide +kernel
theorem dL_tells_588 : decode cL_tells 588 = .ok (.aload 8, 2) := by decide +kernel
theorem dL_tells_590 : decode cL_tells 590 = .ok (.aload 9, 2) := by decide +kernel
theorem dL_tells_592 : decode cL_tells 592 = .ok (.invokestatic 124, 3) := by decide +kernel
theorem dL_tells_595 : decode cL_tells 595 = .ok (.aload_n 0, 1) := by decide +kernel
theorem dL_tells_596 : decode cL_tells 596 = .ok (.invokevirtual 127, 3) := by decide +kernel
theorem dL_tells_599 : decode cL_tells 599 = .ok (.aload 9, 2) := by decide +kernel
theorem dL_tells_601 : decode cL_tells 601 = .ok (.iconst 0, 1) := by decide +kernel
theorem dL_tells_602 : decode cL_tells 602 = .ok (.iaload, 1) := by decide +kernel
theorem dL_tells_603 : decode cL_tells 603 = .ok (.if_icmp .ne 83, 3) := by decide +kernel
theorem dL_tells_606 : decode cL_tells 606 = .ok (.aload_n 0, 1) := by decide +kernel
theorem dL_tells_607 : decode cL_tells 607 = .ok (.invokevirtual 130, 3) := by decide +kernel
theorem dL_tells_610 : decode cL_tells 610 = .ok (.aload 9, 2) := by decide +kernel
theorem dL_tells_612 : decode cL_tells 612 = .ok (.iconst 3, 1) := by decide +kernel
theorem dL_tells_613 : decode cL_tells 613 = .ok (.iaload, 1) := by decide +kernel
theorem dL_tells_614 : decode cL_tells 614 = .ok (.if_icmp .ne 72, 3) := by decide +kernel
theorem dL_tells_617 : decode cL_tells 617 = .ok (.aload_n 0, 1) := by decide +kernel
theorem dL_tells_618 : decode cL_tells 618 = .ok (.bipush 7, 2) := by decide +kernel
theorem dL_tells_620 : decode cL_tells 620 = .ok (.iconst 0, 1) := by decide +kernel
theorem dL_tells_621 : decode cL_tells 621 = .ok (.invokestatic 98, 3) := by decide +kernel
theorem dL_tells_624 : decode cL_tells 624 = .ok (.aload 9, 2) := by decide +kernel
theorem dL_tells_626 : decode cL_tells 626 = .ok (.iconst 0, 1) := by decide +kernel
theorem dL_tells_627 : decode cL_tells 627 = .ok (.iaload, 1) := by decide +kernel
theorem dL_tells_628 : decode cL_tells 628 = .ok (.ifCond .le 10, 3) := by decide +kernel
theorem dL_tells_631 : decode cL_tells 631 = .ok (.aload 9, 2) := by decide +kernel
theorem dL_tells_633 : decode cL_tells 633 = .ok (.iconst 1, 1) := by decide +kernel
theorem dL_tells_634 : decode cL_tells 634 = .ok (.iaload, 1) := by decide +kernel
theorem dL_tells_635 : decode cL_tells 635 = .ok (.goto 5, 3) := by decide +kernel
theorem dL_tells_638 : decode cL_tells 638 = .ok (.bipush (-101), 2) := by decide +kernel
theorem dL_tells_640 : decode cL_tells 640 = .ok (.if_icmp .ne 46, 3) := by decide +kernel
theorem dL_tells_643 : decode cL_tells 643 = .ok (.aload_n 0, 1) := by decide +kernel
theorem dL_tells_644 : decode cL_tells 644 = .ok (.bipush 7, 2) := by decide +kernel
theorem dL_tells_646 : decode cL_tells 646 = .ok (.iconst 1, 1) := by decide +kernel
theorem dL_tells_647 : decode cL_tells 647 = .ok (.invokestatic 98, 3) := by decide +kernel
theorem dL_tells_650 : decode cL_tells 650 = .ok (.aload 9, 2) := by decide +kernel
theorem dL_tells_652 : decode cL_tells 652 = .ok (.iconst 0, 1) := by decide +kernel
theorem dL_tells_653 : decode cL_tells 653 = .ok (.iaload, 1) := by decide +kernel
theorem dL_tells_654 : decode cL_tells 654 = .ok (.iconst 1, 1) := by decide +kernel
theorem dL_tells_655 : decode cL_tells 655 = .ok (.if_icmp .le 10, 3) := by decide +kernel
theorem dL_tells_658 : decode cL_tells 658 = .ok (.aload 9, 2) := by decide +kernel
theorem dL_tells_660 : decode cL_tells 660 = .ok (.iconst 2, 1) := by decide +kernel
theorem dL_tells_661 : decode cL_tells 661 = .ok (.iaload, 1) := by decide +kernel
theorem dL_tells_662 : decode cL_tells 662 = .ok (.goto 5, 3) := by decide +kernel
theorem dL_tells_665 : decode cL_tells 665 = .ok (.bipush (-101), 2) := by decide +kernel
theorem dL_tells_667 : decode cL_tells 667 = .ok (.if_icmp .ne 19, 3) := by decide +kernel
theorem dL_tells_670 : decode cL_tells 670 = .ok (.aload_n 0, 1) := by decide +kernel
theorem dL_tells_671 : decode cL_tells 671 = .ok (.bipush 7, 2) := by decide +kernel
theorem dL_tells_673 : decode cL_tells 673 = .ok (.iconst 2, 1) := by decide +kernel
theorem dL_tells_674 : decode cL_tells 674 = .ok (.invokestatic 98, 3) := by decide +kernel
theorem dL_tells_677 : decode cL_tells 677 = .ok (.bipush (-101), 2) := by decide +kernel
theorem dL_tells_679 : decode cL_tells 679 = .ok (.if_icmp .ne 7, 3) := by decide +kernel
theorem dL_tells_682 : decode cL_tells 682 = .ok (.iconst 1, 1) := by decide +kernel
theorem dL_tells_683 : decode cL_tells 683 = .ok (.goto 4, 3) := by decide +kernel
theorem dL_tells_686 : decode cL_tells 686 = .ok (.iconst 0, 1) := by decide +kernel
theorem dL_tells_687 : decode cL_tells 687 = .ok (.ireturn, 1) := by decide +kernel
