theorem dL_isHouse_494 : decode cL_isHouse 494 = .ok (.iload 4, 2) := by decide +kernel
theorem dL_isHouse_496 : decode cL_isHouse 496 = .ok (.iload 8, 2) := by decide +kernel
theorem dL_isHouse_498 : decode cL_isHouse 498 = .ok (.invokestatic 126, 3) := by decide +kernel
theorem dL_isHouse_501 : decode cL_isHouse 501 = .ok (.aload_n 0, 1) := by decide +kernel
theorem dL_isHouse_502 : decode cL_isHouse 502 = .ok (.iload 8, 2) := by decide +kernel
theorem dL_isHouse_504 : decode cL_isHouse 504 = .ok (.iload 4, 2) := by decide +kernel
theorem dL_isHouse_506 : decode cL_isHouse 506 = .ok (.invokestatic 126, 3) := by decide +kernel
theorem dL_isHouse_509 : decode cL_isHouse 509 = .ok (.if_icmp .ne 25, 3) := by decide +kernel
theorem dL_isHouse_512 : decode cL_isHouse 512 = .ok (.iload 8, 2) := by decide +kernel
theorem dL_isHouse_514 : decode cL_isHouse 514 = .ok (.iload 4, 2) := by decide +kernel
theorem dL_isHouse_516 : decode cL_isHouse 516 = .ok (.if_icmp .ne 14, 3) := by decide +kernel
theorem dL_isHouse_519 : decode cL_isHouse 519 = .ok (.aload_n 0, 1) := by decide +kernel
theorem dL_isHouse_520 : decode cL_isHouse 520 = .ok (.iload 4, 2) := by decide +kernel
theorem dL_isHouse_522 : decode cL_isHouse 522 = .ok (.iload 8, 2) := by decide +kernel
theorem dL_isHouse_524 : decode cL_isHouse 524 = .ok (.invokestatic 126, 3) := by decide +kernel
theorem dL_isHouse_527 : decode cL_isHouse 527 = .ok (.ifCond .ne 7, 3) := by decide +kernel
theorem dL_isHouse_530 : decode cL_isHouse 530 = .ok (.iconst 1, 1) := by decide +kernel
theorem dL_isHouse_531 : decode cL_isHouse 531 = .ok (.goto 4, 3) := by decide +kernel
theorem dL_isHouse_534 : decode cL_isHouse 534 = .ok (.iconst 0, 1) := by decide +kernel
theorem dL_isHouse_535 : decode cL_isHouse 535 = .ok (.istore_n 3, 1) := by decide +kernel
theorem dL_isHouse_536 : decode cL_isHouse 536 = .ok (.iinc 8 1, 3) := by decide +kernel
theorem dL_isHouse_539 : decode cL_isHouse 539 = .ok (.goto (-56), 3) := by decide +kernel
theorem dL_isHouse_542 : decode cL_isHouse 542 = .ok (.iinc 4 1, 3) := by decide +kernel
theorem dL_isHouse_545 : decode cL_isHouse 545 = .ok (.goto (-416), 3) := by decide +kernel
theorem dL_isHouse_548 : decode cL_isHouse 548 = .ok (.iconst 0, 1) := by decide +kernel
theorem dL_isHouse_549 : decode cL_isHouse 549 = .ok (.istore 4, 2) := by decide +kernel
theorem dL_isHouse_551 : decode cL_isHouse 551 = .ok (.iload 4, 2) := by decide +kernel
theorem dL_isHouse_553 : decode cL_isHouse 553 = .ok (.aload_n 0, 1) := by decide +kernel
theorem dL_isHouse_554 : decode cL_isHouse 554 = .ok (.bipush 14, 2) := by decide +kernel
theorem dL_isHouse_556 : decode cL_isHouse 556 = .ok (.invokestatic 103, 3) := by decide +kernel
theorem dL_isHouse_559 : decode cL_isHouse 559 = .ok (.if_icmp .ge 59, 3) := by decide +kernel
theorem dL_isHouse_562 : decode cL_isHouse 562 = .ok (.iload_n 3, 1) := by decide +kernel
theorem dL_isHouse_563 : decode cL_isHouse 563 = .ok (.ifCond .eq 55, 3) := by decide +kernel
theorem dL_isHouse_566 : decode cL_isHouse 566 = .ok (.aload_n 0, 1) := by decide +kernel
theorem dL_isHouse_567 : decode cL_isHouse 567 = .ok (.iload 4, 2) := by decide +kernel
theorem dL_isHouse_569 : decode cL_isHouse 569 = .ok (.iconst 0, 1) := by decide +kernel
theorem dL_isHouse_570 : decode cL_isHouse 570 = .ok (.invokestatic 152, 3) := by decide +kernel
theorem dL_isHouse_573 : decode cL_isHouse 573 = .ok (.aload_n 0, 1) := by decide +kernel
theorem dL_isHouse_574 : decode cL_isHouse 574 = .ok (.bipush 7, 2) := by decide +kernel
theorem dL_isHouse_576 : decode cL_isHouse 576 = .ok (.invokestatic 103, 3) := by decide +kernel
theorem dL_isHouse_579 : decode cL_isHouse 579 = .ok (.if_icmp .le 31, 3) := by decide +kernel
theorem dL_isHouse_582 : decode cL_isHouse 582 = .ok (.iload 4, 2) := by decide +kernel
theorem dL_isHouse_584 : decode cL_isHouse 584 = .ok (.ifCond .eq 22, 3) := by decide +kernel
theorem dL_isHouse_587 : decode cL_isHouse 587 = .ok (.aload_n 0, 1) := by decide +kernel
theorem dL_isHouse_588 : decode cL_isHouse 588 = .ok (.iload 4, 2) := by decide +kernel
theorem dL_isHouse_590 : decode cL_isHouse 590 = .ok (.iconst 0, 1) := by decide +kernel
theorem dL_isHouse_591 : decode cL_isHouse 591 = .ok (.invokestatic 152, 3) := by decide +kernel
theorem dL_isHouse_594 : decode cL_isHouse 594 = .ok (.aload_n 0, 1) := by decide +kernel
theorem dL_isHouse_595 : decode cL_isHouse 595 = .ok (.iload 4, 2) := by decide +kernel
theorem dL_isHouse_597 : decode cL_isHouse 597 = .ok (.iconst 1, 1) := by decide +kernel
theorem dL_isHouse_598 : decode cL_isHouse 598 = .ok (.isub, 1) := by decide +kernel
theorem dL_isHouse_599 : decode cL_isHouse 599 = .ok (.iconst 0, 1) := by decide +kernel
theorem dL_isHouse_600 : decode cL_isHouse 600 = .ok (.invokestatic 152, 3) := by decide +kernel
theorem dL_isHouse_603 : decode cL_isHouse 603 = .ok (.if_icmp .lt 7, 3) := by decide +kernel
theorem dL_isHouse_606 : decode cL_isHouse 606 = .ok (.iconst 1, 1) := by decide +kernel
theorem dL_isHouse_607 : decode cL_isHouse 607 = .ok (.goto 4, 3) := by decide +kernel
theorem dL_isHouse_610 : decode cL_isHouse 610 = .ok (.iconst 0, 1) := by decide +kernel
theorem dL_isHouse_611 : decode cL_isHouse 611 = .ok (.istore_n 3, 1) := by decide +kernel
theorem dL_isHouse_612 : decode cL_isHouse 612 = .ok (.iinc 4 1, 3) := by decide +kernel
theorem dL_isHouse_615 : decode cL_isHouse 615 = .ok (.goto (-64), 3) := by decide +kernel
theorem dL_isHouse_618 : decode cL_isHouse 618 = .ok (.iload_n 3, 1) := by decide +kernel
theorem dL_isHouse_619 : decode cL_isHouse 619 = .ok (.ifCond .eq 48, 3) := by decide +kernel
theorem dL_isHouse_622 : decode cL_isHouse 622 = .ok (.aload_n 0, 1) := by decide +kernel
theorem dL_isHouse_623 : decode cL_isHouse 623 = .ok (.invokevirtual 174, 3) := by decide +kernel
theorem dL_isHouse_626 : decode cL_isHouse 626 = .ok (.aload_n 0, 1) := by decide +kernel
theorem dL_isHouse_627 : decode cL_isHouse 627 = .ok (.bipush 13, 2) := by decide +kernel
theorem dL_isHouse_629 : decode cL_isHouse 629 = .ok (.invokestatic 103, 3) := by decide +kernel
theorem dL_isHouse_632 : decode cL_isHouse 632 = .ok (.if_icmp .ge 35, 3) := by decide +kernel
theorem dL_isHouse_635 : decode cL_isHouse 635 = .ok (.aload_n 0, 1) := by decide +kernel
theorem dL_isHouse_636 : decode cL_isHouse 636 = .ok (.iconst 5, 1) := by decide +kernel
theorem dL_isHouse_637 : decode cL_isHouse 637 = .ok (.invokestatic 158, 3) := by decide +kernel
theorem dL_isHouse_640 : decode cL_isHouse 640 = .ok (.aload_n 0, 1) := by decide +kernel
theorem dL_isHouse_641 : decode cL_isHouse 641 = .ok (.bipush 7, 2) := by decide +kernel
theorem dL_isHouse_643 : decode cL_isHouse 643 = .ok (.invokestatic 103, 3) := by decide +kernel
theorem dL_isHouse_646 : decode cL_isHouse 646 = .ok (.if_icmp .gt 21, 3) := by decide +kernel
theorem dL_isHouse_649 : decode cL_isHouse 649 = .ok (.aload_n 0, 1) := by decide +kernel
theorem dL_isHouse_650 : decode cL_isHouse 650 = .ok (.iconst 1, 1) := by decide +kernel
theorem dL_isHouse_651 : decode cL_isHouse 651 = .ok (.invokestatic 158, 3) := by decide +kernel
theorem dL_isHouse_654 : decode cL_isHouse 654 = .ok (.aload_n 0, 1) := by decide +kernel
theorem dL_isHouse_655 : decode cL_isHouse 655 = .ok (.bipush 7, 2) := by decide +kernel
theorem dL_isHouse_657 : decode cL_isHouse 657 = .ok (.invokestatic 103, 3) := by decide +kernel
theorem dL_isHouse_660 : decode cL_isHouse 660 = .ok (.if_icmp .gt 7, 3) := by decide +kernel
theorem dL_isHouse_663 : decode cL_isHouse 663 = .ok (.iconst 1, 1) := by decide +kernel
theorem dL_isHouse_664 : decode cL_isHouse 664 = .ok (.goto 4, 3) := by decide +kernel
theorem dL_isHouse_667 : decode cL_isHouse 667 = .ok (.iconst 0, 1) := by decide +kernel
theorem dL_isHouse_668 : decode cL_isHouse 668 = .ok (.ireturn, 1) := by decide +kernel
